/-! ===== lists ===== -/
abbrev lS : Type := Nat → Option (Nat × (Nat → Int32))
def li_C (l : lS) (h : ab_H) : Prop := ∀ r, r < 3 → (l r = none → ab_i h (40 + 4 * r) 1 = -1) ∧ ∀ n f, l r = some (n, f) → n ≤ 40 ∧ ab_i h (40 + 4 * r) 1 = nI n ∧ ∀ j, j < 40 → ab_i h (40 + 4 * r + 1) j = f j
def li_M (l : lS) (h : ab_H) : Prop := ∀ r, r < 3 → (l r = none → ab_i h 69 r = -1) ∧ ∀ n f, l r = some (n, f) → n ≤ 40 ∧ ab_i h 69 r = nI n ∧ ∀ j, j < 40 → ab_i h 70 (40 * r + j) = f j
theorem at_C.li {sh : Nat → Nat × Nat} {rr : Nat → Nat → Nat} (H : at_C sh rr) {r : Nat} (hr : r < 3) : rr 36 r = 40 + 4 * r ∧ at_Numbers sh rr (40 + 4 * r) := by
  rcases (show r = 0 ∨ r = 1 ∨ r = 2 by omega) with rfl | rfl | rfl
  · exact ⟨H.p36_0, H.list0⟩
  · exact ⟨H.p36_1, H.list1⟩
  · exact ⟨H.p36_2, H.list2⟩
theorem li_C.gr {S T : List Nat} {l : lS} {h h1 : ab_H} (f : ab_gr S T h h1) (hb : ab_bs h) (hS : ∀ a, 40 ≤ a → a ≤ 49 → a % 4 < 2 → a ∉ S) (H : li_C l h) : li_C l h1 := by
  unfold ab_bs at hb
  intro r hr
  rw [((f.2.2 (40 + 4 * r) (by omega)).2.1 (hS _ (by omega) (by omega) (by omega))).1, ((f.2.2 (40 + 4 * r + 1) (by omega)).2.1 (hS _ (by omega) (by omega) (by omega))).1]
  exact H r hr
theorem li_M.fM {S K : List Nat} {l : lS} {h h1 : ab_H} (f : ab_fM S K h h1) (h69 : 69 ∉ S) (h70 : 70 ∉ S) (H : li_M l h) : li_M l h1 := by
  intro r hr
  rw [(f.2.2.2.2.1 69 (by decide) h69).1, (f.2.2.2.2.1 70 (by decide) h70).1]
  exact H r hr
/-- row r of lists is new -/
theorem li_C.up {l : lS} {h h1 : ab_H} {r n : Nat} {f : Nat → Int32} (H : li_C l h) (hb : ab_bs h) (hr : r < 3) (g : ab_gr [40 + 4 * r, 40 + 4 * r + 1] [] h h1) (hn : n ≤ 40) (e1 : ab_i h1 (40 + 4 * r) 1 = nI n) (e2 : ∀ j, j < 40 → ab_i h1 (40 + 4 * r + 1) j = f j) : ab_gr [40, 41, 44, 45, 48, 49] [] h h1 ∧ li_C (ab_up l r (some (n, f))) h1 := by
  unfold ab_bs at hb
  refine ⟨g.mono (fun a ha => ?_) (fun _ q => q), fun r' hr' => ?_⟩
  · simp at ha ⊢
    omega
  · by_cases c : r' = r
    · rw [c, ab_up_self]
      refine ⟨fun q => absurd q (by simp), fun n' f' q => ?_⟩
      injection q with q
      injection q with q1 q2
      rw [← q1, ← q2]
      exact ⟨hn, e1, e2⟩
    · rw [ab_up_ne _ _ c, ((g.2.2 (40 + 4 * r') (by omega)).2.1 (by simp; omega)).1, ((g.2.2 (40 + 4 * r' + 1) (by omega)).2.1 (by simp; omega)).1]
      exact H r' hr'
theorem li_M.up {l : lS} {h h1 : ab_H} {r n : Nat} {f : Nat → Int32} (H : li_M l h) (hr : r < 3) (hn : n ≤ 40) (e1 : ∀ t, ab_i h1 69 t = if t = r then nI n else ab_i h 69 t) (e2 : ∀ j, j < 40 → ab_i h1 70 (40 * r + j) = f j) (e3 : ∀ t, (t < 40 * r ∨ 40 * r + 40 ≤ t) → ab_i h1 70 t = ab_i h 70 t) : li_M (ab_up l r (some (n, f))) h1 := by
  intro r' hr'
  by_cases c : r' = r
  · rw [c, ab_up_self]
    refine ⟨fun q => absurd q (by simp), fun n' f' q => ?_⟩
    injection q with q
    injection q with q1 q2
    rw [← q1, ← q2]
    exact ⟨hn, by rw [e1, if_pos rfl], e2⟩
  · rw [ab_up_ne _ _ c]
    obtain ⟨q1, q2⟩ := H r' hr'
    refine ⟨fun q => by rw [e1, if_neg c]; exact q1 q, fun n' f' q => ?_⟩
    obtain ⟨z1, z2, z3⟩ := q2 n' f' q
    exact ⟨z1, by rw [e1, if_neg c]; exact z2, fun j hj => by rw [e3 _ (by omega)]; exact z3 j hj⟩
def sp_list (x n : Int32) : Nat ⊕ Int32 := if ab_inr 0 2 x = true then (if 40 < n.toInt then .inl 6 else if n.toInt < 0 then .inr (-14) else .inr 1) else .inl 1
def nx_list (l : lS) (x n : Int32) : lS := if n.toInt < 0 then l else ab_up l x.toNatClampNeg (some (n.toNatClampNeg, fun _ => 0))
def sp_put (l : lS) (x i : Int32) : Nat ⊕ Int32 := if ab_inr 0 2 x = true then (match l x.toNatClampNeg with | none => .inr (-11) | some (n, _) => if ab_inr 0 ((n : Int) - 1) i = true then .inr 1 else .inr (-13)) else .inl 1
def nx_put (l : lS) (x i v : Int32) : lS := match l x.toNatClampNeg with | none => l | some (n, f) => if ab_inr 0 ((n : Int) - 1) i = true then ab_up l x.toNatClampNeg (some (n, ab_up f i.toNatClampNeg v)) else l
def sp_look (l : lS) (x i : Int32) : Nat ⊕ Int64 := if ab_inr 0 2 x = true then (match l x.toNatClampNeg with | none => .inr 4000000000000000011 | some (n, f) => if ab_inr 0 ((n : Int) - 1) i = true then .inr (f i.toNatClampNeg).toInt64 else .inr 4000000000000000013) else .inl 1
noncomputable def jg (n hx hy : Nat) (f : Nat → Int32) : Nat → Nat → Int32
  | 0, _ => -9
  | j + 1, i => @ite _ (bd_n n ≤ i ∨ ¬ f i = nI (bd_P n hx hy i).1) (Classical.propDecidable _) (nI i) (jg n hx hy f j (i + 1))
noncomputable def sp_judge (n hx hy : Nat) (l : lS) (x : Int32) : Nat ⊕ Int32 := if ab_inr 0 2 x = true then (match l x.toNatClampNeg with | none => .inr (-11) | some (m, f) => .inr (jg n hx hy f m 0)) else .inl 1
theorem nI_ge0 {n : Nat} (h : n < 2147483648) : ¬ nI n < 0 := Int32.not_lt.mpr (nI_pos' h)
set_option maxRecDepth 100000 in
set_option maxHeartbeats 4000000 in
theorem c_nuMissing {k b a : Nat} {h : ab_H} {z : Int32} (hA : at_Numbers (ab_sh h) (ab_r h) a) (hz : ab_i h a 1 = z) : ab_M k b mX5_isMissing [.ref a] h (ab_pb (fun t h' => h' = h ∧ t = decide (z < 0))) := by
  refine ab_enter ?_
  refine ab_aload_n dX5_isMissing_0 rfl ?_
  refine ab_getI dX5_isMissing_1 fl_X5_13 hA.1 hz ?_
  refine ab_if_ge 11 dX5_isMissing_4 (by decide) (fun c_4 => ?_) (fun c_4 => ?_)
  · skip
    refine ab_iconst (v := nI 0) dX5_isMissing_11 (by decide) ?_
    refine ab_retb (x := false) dX5_isMissing_12 ?_
    first | exact ⟨rfl, (decide_eq_false (Int32.not_lt.mpr c_4)).symm⟩ | exact ⟨rfl, (decide_eq_true (Int32.not_le.mp c_4)).symm⟩
  · skip
    refine ab_iconst (v := nI 1) dX5_isMissing_7 (by decide) ?_
    refine ab_goto 12 dX5_isMissing_8 (by decide) ?_
    refine ab_retb (x := true) dX5_isMissing_12 ?_
    first | exact ⟨rfl, (decide_eq_false (Int32.not_lt.mpr c_4)).symm⟩ | exact ⟨rfl, (decide_eq_true (Int32.not_le.mp c_4)).symm⟩
set_option maxRecDepth 100000 in
set_option maxHeartbeats 4000000 in
theorem c_nuPlace {k b a n : Nat} {h : ab_H} {x : Int32} (hA : at_Numbers (ab_sh h) (ab_r h) a) (hz : ab_i h a 1 = nI n) (hn : n ≤ 1000) : ab_M k b mX5_hasPlace [.ref a, .int x] h (ab_pb (fun t h' => h' = h ∧ t = ab_inr 0 ((n : Int) - 1) x)) := by
  refine ab_enter ?_
  refine ab_iload_n dX5_hasPlace_0 rfl ?_
  refine ab_if_lt 16 dX5_hasPlace_1 (by decide) (fun c_1 => ?_) (fun c_1 => ?_)
  · skip
    refine ab_iconst (v := nI 0) dX5_hasPlace_16 (by decide) ?_
    refine ab_retb (x := false) dX5_hasPlace_17 ?_
    exact ⟨rfl, (ab_inr_no (Or.inl (ab_lt0.mp c_1))).symm⟩
  · skip
    refine ab_iload_n dX5_hasPlace_4 rfl ?_
    refine ab_aload_n dX5_hasPlace_5 rfl ?_
    refine ab_getI dX5_hasPlace_6 fl_X5_13 hA.1 hz ?_
    refine ab_icmp_ge 16 dX5_hasPlace_9 (by decide) (fun c_9 => ?_) (fun c_9 => ?_)
    · skip
      refine ab_iconst (v := nI 0) dX5_hasPlace_16 (by decide) ?_
      refine ab_retb (x := false) dX5_hasPlace_17 ?_
      exact ⟨rfl, (ab_inr_no (Or.inr (by have := (ab_leN (n := n) (by omega)).mp c_9; omega))).symm⟩
    · skip
      refine ab_iconst (v := nI 1) dX5_hasPlace_12 (by decide) ?_
      refine ab_goto 17 dX5_hasPlace_13 (by decide) ?_
      refine ab_retb (x := true) dX5_hasPlace_17 ?_
      exact ⟨rfl, (ab_inr_ok (by have := mt ab_lt0.mpr c_1; omega) (by have := mt (ab_leN (n := n) (by omega)).mpr c_9; omega)).symm⟩
set_option maxRecDepth 100000 in
set_option maxHeartbeats 4000000 in
theorem lp_nuZeros {k b a : Nat} {h : ab_H} {z : Int32} (hA : at_Numbers (ab_sh h) (ab_r h) a) : ∀ (j i : Nat) (h1 : ab_H), i + j = 40 → ab_fr [a, a + 1] h h1 → ab_i h1 a 1 = z → (∀ t, t < i → ab_i h1 (a + 1) t = 0) → ab_R k b mX5_makeZeros 7 [some (.ref a), some (.int z), some (.int (nI i))] [] h1 (ab_pv (fun h' => ab_fr [a, a + 1] h h' ∧ ab_i h' a 1 = z ∧ ∀ j, j < 40 → ab_i h' (a + 1) j = 0)) := by
  intro j
  induction j with
  | zero =>
    intro i h1 hi f ez hl
    obtain rfl : i = 40 := by omega
    have hA1 := at_Numbers.fr f hA
    refine ab_iload_n dX5_makeZeros_7 rfl ?_
    refine ab_bipush (v := nI 40) dX5_makeZeros_8 (by decide) ?_
    refine ab_nicmp_ge 26 dX5_makeZeros_10 (by decide) (by omega) (by omega) (fun c_10 => ?_) (fun c_10 => ?_)
    · skip
      refine ab_retv dX5_makeZeros_26 ?_
      exact ⟨f, ez, hl⟩
    · skip
      exact absurd (by omega) c_10
  | succ j ih =>
    intro i h1 hi f ez hl
    have hA1 := at_Numbers.fr f hA
    refine ab_iload_n dX5_makeZeros_7 rfl ?_
    refine ab_bipush (v := nI 40) dX5_makeZeros_8 (by decide) ?_
    refine ab_nicmp_ge 26 dX5_makeZeros_10 (by decide) (by omega) (by omega) (fun c_10 => ?_) (fun c_10 => ?_)
    · skip
      exact absurd c_10 (by omega)
    · skip
      refine ab_aload_n dX5_makeZeros_13 rfl ?_
      refine ab_getR dX5_makeZeros_14 fl_X5_9 hA1.1 hA1.2.1 ?_
      refine ab_iload_n dX5_makeZeros_17 rfl ?_
      refine ab_iconst (v := nI 0) dX5_makeZeros_18 (by decide) ?_
      refine ab_iast dX5_makeZeros_19 hA1.2.2 rfl (by omega) ?_
      refine ab_nincR (ls' := [_, _, _]) dX5_makeZeros_20 rfl rfl ?_
      refine ab_goto 7 dX5_makeZeros_23 (by decide) ?_
      exact ih (i + 1) _ (by omega) (f.si _ _ _ (by simp)) ((congrFun (ab_i_off (by omega)) 1).trans ez) (ab_si_next (P := fun _ => 0) hl rfl)
set_option maxRecDepth 100000 in
set_option maxHeartbeats 4000000 in
theorem c_nuZeros {k b a : Nat} {h : ab_H} {z : Int32} (hA : at_Numbers (ab_sh h) (ab_r h) a) : ab_M k b mX5_makeZeros [.ref a, .int z] h (ab_pv (fun h' => ab_fr [a, a + 1] h h' ∧ ab_i h' a 1 = z ∧ ∀ j, j < 40 → ab_i h' (a + 1) j = 0)) := by
  refine ab_enter ?_
  refine ab_aload_n dX5_makeZeros_0 rfl ?_
  refine ab_iload_n dX5_makeZeros_1 rfl ?_
  refine ab_putI dX5_makeZeros_2 fl_X5_13 hA.1 ?_
  refine ab_iconst (v := nI 0) dX5_makeZeros_5 (by decide) ?_
  refine ab_sti_n (ls' := [_, _, _]) dX5_makeZeros_6 (by decide) rfl ?_
  exact lp_nuZeros hA 40 0 _ rfl ((ab_fr.rf h).si _ _ _ (by simp)) (by rw [ab_i_si_same, if_pos rfl]) (fun t ht => absurd ht (Nat.not_lt_zero t))
set_option maxRecDepth 100000 in
set_option maxHeartbeats 4000000 in
theorem c_list {k b : Nat} {h : ab_H} {l : lS} {x z : Int32} (hk : 1 ≤ k) (hb : ab_bs h) (hC : at_C (ab_sh h) (ab_r h)) (hL : li_C l h) : ab_M k b mX11_list [.ref 5, .int x, .int z] h (ab_pi (ab_oX 37 (ab_gr [] [] h) (fun h' => ab_gr [40, 41, 44, 45, 48, 49] [] h h' ∧ li_C (nx_list l x z) h') (sp_list x z))) := by
  refine ab_enter ?_
  refine ab_iload_n dX11_list_0 rfl ?_
  refine ab_callSb [_] dX11_list_1 ml_X11_301 mk_X11_isRow (c_isRow (k := 0) (b := 0)) (fun t1 hh0 hq => ?_)
  obtain ⟨hhe, rfl⟩ := hq
  rw [hhe]
  refine ab_bif_ne 13 dX11_list_4 (by decide) (fun c_4 => ?_) (fun c_4 => ?_)
  · skip
    refine ab_iload_n dX11_list_13 rfl ?_
    refine ab_bipush (v := nI 40) dX11_list_14 (by decide) ?_
    refine ab_icmp_le 26 dX11_list_16 (by decide) (fun c_16 => ?_) (fun c_16 => ?_)
    · skip
      refine ab_iload_n dX11_list_26 rfl ?_
      refine ab_if_ge 33 dX11_list_27 (by decide) (fun c_27 => ?_) (fun c_27 => ?_)
      · skip
        have hn0 : 0 ≤ z.toInt := ab_ge0.mp c_27
        have hn40 := (ab_Nle (n := 40) (by omega)).mp c_16
        have c_4k := c_4
        obtain ⟨r, rfl, hr2, hr31⟩ := ab_inr_nat (n := 2) c_4
        have hr : r < 3 := by omega
        obtain ⟨eR, hA⟩ := hC.li hr
        obtain ⟨q1, q2⟩ := hL r hr
        refine ab_aload_n dX11_list_33 rfl ?_
        refine ab_getR dX11_list_34 fl_X11_52 hC.hs hC.p5_6 ?_
        refine ab_iload_n dX11_list_37 rfl ?_
        refine ab_aald (t := 5) dX11_list_38 hC.s36 rfl (by omega) eR ?_
        refine ab_iload_n dX11_list_39 rfl ?_
        refine ab_callVv [_] dX11_list_40 ml_X11_325 mk_X5_makeZeros hA.1 (c_nuZeros (k := 0) (b := 0) hA) (fun h1 hq => ?_)
        obtain ⟨f, e1, e2⟩ := hq
        refine ab_iconst (v := nI 1) dX11_list_43 (by decide) ?_
        refine ab_reti dX11_list_44 ?_
        obtain ⟨n, rfl, hn31⟩ := ab_of0 (ab_ge0.mpr hn0)
        rw [nI_toInt hn31] at hn40 hn0
        refine ab_oX_ok (by unfold sp_list; rw [if_pos c_4k, nI_toInt hn31, if_neg (by omega), if_neg (by omega)]; rfl) ?_
        unfold nx_list
        rw [nI_toInt hn31, if_neg (by omega), nI_clamp hr31, nI_clamp hn31]
        exact hL.up hb hr (ab_gr.of f) (by omega) e1 e2
      · skip
        refine ab_bipush (v := -14) dX11_list_30 (by decide) ?_
        refine ab_reti dX11_list_32 ?_
        have hn0 : z.toInt < 0 := by have := mt ab_ge0.mpr c_27; omega
        exact ab_oX_ok (by unfold sp_list; rw [if_pos c_4, if_neg (by have := (ab_Nle (n := 40) (by omega)).mp c_16; omega), if_pos hn0]) ⟨ab_gr.rf h, by unfold nx_list; rw [if_pos hn0]; exact hL⟩
    · skip
      refine ab_aload_n dX11_list_19 rfl ?_
      refine ab_bipush (v := -6) dX11_list_20 (by decide) ?_
      refine ab_callVi [_] dX11_list_22 ml_X11_66 mk_X11_refuse hC.hs (c_refuse (k := 0) (b := 0) (c := 6) hC (by decide) (by omega) (by omega)) (fun v1 hh1 hq => ?_)
      obtain ⟨hv, hh⟩ := hq
      refine ab_reti dX11_list_25 ?_
      exact ab_oX_no (by unfold sp_list; rw [if_pos c_4, if_pos (by have := mt (ab_Nle (n := 40) (by omega)).mpr c_16; omega)]) (ab_gr.rf h) hv hh
  · skip
    refine ab_aload_n dX11_list_7 rfl ?_
    refine ab_iconst (v := -1) dX11_list_8 (by decide) ?_
    refine ab_callVi [_] dX11_list_9 ml_X11_66 mk_X11_refuse hC.hs (c_refuse (k := 0) (b := 0) (c := 1) hC (by decide) (by omega) (by omega)) (fun v1 hh1 hq => ?_)
    obtain ⟨hv, hh⟩ := hq
    refine ab_reti dX11_list_12 ?_
    exact ab_oX_no (by unfold sp_list; rw [if_neg (fun q => ab_tf q c_4)]) (ab_gr.rf h) hv hh
set_option maxRecDepth 100000 in
set_option maxHeartbeats 4000000 in
theorem c_put {k b : Nat} {h : ab_H} {l : lS} {x z v : Int32} (hk : 1 ≤ k) (hb : ab_bs h) (hC : at_C (ab_sh h) (ab_r h)) (hL : li_C l h) : ab_M k b mX11_put [.ref 5, .int x, .int z, .int v] h (ab_pi (ab_oX 37 (ab_gr [] [] h) (fun h' => ab_gr [40, 41, 44, 45, 48, 49] [] h h' ∧ li_C (nx_put l x z v) h') (sp_put l x z))) := by
  refine ab_enter ?_
  refine ab_iload_n dX11_put_0 rfl ?_
  refine ab_callSb [_] dX11_put_1 ml_X11_301 mk_X11_isRow (c_isRow (k := 0) (b := 0)) (fun t1 hh0 hq => ?_)
  obtain ⟨hhe, rfl⟩ := hq
  rw [hhe]
  refine ab_bif_ne 13 dX11_put_4 (by decide) (fun c_4 => ?_) (fun c_4 => ?_)
  · skip
    have c_4k := c_4
    obtain ⟨r, rfl, hr2, hr31⟩ := ab_inr_nat (n := 2) c_4
    have hr : r < 3 := by omega
    obtain ⟨eR, hA⟩ := hC.li hr
    obtain ⟨q1, q2⟩ := hL r hr
    cases e : l r with
    | none =>
      have hz9 := q1 e
      refine ab_aload_n dX11_put_13 rfl ?_
      refine ab_getR dX11_put_14 fl_X11_52 hC.hs hC.p5_6 ?_
      refine ab_iload_n dX11_put_17 rfl ?_
      refine ab_aald (t := 5) dX11_put_18 hC.s36 rfl (by omega) eR ?_
      refine ab_sta (ls' := [_, _, _, _, _]) dX11_put_19 (by decide) rfl ?_
      refine ab_aload dX11_put_21 rfl ?_
      refine ab_callVb [] dX11_put_23 ml_X11_328 mk_X5_isMissing hA.1 (c_nuMissing (k := 0) (b := 0) hA hz9) (fun t2 hh2 hq => ?_)
      obtain ⟨hhe, rfl⟩ := hq
      rw [hhe]
      refine ab_bif_eq 32 dX11_put_26 (by decide) (fun c_26 => ?_) (fun c_26 => ?_)
      · skip
        exact absurd c_26 (by decide)
      · skip
        refine ab_bipush (v := -11) dX11_put_29 (by decide) ?_
        refine ab_reti dX11_put_31 ?_
        exact ab_oX_ok (by unfold sp_put; rw [if_pos c_4k, nI_clamp hr31, e]) ⟨ab_gr.rf h, (by unfold nx_put; rw [nI_clamp hr31, e]; exact hL)⟩
    | some v9 =>
      obtain ⟨n, f⟩ := v9
      obtain ⟨hn40, hz9, hf⟩ := q2 n f e
      refine ab_aload_n dX11_put_13 rfl ?_
      refine ab_getR dX11_put_14 fl_X11_52 hC.hs hC.p5_6 ?_
      refine ab_iload_n dX11_put_17 rfl ?_
      refine ab_aald (t := 5) dX11_put_18 hC.s36 rfl (by omega) eR ?_
      refine ab_sta (ls' := [_, _, _, _, _]) dX11_put_19 (by decide) rfl ?_
      refine ab_aload dX11_put_21 rfl ?_
      refine ab_callVb [] dX11_put_23 ml_X11_328 mk_X5_isMissing hA.1 (c_nuMissing (k := 0) (b := 0) hA hz9) (fun t2 hh2 hq => ?_)
      obtain ⟨hhe, rfl⟩ := hq
      rw [hhe]
      refine ab_bif_eq 32 dX11_put_26 (by decide) (fun c_26 => ?_) (fun c_26 => ?_)
      · skip
        refine ab_aload dX11_put_32 rfl ?_
        refine ab_iload_n dX11_put_34 rfl ?_
        refine ab_callVb [_] dX11_put_35 ml_X11_329 mk_X5_hasPlace hA.1 (c_nuPlace (k := 0) (b := 0) hA hz9 (by omega)) (fun t3 hh3 hq => ?_)
        obtain ⟨hhe, rfl⟩ := hq
        rw [hhe]
        refine ab_bif_ne 44 dX11_put_38 (by decide) (fun c_38 => ?_) (fun c_38 => ?_)
        · skip
          have c_38k := c_38
          obtain ⟨i, rfl, hi, hi31⟩ := bd_inr_n (by omega) c_38
          refine ab_aload dX11_put_44 rfl ?_
          refine ab_getR dX11_put_46 fl_X11_330 hA.1 hA.2.1 ?_
          refine ab_iload_n dX11_put_49 rfl ?_
          refine ab_iload_n dX11_put_50 rfl ?_
          refine ab_iast dX11_put_51 hA.2.2 rfl (by omega) ?_
          refine ab_iconst (v := nI 1) dX11_put_52 (by decide) ?_
          refine ab_reti dX11_put_53 ?_
          refine ab_oX_ok (by unfold sp_put; rw [if_pos c_4k, nI_clamp hr31, e]; simp only; rw [if_pos c_38k]; rfl) ?_
          unfold nx_put
          rw [nI_clamp hr31, e]
          simp only
          rw [if_pos c_38k, nI_clamp hi31]
          exact hL.up hb hr ((ab_gr.rf h).siN _ _ (Or.inl (by simp))) hn40 ((congrFun (ab_i_off (by omega)) 1).trans hz9) (fun j hj => by rw [ab_i_si_same, ab_up_at]; split; rfl; exact hf j hj)
        · skip
          refine ab_bipush (v := -13) dX11_put_41 (by decide) ?_
          refine ab_reti dX11_put_43 ?_
          exact ab_oX_ok (by unfold sp_put; rw [if_pos c_4k, nI_clamp hr31, e]; simp only; rw [if_neg (fun q => ab_tf q c_38)]) ⟨ab_gr.rf h, (by unfold nx_put; rw [nI_clamp hr31, e]; simp only; rw [if_neg (fun q => ab_tf q c_38)]; exact hL)⟩
      · skip
        exact absurd (of_decide_eq_true c_26) (nI_ge0 (by omega))
  · skip
    refine ab_aload_n dX11_put_7 rfl ?_
    refine ab_iconst (v := -1) dX11_put_8 (by decide) ?_
    refine ab_callVi [_] dX11_put_9 ml_X11_66 mk_X11_refuse hC.hs (c_refuse (k := 0) (b := 0) (c := 1) hC (by decide) (by omega) (by omega)) (fun v1 hh1 hq => ?_)
    obtain ⟨hv, hh⟩ := hq
    refine ab_reti dX11_put_12 ?_
    exact ab_oX_no (by unfold sp_put; rw [if_neg (fun q => ab_tf q c_4)]) (ab_gr.rf h) hv hh
set_option maxRecDepth 100000 in
set_option maxHeartbeats 4000000 in
theorem c_look {k b : Nat} {h : ab_H} {l : lS} {x z : Int32} (hk : 2 ≤ k) (hC : at_C (ab_sh h) (ab_r h)) (hL : li_C l h) : ab_M k b mX11_look [.ref 5, .int x, .int z] h (ab_pl (ab_lX 37 (ab_gr [] [] h) (ab_gr [] [] h) (sp_look l x z))) := by
  refine ab_enter ?_
  refine ab_iload_n dX11_look_0 rfl ?_
  refine ab_callSb [_] dX11_look_1 ml_X11_301 mk_X11_isRow (c_isRow (k := 0) (b := 0)) (fun t1 hh0 hq => ?_)
  obtain ⟨hhe, rfl⟩ := hq
  rw [hhe]
  refine ab_bif_ne 13 dX11_look_4 (by decide) (fun c_4 => ?_) (fun c_4 => ?_)
  · skip
    have c_4k := c_4
    obtain ⟨r, rfl, hr2, hr31⟩ := ab_inr_nat (n := 2) c_4
    have hr : r < 3 := by omega
    obtain ⟨eR, hA⟩ := hC.li hr
    obtain ⟨q1, q2⟩ := hL r hr
    cases e : l r with
    | none =>
      have hz9 := q1 e
      refine ab_aload_n dX11_look_13 rfl ?_
      refine ab_getR dX11_look_14 fl_X11_52 hC.hs hC.p5_6 ?_
      refine ab_iload_n dX11_look_17 rfl ?_
      refine ab_aald (t := 5) dX11_look_18 hC.s36 rfl (by omega) eR ?_
      refine ab_sta_n (ls' := [_, _, _, _]) dX11_look_19 (by decide) rfl ?_
      refine ab_aload_n dX11_look_20 rfl ?_
      refine ab_callVb [] dX11_look_21 ml_X11_328 mk_X5_isMissing hA.1 (c_nuMissing (k := 0) (b := 0) hA hz9) (fun t2 hh2 hq => ?_)
      obtain ⟨hhe, rfl⟩ := hq
      rw [hhe]
      refine ab_bif_eq 31 dX11_look_24 (by decide) (fun c_24 => ?_) (fun c_24 => ?_)
      · skip
        exact absurd c_24 (by decide)
      · skip
        refine ab_ldc2 dX11_look_27 kc_X11_332 ?_
        refine ab_retl dX11_look_30 ?_
        exact ab_lX_ok (by unfold sp_look; rw [if_pos c_4k, nI_clamp hr31, e]) (ab_gr.rf h)
    | some v =>
      obtain ⟨n, f⟩ := v
      obtain ⟨hn40, hz9, hf⟩ := q2 n f e
      refine ab_aload_n dX11_look_13 rfl ?_
      refine ab_getR dX11_look_14 fl_X11_52 hC.hs hC.p5_6 ?_
      refine ab_iload_n dX11_look_17 rfl ?_
      refine ab_aald (t := 5) dX11_look_18 hC.s36 rfl (by omega) eR ?_
      refine ab_sta_n (ls' := [_, _, _, _]) dX11_look_19 (by decide) rfl ?_
      refine ab_aload_n dX11_look_20 rfl ?_
      refine ab_callVb [] dX11_look_21 ml_X11_328 mk_X5_isMissing hA.1 (c_nuMissing (k := 0) (b := 0) hA hz9) (fun t2 hh2 hq => ?_)
      obtain ⟨hhe, rfl⟩ := hq
      rw [hhe]
      refine ab_bif_eq 31 dX11_look_24 (by decide) (fun c_24 => ?_) (fun c_24 => ?_)
      · skip
        refine ab_aload_n dX11_look_31 rfl ?_
        refine ab_iload_n dX11_look_32 rfl ?_
        refine ab_callVb [_] dX11_look_33 ml_X11_329 mk_X5_hasPlace hA.1 (c_nuPlace (k := 0) (b := 0) hA hz9 (by omega)) (fun t3 hh3 hq => ?_)
        obtain ⟨hhe, rfl⟩ := hq
        rw [hhe]
        refine ab_bif_ne 43 dX11_look_36 (by decide) (fun c_36 => ?_) (fun c_36 => ?_)
        · skip
          have c_36k := c_36
          obtain ⟨i, rfl, hi, hi31⟩ := bd_inr_n (by omega) c_36
          refine ab_aload_n dX11_look_43 rfl ?_
          refine ab_getR dX11_look_44 fl_X11_330 hA.1 hA.2.1 ?_
          refine ab_iload_n dX11_look_47 rfl ?_
          refine ab_iald dX11_look_48 hA.2.2 rfl (by omega) (hf i (by omega)) ?_
          refine ab_i2l dX11_look_49 ?_
          refine ab_retl dX11_look_50 ?_
          exact ab_lX_ok (by unfold sp_look; rw [if_pos c_4k, nI_clamp hr31, e]; simp only; rw [if_pos c_36k, nI_clamp hi31]) (ab_gr.rf h)
        · skip
          refine ab_ldc2 dX11_look_39 kc_X11_334 ?_
          refine ab_retl dX11_look_42 ?_
          exact ab_lX_ok (by unfold sp_look; rw [if_pos c_4k, nI_clamp hr31, e]; simp only; rw [if_neg (fun q => ab_tf q c_36)]) (ab_gr.rf h)
      · skip
        exact absurd (of_decide_eq_true c_24) (nI_ge0 (by omega))
  · skip
    refine ab_aload_n dX11_look_7 rfl ?_
    refine ab_iconst (v := -1) dX11_look_8 (by decide) ?_
    refine ab_callVl [_] dX11_look_9 ml_X11_148 mk_X11_refuseFar hC.hs (c_refuseFar (k := 1) (b := 0) (c := 1) (Nat.le_refl _) hC (by decide) (by omega) (by omega)) (fun v1 hh1 hq => ?_)
    obtain ⟨hv, hh⟩ := hq
    refine ab_retl dX11_look_12 ?_
    exact ab_lX_no (by unfold sp_look; rw [if_neg (fun q => ab_tf q c_4)]) (ab_gr.rf h) hv hh
theorem jg_yes {n hx hy j i : Nat} {f : Nat → Int32} (h : bd_n n ≤ i ∨ ¬ f i = nI (bd_P n hx hy i).1) : jg n hx hy f (j + 1) i = nI i := by rw [jg, if_pos h]
theorem jg_no {n hx hy j i : Nat} {f : Nat → Int32} (h : i < bd_n n) (h2 : f i = nI (bd_P n hx hy i).1) : jg n hx hy f (j + 1) i = jg n hx hy f j (i + 1) := by rw [jg, if_neg (fun q => q.elim (fun z => by omega) (fun z => z h2))]
theorem ab_inr_true2 {i n : Nat} (h : i < n) (hn : n < 2147483648) : ab_inr 0 ((n : Int) - 1) (nI i) = true := ab_inr_ok (by rw [nI_toInt (by omega)]; omega) (by rw [nI_toInt (by omega)]; omega)
set_option maxRecDepth 100000 in
set_option maxHeartbeats 4000000 in
theorem lp_judge {k b n0 hx hy r m : Nat} {h : ab_H} {f : Nat → Int32} (hk : 1 ≤ k) (hC : at_C (ab_sh h) (ab_r h)) (hD : bd_C n0 hx hy 6 h) (hr : r < 3) (hA : at_Numbers (ab_sh h) (ab_r h) (40 + 4 * r)) (hm : m ≤ 40) (hz9 : ab_i h (40 + 4 * r) 1 = nI m) (hf : ∀ j, j < 40 → ab_i h (40 + 4 * r + 1) j = f j) : ∀ (j i : Nat), i + j = m → jg n0 hx hy f m 0 = jg n0 hx hy f j i → ab_R k b mX11_judge 32 [some (.ref 5), some (.int (nI r)), some (.ref (40 + 4 * r)), some (.int (nI i))] [] h (ab_pi (fun v h' => h' = h ∧ v = jg n0 hx hy f m 0)) := by
  intro j
  induction j with
  | zero =>
    intro i hi hv
    have hb85 := bd_n_le n0 hD.n4
    obtain rfl : i = m := by omega
    refine ab_iload_n dX11_judge_32 rfl ?_
    refine ab_aload_n dX11_judge_33 rfl ?_
    refine ab_getI dX11_judge_34 fl_X11_336 hA.1 hz9 ?_
    refine ab_nicmp_ge 76 dX11_judge_37 (by decide) (by omega) (by omega) (fun c_37 => ?_) (fun c_37 => ?_)
    · skip
      refine ab_bipush (v := -9) dX11_judge_76 (by decide) ?_
      refine ab_reti dX11_judge_78 ?_
      exact ⟨rfl, hv.symm⟩
    · skip
      exact absurd (Nat.le_refl _) c_37
  | succ j ih =>
    intro i hi hv
    have hb85 := bd_n_le n0 hD.n4
    skip
    refine ab_iload_n dX11_judge_32 rfl ?_
    refine ab_aload_n dX11_judge_33 rfl ?_
    refine ab_getI dX11_judge_34 fl_X11_336 hA.1 hz9 ?_
    refine ab_nicmp_ge 76 dX11_judge_37 (by decide) (by omega) (by omega) (fun c_37 => ?_) (fun c_37 => ?_)
    · skip
      exact absurd c_37 (by omega)
    · skip
      refine ab_aload_n dX11_judge_40 rfl ?_
      refine ab_getR dX11_judge_41 fl_X11_10 hC.hs hC.p5_0 ?_
      refine ab_iload_n dX11_judge_44 rfl ?_
      refine ab_callVb [_] dX11_judge_45 ml_X11_113 mk_X0_hasPiece hC.board.1 (c_hasPiece (k := 0) (b := 0) (p := bd_n n0) hC.board hD.f3 hb85) (fun t5 hh5 hq => ?_)
      obtain ⟨hhe, rfl⟩ := hq
      rw [hhe]
      refine ab_bif_eq 68 dX11_judge_48 (by decide) (fun c_48 => ?_) (fun c_48 => ?_)
      · have hni : ¬ i < bd_n n0 := fun q => ab_tf (ab_inr_true2 q (by omega)) c_48
        refine ab_iload_n dX11_judge_68 rfl ?_
        refine ab_reti dX11_judge_69 ?_
        first | exact ⟨rfl, (hv.trans (jg_yes (Or.inl (by omega)))).symm⟩ | exact ⟨rfl, (hv.trans (jg_yes (Or.inr c_65))).symm⟩
      · obtain ⟨i2, e2, hi2, -⟩ := bd_inr_n (by omega) c_48; obtain rfl : i = i2 := (ab_ninj (by omega) (by omega)).mp e2
        refine ab_aload_n dX11_judge_51 rfl ?_
        refine ab_getR dX11_judge_52 fl_X11_330 hA.1 hA.2.1 ?_
        refine ab_iload_n dX11_judge_55 rfl ?_
        refine ab_iald dX11_judge_56 hA.2.2 rfl (by omega) (hf i (by omega)) ?_
        refine ab_aload_n dX11_judge_57 rfl ?_
        refine ab_getR dX11_judge_58 fl_X11_10 hC.hs hC.p5_0 ?_
        refine ab_iload_n dX11_judge_61 rfl ?_
        refine ab_callVn [_] dX11_judge_62 ml_X11_117 mk_X0_wayOf hC.board.1 (c_wayOf (k := 0) (b := 0) hC.board hD hi2) (fun x h1 hq => ?_)
        obtain ⟨hhe, rfl⟩ := hq
        rw [hhe]
        refine ab_icmp_eq 70 dX11_judge_65 (by decide) (fun c_65 => ?_) (fun c_65 => ?_)
        · skip
          refine ab_nincR (ls' := [_, _, _, _]) dX11_judge_70 rfl rfl ?_
          refine ab_goto 32 dX11_judge_73 (by decide) ?_
          exact ih (i + 1) (by omega) (hv.trans (jg_no hi2 c_65))
        · skip
          refine ab_iload_n dX11_judge_68 rfl ?_
          refine ab_reti dX11_judge_69 ?_
          first | exact ⟨rfl, (hv.trans (jg_yes (Or.inl (by omega)))).symm⟩ | exact ⟨rfl, (hv.trans (jg_yes (Or.inr c_65))).symm⟩
set_option maxRecDepth 100000 in
set_option maxHeartbeats 4000000 in
theorem c_judge {k b n0 hx hy : Nat} {h : ab_H} {l : lS} {x : Int32} (hk : 1 ≤ k) (hC : at_C (ab_sh h) (ab_r h)) (hD : bd_C n0 hx hy 6 h) (hL : li_C l h) : ab_M k b mX11_judge [.ref 5, .int x] h (ab_pi (ab_oX 37 (ab_gr [] [] h) (ab_gr [] [] h) (sp_judge n0 hx hy l x))) := by
  refine ab_enter ?_
  refine ab_iload_n dX11_judge_0 rfl ?_
  refine ab_callSb [_] dX11_judge_1 ml_X11_301 mk_X11_isRow (c_isRow (k := 0) (b := 0)) (fun t1 hh0 hq => ?_)
  obtain ⟨hhe, rfl⟩ := hq
  rw [hhe]
  refine ab_bif_ne 13 dX11_judge_4 (by decide) (fun c_4 => ?_) (fun c_4 => ?_)
  · skip
    have c_4k := c_4
    obtain ⟨r, rfl, hr2, hr31⟩ := ab_inr_nat (n := 2) c_4
    have hr : r < 3 := by omega
    obtain ⟨eR, hA⟩ := hC.li hr
    obtain ⟨q1, q2⟩ := hL r hr
    cases e : l r with
    | none =>
      have hz9 := q1 e
      refine ab_aload_n dX11_judge_13 rfl ?_
      refine ab_getR dX11_judge_14 fl_X11_52 hC.hs hC.p5_6 ?_
      refine ab_iload_n dX11_judge_17 rfl ?_
      refine ab_aald (t := 5) dX11_judge_18 hC.s36 rfl (by omega) eR ?_
      refine ab_sta_n (ls' := [_, _, _, _]) dX11_judge_19 (by decide) rfl ?_
      refine ab_aload_n dX11_judge_20 rfl ?_
      refine ab_callVb [] dX11_judge_21 ml_X11_328 mk_X5_isMissing hA.1 (c_nuMissing (k := 0) (b := 0) hA hz9) (fun t2 hh2 hq => ?_)
      obtain ⟨hhe, rfl⟩ := hq
      rw [hhe]
      refine ab_bif_eq 30 dX11_judge_24 (by decide) (fun c_24 => ?_) (fun c_24 => ?_)
      · skip
        exact absurd c_24 (by decide)
      · skip
        refine ab_bipush (v := -11) dX11_judge_27 (by decide) ?_
        refine ab_reti dX11_judge_29 ?_
        exact ab_oX_ok (by unfold sp_judge; rw [if_pos c_4k, nI_clamp hr31, e]) (ab_gr.rf h)
    | some v =>
      obtain ⟨n, f⟩ := v
      obtain ⟨hn40, hz9, hf⟩ := q2 n f e
      refine ab_aload_n dX11_judge_13 rfl ?_
      refine ab_getR dX11_judge_14 fl_X11_52 hC.hs hC.p5_6 ?_
      refine ab_iload_n dX11_judge_17 rfl ?_
      refine ab_aald (t := 5) dX11_judge_18 hC.s36 rfl (by omega) eR ?_
      refine ab_sta_n (ls' := [_, _, _, _]) dX11_judge_19 (by decide) rfl ?_
      refine ab_aload_n dX11_judge_20 rfl ?_
      refine ab_callVb [] dX11_judge_21 ml_X11_328 mk_X5_isMissing hA.1 (c_nuMissing (k := 0) (b := 0) hA hz9) (fun t2 hh2 hq => ?_)
      obtain ⟨hhe, rfl⟩ := hq
      rw [hhe]
      refine ab_bif_eq 30 dX11_judge_24 (by decide) (fun c_24 => ?_) (fun c_24 => ?_)
      · skip
        refine ab_iconst (v := nI 0) dX11_judge_30 (by decide) ?_
        refine ab_sti_n (ls' := [_, _, _, _]) dX11_judge_31 (by decide) rfl ?_
        refine ab_mono ?_ (lp_judge hk hC hD hr hA hn40 hz9 hf n 0 (by omega) rfl)
        rintro v h9 ⟨x9, hx9, e9, e10⟩
        exact ⟨x9, hx9, ab_oX_ok (by unfold sp_judge; rw [if_pos c_4k, nI_clamp hr31, e, e10]) (by rw [e9]; exact ab_gr.rf h)⟩
      · skip
        exact absurd (of_decide_eq_true c_24) (nI_ge0 (by omega))
  · skip
    refine ab_aload_n dX11_judge_7 rfl ?_
    refine ab_iconst (v := -1) dX11_judge_8 (by decide) ?_
    refine ab_callVi [_] dX11_judge_9 ml_X11_66 mk_X11_refuse hC.hs (c_refuse (k := 0) (b := 0) (c := 1) hC (by decide) (by omega) (by omega)) (fun v1 hh1 hq => ?_)
    obtain ⟨hv, hh⟩ := hq
    refine ab_reti dX11_judge_12 ?_
    exact ab_oX_no (by unfold sp_judge; rw [if_neg (fun q => ab_tf q c_4)]) (ab_gr.rf h) hv hh
