/-! ===== racks ===== -/
abbrev rS : Type := Nat → Option (Nat × Nat × (Nat → Option (Nat × Int)))
def pl_C (h : ab_H) (w : Nat) (p : Option (Nat × Int)) : Prop := (p = none → w = 0) ∧ ∀ k v, p = some (k, v) → ∃ t c A, tr_at h w t c A ∧ t.1 = k ∧ k < 6 ∧ vQ A = v ∧ 0 ≤ A.1 ∧ qB 147639151108467216 73819575554233608 A
def pl_M (x y : Int32) (p : Option (Nat × Int)) : Prop := (p = none → x = -9) ∧ ∀ k v, p = some (k, v) → x = nI k ∧ k < 6 ∧ y = iI v
theorem pl_C.gr {S T : List Nat} {h h1 : ab_H} {w : Nat} {p : Option (Nat × Int)} (f : ab_gr S T h h1) (hs : ∀ a, a ∈ S → a < 78) (ht : ∀ a, a ∈ T → a < 78) (H : pl_C h w p) : pl_C h1 w p := ⟨H.1, fun k v e => by
  obtain ⟨t, c, A, q1, q2⟩ := H.2 k v e
  exact ⟨t, c, A, q1.gr f hs ht, q2⟩⟩
theorem pl_C.st {h : ab_H} {w : Nat} {p : Option (Nat × Int)} (H : pl_C h w p) : w = 0 ∨ ab_sh h w = (10, 0) := by
  cases p with
  | none => exact Or.inl (H.1 rfl)
  | some v =>
    obtain ⟨t, c, A, q1, -⟩ := H.2 v.1 v.2 rfl
    exact Or.inr q1.2.2.1
def rk_C (R : rS) (h : ab_H) : Prop := ∀ r, r < 3 → (R r = none → ab_i h (38 + 4 * r) 1 = -1) ∧ ∀ kd n f, R r = some (kd, n, f) → kd < 6 ∧ n ≤ 9 ∧ ab_i h (38 + 4 * r) 1 = nI n ∧ ab_i h (38 + 4 * r) 2 = nI kd ∧ ∀ j, j < 9 → pl_C h (ab_r h (38 + 4 * r + 1) j) (f j)
def rk_M (R : rS) (h : ab_H) : Prop := ∀ r, r < 3 → (R r = none → ab_i h 65 r = -9) ∧ ∀ kd n f, R r = some (kd, n, f) → kd < 6 ∧ n ≤ 9 ∧ ab_i h 65 r = nI kd ∧ ab_i h 66 r = nI n ∧ ∀ j, j < 9 → pl_M (ab_i h 67 (9 * r + j)) (ab_i h 68 (9 * r + j)) (f j)
theorem at_C.ra {sh : Nat → Nat × Nat} {rr : Nat → Nat → Nat} (H : at_C sh rr) {r : Nat} (hr : r < 3) : rr 35 r = 38 + 4 * r ∧ at_Rack sh rr (38 + 4 * r) := by
  rcases (show r = 0 ∨ r = 1 ∨ r = 2 by omega) with rfl | rfl | rfl
  · exact ⟨H.p35_0, H.rack0⟩
  · exact ⟨H.p35_1, H.rack1⟩
  · exact ⟨H.p35_2, H.rack2⟩
theorem at_Rack.gr {S T : List Nat} {a : Nat} {h h1 : ab_H} (f : ab_gr S T h h1) (hb : ab_bs h) (ha : a + 1 < 78) (n0 : a ∉ T) (H : at_Rack (ab_sh h) (ab_r h) a) : at_Rack (ab_sh h1) (ab_r h1) a := by
  unfold ab_bs at hb
  unfold at_Rack at *
  rw [(f.2.2 a (by omega)).1, (f.2.2 a (by omega)).2.2 n0, (f.2.2 (a + 1) (by omega)).1]
  exact H
theorem rk_C.gr {S T : List Nat} {R : rS} {h h1 : ab_H} (f : ab_gr S T h h1) (hb : ab_bs h) (hs : ∀ a, a ∈ S → a < 78) (ht : ∀ a, a ∈ T → a < 78) (hS : ∀ a, 38 ≤ a → a ≤ 46 → a % 4 = 2 → a ∉ S) (hT : ∀ a, 39 ≤ a → a ≤ 47 → a % 4 = 3 → a ∉ T) (H : rk_C R h) : rk_C R h1 := by
  unfold ab_bs at hb
  intro r hr
  obtain ⟨q1, q2⟩ := H r hr
  rw [((f.2.2 (38 + 4 * r) (by omega)).2.1 (hS _ (by omega) (by omega) (by omega))).1, (f.2.2 (38 + 4 * r + 1) (by omega)).2.2 (hT _ (by omega) (by omega) (by omega))]
  refine ⟨q1, fun kd n g e => ?_⟩
  obtain ⟨z1, z2, z3, z4, z5⟩ := q2 kd n g e
  exact ⟨z1, z2, z3, z4, fun j hj => (z5 j hj).gr f hs ht⟩
theorem rk_M.fM {S K : List Nat} {R : rS} {h h1 : ab_H} (f : ab_fM S K h h1) (hS : ∀ a, 65 ≤ a → a ≤ 68 → a ∉ S) (H : rk_M R h) : rk_M R h1 := by
  intro r hr
  rw [(f.2.2.2.2.1 65 (by decide) (hS _ (by decide) (by decide))).1, (f.2.2.2.2.1 66 (by decide) (hS _ (by decide) (by decide))).1, (f.2.2.2.2.1 67 (by decide) (hS _ (by decide) (by decide))).1, (f.2.2.2.2.1 68 (by decide) (hS _ (by decide) (by decide))).1]
  exact H r hr
theorem rk_C.up {R : rS} {h h1 : ab_H} {r kd n : Nat} {f : Nat → Option (Nat × Int)} (H : rk_C R h) (hb : ab_bs h) (hr : r < 3) (g : ab_gr [38 + 4 * r] [38 + 4 * r + 1] h h1) (hk : kd < 6) (hn : n ≤ 9) (e1 : ab_i h1 (38 + 4 * r) 1 = nI n) (e2 : ab_i h1 (38 + 4 * r) 2 = nI kd) (e3 : ∀ j, j < 9 → pl_C h1 (ab_r h1 (38 + 4 * r + 1) j) (f j)) : ab_gr [38, 42, 46] [39, 43, 47] h h1 ∧ rk_C (ab_up R r (some (kd, n, f))) h1 := by
  unfold ab_bs at hb
  refine ⟨g.mono (fun a ha => ?_) (fun a ha => ?_), fun r' hr' => ?_⟩
  · simp at ha ⊢; omega
  · simp at ha ⊢; omega
  · by_cases c : r' = r
    · rw [c, ab_up_self]
      refine ⟨fun q => absurd q (by simp), fun kd' n' f' q => ?_⟩
      injection q with q
      injection q with q0 q
      injection q with q1 q2
      rw [← q0, ← q1, ← q2]
      exact ⟨hk, hn, e1, e2, e3⟩
    · rw [ab_up_ne _ _ c, ((g.2.2 (38 + 4 * r') (by omega)).2.1 (by simp; omega)).1, (g.2.2 (38 + 4 * r' + 1) (by omega)).2.2 (by simp; omega)]
      obtain ⟨q1, q2⟩ := H r' hr'
      refine ⟨q1, fun kd' n' f' q => ?_⟩
      obtain ⟨z1, z2, z3, z4, z5⟩ := q2 kd' n' f' q
      exact ⟨z1, z2, z3, z4, fun j hj => (z5 j hj).gr g (sg78 (by omega)) (sg78 (by omega))⟩
theorem rk_M.up {R : rS} {h h1 : ab_H} {r kd n : Nat} {f : Nat → Option (Nat × Int)} (H : rk_M R h) (hr : r < 3) (hk : kd < 6) (hn : n ≤ 9) (e1 : ∀ t, ab_i h1 65 t = if t = r then nI kd else ab_i h 65 t) (e2 : ∀ t, ab_i h1 66 t = if t = r then nI n else ab_i h 66 t) (e3 : ∀ j, j < 9 → pl_M (ab_i h1 67 (9 * r + j)) (ab_i h1 68 (9 * r + j)) (f j)) (e4 : ∀ t, (t < 9 * r ∨ 9 * r + 9 ≤ t) → ab_i h1 67 t = ab_i h 67 t ∧ ab_i h1 68 t = ab_i h 68 t) : rk_M (ab_up R r (some (kd, n, f))) h1 := by
  intro r' hr'
  by_cases c : r' = r
  · rw [c, ab_up_self]
    refine ⟨fun q => absurd q (by simp), fun kd' n' f' q => ?_⟩
    injection q with q
    injection q with q0 q
    injection q with q1 q2
    rw [← q0, ← q1, ← q2]
    exact ⟨hk, hn, by rw [e1, if_pos rfl], by rw [e2, if_pos rfl], e3⟩
  · rw [ab_up_ne _ _ c]
    obtain ⟨q1, q2⟩ := H r' hr'
    refine ⟨fun q => by rw [e1, if_neg c]; exact q1 q, fun kd' n' f' q => ?_⟩
    obtain ⟨z1, z2, z3, z4, z5⟩ := q2 kd' n' f' q
    exact ⟨z1, z2, by rw [e1, if_neg c]; exact z3, by rw [e2, if_neg c]; exact z4, fun j hj => by rw [(e4 _ (by omega)).1, (e4 _ (by omega)).2]; exact z5 j hj⟩
def sp_rack (x k n : Int32) : Nat ⊕ Int32 := if ab_inr 0 2 x = true then (if ab_inr 0 5 k = true then (if 9 < n.toInt then .inl 6 else if n.toInt < 0 then .inr (-14) else .inr 1) else .inl 2) else .inl 1
def nx_rack (R : rS) (x k n : Int32) : rS := if n.toInt < 0 then R else ab_up R x.toNatClampNeg (some (k.toNatClampNeg, n.toNatClampNeg, fun _ => none))
def sp_racks (s : sS) (R : rS) (x i t : Int32) : Nat ⊕ Int32 := if ab_inr 0 2 x = true ∧ (t = -1 ∨ ab_inr 0 ((s.2.2.1 : Int) - 1) t = true) then (match R x.toNatClampNeg with | none => .inr (-11) | some (kd, n, _) => if ab_inr 0 ((n : Int) - 1) i = true then (if t = -1 ∨ un (s.2.2.2 t.toNatClampNeg).1 kd = true then .inr 1 else .inr (-16)) else .inr (-13)) else .inl 1
def nx_racks (s : sS) (R : rS) (x i t : Int32) : rS := match R x.toNatClampNeg with | none => R | some (kd, n, f) => if ab_inr 0 ((n : Int) - 1) i = true then (if t = -1 ∨ un (s.2.2.2 t.toNatClampNeg).1 kd = true then ab_up R x.toNatClampNeg (some (kd, n, ab_up f i.toNatClampNeg (if t = -1 then none else some ((s.2.2.2 t.toNatClampNeg).1, vQ (sA s t.toNatClampNeg))))) else R) else R
def rkV (f : Nat → Option (Nat × Int)) (i : Nat) (w : Int32) : Int32 := match f i with | none => -9 | some (k, v) => if w = 0 then nI k else nI 100 + iI v
def sp_racked (R : rS) (x i w : Int32) : Nat ⊕ Int32 := if ab_inr 0 2 x = true then (if ab_inr 0 1 w = true then (match R x.toNatClampNeg with | none => .inr (-11) | some (_, n, f) => if ab_inr 0 ((n : Int) - 1) i = true then .inr (rkV f i.toNatClampNeg w) else .inr (-13)) else .inl 2) else .inl 1
def sp_like (R : rS) (x y : Int32) : Nat ⊕ Int32 := if ab_inr 0 2 x = true ∧ ab_inr 0 2 y = true then (match R y.toNatClampNeg with | none => .inr (-11) | some (_, n, _) => .inr (nI n)) else .inl 1
def nx_like (R : rS) (x y : Int32) : rS := match R y.toNatClampNeg with | none => R | some v => ab_up R x.toNatClampNeg (some v)
set_option maxRecDepth 100000 in
set_option maxHeartbeats 4000000 in
theorem c_raMissing {k b a : Nat} {h : ab_H} {z : Int32} (hA : at_Rack (ab_sh h) (ab_r h) a) (hz : ab_i h a 1 = z) : ab_M k b mX7_isMissing [.ref a] h (ab_pb (fun t h' => h' = h ∧ t = decide (z < 0))) := by
  refine ab_enter ?_
  refine ab_aload_n dX7_isMissing_0 rfl ?_
  refine ab_getI dX7_isMissing_1 fl_X7_15 hA.1 hz ?_
  refine ab_if_ge 11 dX7_isMissing_4 (by decide) (fun c_4 => ?_) (fun c_4 => ?_)
  · skip
    refine ab_iconst (v := nI 0) dX7_isMissing_11 (by decide) ?_
    refine ab_retb (x := false) dX7_isMissing_12 ?_
    first | exact ⟨rfl, (decide_eq_false (Int32.not_lt.mpr c_4)).symm⟩ | exact ⟨rfl, (decide_eq_true (Int32.not_le.mp c_4)).symm⟩
  · skip
    refine ab_iconst (v := nI 1) dX7_isMissing_7 (by decide) ?_
    refine ab_goto 12 dX7_isMissing_8 (by decide) ?_
    refine ab_retb (x := true) dX7_isMissing_12 ?_
    first | exact ⟨rfl, (decide_eq_false (Int32.not_lt.mpr c_4)).symm⟩ | exact ⟨rfl, (decide_eq_true (Int32.not_le.mp c_4)).symm⟩
set_option maxRecDepth 100000 in
set_option maxHeartbeats 4000000 in
theorem c_raPlace {k b a n : Nat} {h : ab_H} {x : Int32} (hA : at_Rack (ab_sh h) (ab_r h) a) (hz : ab_i h a 1 = nI n) (hn : n ≤ 1000) : ab_M k b mX7_hasPlace [.ref a, .int x] h (ab_pb (fun t h' => h' = h ∧ t = ab_inr 0 ((n : Int) - 1) x)) := by
  refine ab_enter ?_
  refine ab_iload_n dX7_hasPlace_0 rfl ?_
  refine ab_if_lt 16 dX7_hasPlace_1 (by decide) (fun c_1 => ?_) (fun c_1 => ?_)
  · skip
    refine ab_iconst (v := nI 0) dX7_hasPlace_16 (by decide) ?_
    refine ab_retb (x := false) dX7_hasPlace_17 ?_
    exact ⟨rfl, (ab_inr_no (Or.inl (ab_lt0.mp c_1))).symm⟩
  · skip
    refine ab_iload_n dX7_hasPlace_4 rfl ?_
    refine ab_aload_n dX7_hasPlace_5 rfl ?_
    refine ab_getI dX7_hasPlace_6 fl_X7_15 hA.1 hz ?_
    refine ab_icmp_ge 16 dX7_hasPlace_9 (by decide) (fun c_9 => ?_) (fun c_9 => ?_)
    · skip
      refine ab_iconst (v := nI 0) dX7_hasPlace_16 (by decide) ?_
      refine ab_retb (x := false) dX7_hasPlace_17 ?_
      exact ⟨rfl, (ab_inr_no (Or.inr (by have := (ab_leN (n := n) (by omega)).mp c_9; omega))).symm⟩
    · skip
      refine ab_iconst (v := nI 1) dX7_hasPlace_12 (by decide) ?_
      refine ab_goto 17 dX7_hasPlace_13 (by decide) ?_
      refine ab_retb (x := true) dX7_hasPlace_17 ?_
      exact ⟨rfl, (ab_inr_ok (by have := mt ab_lt0.mpr c_1; omega) (by have := mt (ab_leN (n := n) (by omega)).mpr c_9; omega)).symm⟩
set_option maxRecDepth 100000 in
set_option maxHeartbeats 4000000 in
theorem c_takes0 {k b a : Nat} {h : ab_H} (hA : at_Rack (ab_sh h) (ab_r h) a) : ab_M k b mX7_takes [.ref a, .ref 0] h (ab_pb (fun t h' => h' = h ∧ t = true)) := by
  refine ab_enter ?_
  refine ab_aload_n dX7_takes_0 rfl ?_
  refine ab_ifnull 18 dX7_takes_1 (by decide) (fun c_1 => ?_) (fun c_1 => ?_)
  · skip
    refine ab_iconst (v := nI 1) dX7_takes_18 (by decide) ?_
    refine ab_goto 23 dX7_takes_19 (by decide) ?_
    refine ab_retb (x := true) dX7_takes_23 ?_
    exact ⟨rfl, rfl⟩
  · skip
    exact absurd rfl c_1
set_option maxRecDepth 100000 in
set_option maxHeartbeats 4000000 in
theorem c_takes {k b a w kd c : Nat} {h : ab_H} {t : Nat × Nat × Nat × Nat} {A : Int × Nat} (hk : 2 ≤ k) (hE : ab_cs h) (hA : at_Rack (ab_sh h) (ab_r h) a) (hk2 : ab_i h a 2 = nI kd) (hkd : kd < 6) (ht : t.1 < 6) (hT : tr_at h w t c A) : ab_M k b mX7_takes [.ref a, .ref w] h (ab_pb (fun t' h' => h' = h ∧ t' = un t.1 kd)) := by
  refine ab_enter ?_
  refine ab_aload_n dX7_takes_0 rfl ?_
  refine ab_ifnull 18 dX7_takes_1 (by decide) (fun c_1 => ?_) (fun c_1 => ?_)
  · skip
    exact absurd c_1 (by have := hT.1; omega)
  · skip
    refine ab_aload_n dX7_takes_4 rfl ?_
    refine ab_getI dX7_takes_5 fl_X7_19 hT.2.2.1 hT.2.2.2.1 ?_
    refine ab_aload_n dX7_takes_8 rfl ?_
    refine ab_getI dX7_takes_9 fl_X7_22 hA.1 hk2 ?_
    refine ab_callSb [_, _] dX7_takes_12 ml_X7_25 mk_X10_isUnder (c_isUnder (k' := 1) (b := 0) (Nat.le_refl _) hE ht hkd) (fun t1 hh1 hq => ?_)
    obtain ⟨hhe, rfl⟩ := hq
    rw [hhe]
    refine ab_bif_eq 22 dX7_takes_15 (by decide) (fun c_15 => ?_) (fun c_15 => ?_)
    · skip
      refine ab_iconst (v := nI 0) dX7_takes_22 (by decide) ?_
      refine ab_retb (x := false) dX7_takes_23 ?_
      first | exact ⟨rfl, c_15.symm⟩ | exact ⟨rfl, c_15.symm⟩
    · skip
      refine ab_iconst (v := nI 1) dX7_takes_18 (by decide) ?_
      refine ab_goto 23 dX7_takes_19 (by decide) ?_
      refine ab_retb (x := true) dX7_takes_23 ?_
      first | exact ⟨rfl, c_15.symm⟩ | exact ⟨rfl, c_15.symm⟩
set_option maxRecDepth 100000 in
set_option maxHeartbeats 4000000 in
theorem lp_makeFor {k b a : Nat} {h : ab_H} {y z : Int32} (hb : ab_bs h) (ha : a + 1 < 78) (hA : at_Rack (ab_sh h) (ab_r h) a) : ∀ (j i : Nat) (h1 : ab_H), i + j = 9 → ab_gr [a] [a + 1] h h1 → ab_i h1 a 1 = z → ab_i h1 a 2 = y → (∀ t, t < i → ab_r h1 (a + 1) t = 0) → ab_R k b mX7_makeFor 12 [some (.ref a), some (.int y), some (.int z), some (.int (nI i))] [] h1 (ab_pv (fun h' => ab_gr [a] [a + 1] h h' ∧ ab_i h' a 1 = z ∧ ab_i h' a 2 = y ∧ ∀ j, j < 9 → ab_r h' (a + 1) j = 0)) := by
  intro j
  induction j with
  | zero =>
    intro i h1 hi f e1 e2 hl
    obtain rfl : i = 9 := by omega
    have hA1 := hA.gr f hb ha (by simp)
    refine ab_iload_n dX7_makeFor_12 rfl ?_
    refine ab_bipush (v := nI 9) dX7_makeFor_13 (by decide) ?_
    refine ab_nicmp_ge 31 dX7_makeFor_15 (by decide) (by omega) (by omega) (fun c_15 => ?_) (fun c_15 => ?_)
    · skip
      refine ab_retv dX7_makeFor_31 ?_
      exact ⟨f, e1, e2, hl⟩
    · skip
      exact absurd (by omega) c_15
  | succ j ih =>
    intro i h1 hi f e1 e2 hl
    have hA1 := hA.gr f hb ha (by simp)
    refine ab_iload_n dX7_makeFor_12 rfl ?_
    refine ab_bipush (v := nI 9) dX7_makeFor_13 (by decide) ?_
    refine ab_nicmp_ge 31 dX7_makeFor_15 (by decide) (by omega) (by omega) (fun c_15 => ?_) (fun c_15 => ?_)
    · skip
      exact absurd c_15 (by omega)
    · skip
      refine ab_aload_n dX7_makeFor_18 rfl ?_
      refine ab_getR dX7_makeFor_19 fl_X7_11 hA1.1 hA1.2.1 ?_
      refine ab_iload_n dX7_makeFor_22 rfl ?_
      refine ab_null dX7_makeFor_23 ?_
      refine ab_aast (t := 7) dX7_makeFor_24 hA1.2.2 (z := 0) (Or.inl rfl) rfl (by omega) ?_
      refine ab_nincR (ls' := [_, _, _, _]) dX7_makeFor_25 rfl rfl ?_
      refine ab_goto 12 dX7_makeFor_28 (by decide) ?_
      exact ih (i + 1) _ (by omega) (f.srN _ _ (Or.inl (by simp))) e1 e2 (fun t ht => by rw [ab_r_sr_same]; split; rfl; exact hl t (by omega))
set_option maxRecDepth 100000 in
set_option maxHeartbeats 4000000 in
theorem c_makeFor {k b a : Nat} {h : ab_H} {y z : Int32} (hb : ab_bs h) (ha : a + 1 < 78) (hA : at_Rack (ab_sh h) (ab_r h) a) : ab_M k b mX7_makeFor [.ref a, .int y, .int z] h (ab_pv (fun h' => ab_gr [a] [a + 1] h h' ∧ ab_i h' a 1 = z ∧ ab_i h' a 2 = y ∧ ∀ j, j < 9 → ab_r h' (a + 1) j = 0)) := by
  refine ab_enter ?_
  refine ab_aload_n dX7_makeFor_0 rfl ?_
  refine ab_iload_n dX7_makeFor_1 rfl ?_
  refine ab_putI dX7_makeFor_2 fl_X7_22 hA.1 ?_
  refine ab_aload_n dX7_makeFor_5 rfl ?_
  refine ab_iload_n dX7_makeFor_6 rfl ?_
  refine ab_putI dX7_makeFor_7 fl_X7_15 hA.1 ?_
  refine ab_iconst (v := nI 0) dX7_makeFor_10 (by decide) ?_
  refine ab_sti_n (ls' := [_, _, _, _]) dX7_makeFor_11 (by decide) rfl ?_
  exact lp_makeFor hb ha hA 9 0 _ rfl (((ab_gr.rf h).siN (a := a) _ _ (Or.inl (by simp))).siN (a := a) _ _ (Or.inl (by simp))) (by rw [ab_i_si_same, if_pos rfl]) (by rw [ab_i_si_same, if_neg (by decide), ab_i_si_same, if_pos rfl]) (fun t ht => absurd ht (Nat.not_lt_zero t))
set_option maxRecDepth 100000 in
set_option maxHeartbeats 4000000 in
theorem lp_raCopy {k b a a2 : Nat} {h : ab_H} {y z : Int32} (hb : ab_bs h) (ha : a + 1 < 78) (ha2 : a2 + 1 < 78) (hne : a2 ≠ a + 1) (hA : at_Rack (ab_sh h) (ab_r h) a) (hB : at_Rack (ab_sh h) (ab_r h) a2) (hpl : ∀ i, i < 9 → ab_r h (a2 + 1) i = 0 ∨ (ab_sh h (ab_r h (a2 + 1) i) = (10, 0) ∧ ab_r h (a2 + 1) i < 5 + ab_n h)) : ∀ (j i : Nat) (h1 : ab_H), i + j = 9 → ab_gr [a] [a + 1] h h1 → ab_i h1 a 1 = z → ab_i h1 a 2 = y → (∀ t, t < i → ab_r h1 (a + 1) t = ab_r h (a2 + 1) t) → (∀ t, i ≤ t → ab_r h1 (a2 + 1) t = ab_r h (a2 + 1) t) → ab_R k b mX7_copyFrom 18 [some (.ref a), some (.ref a2), some (.int (nI i))] [] h1 (ab_pv (fun h' => ab_gr [a] [a + 1] h h' ∧ ab_i h' a 1 = z ∧ ab_i h' a 2 = y ∧ ∀ j, j < 9 → ab_r h' (a + 1) j = ab_r h (a2 + 1) j)) := by
  intro j
  induction j with
  | zero =>
    intro i h1 hi f e1 e2 hl hs
    obtain rfl : i = 9 := by omega
    refine ab_iload_n dX7_copyFrom_18 rfl ?_
    refine ab_bipush (v := nI 9) dX7_copyFrom_19 (by decide) ?_
    refine ab_nicmp_ge 42 dX7_copyFrom_21 (by decide) (by omega) (by omega) (fun c_21 => ?_) (fun c_21 => ?_)
    · skip
      refine ab_retv dX7_copyFrom_42 ?_
      exact ⟨f, e1, e2, hl⟩
    · skip
      exact absurd (by omega) c_21
  | succ j ih =>
    intro i h1 hi f e1 e2 hl hs
    have hA1 := hA.gr f hb ha (by simp)
    have hB1 := hB.gr f hb ha2 (by simp; omega)
    have hsh : ∀ w, ab_sh h w = (10, 0) ∧ w < 5 + ab_n h → ab_sh h1 w = (10, 0) := fun w q => (f.2.2 w q.2).1.trans q.1
    refine ab_iload_n dX7_copyFrom_18 rfl ?_
    refine ab_bipush (v := nI 9) dX7_copyFrom_19 (by decide) ?_
    refine ab_nicmp_ge 42 dX7_copyFrom_21 (by decide) (by omega) (by omega) (fun c_21 => ?_) (fun c_21 => ?_)
    · skip
      exact absurd c_21 (by omega)
    · skip
      refine ab_aload_n dX7_copyFrom_24 rfl ?_
      refine ab_getR dX7_copyFrom_25 fl_X7_11 hA1.1 hA1.2.1 ?_
      refine ab_iload_n dX7_copyFrom_28 rfl ?_
      refine ab_aload_n dX7_copyFrom_29 rfl ?_
      refine ab_getR dX7_copyFrom_30 fl_X7_11 hB1.1 hB1.2.1 ?_
      refine ab_iload_n dX7_copyFrom_33 rfl ?_
      refine ab_aald (t := 7) dX7_copyFrom_34 hB1.2.2 rfl (by omega) (hs i (Nat.le_refl _)) ?_
      refine ab_aast (t := 7) dX7_copyFrom_35 hA1.2.2 (z := 0) ((hpl i (by omega)).elim Or.inl (fun q => Or.inr (hsh _ q))) rfl (by omega) ?_
      refine ab_nincR (ls' := [_, _, _]) dX7_copyFrom_36 rfl rfl ?_
      refine ab_goto 18 dX7_copyFrom_39 (by decide) ?_
      refine ih (i + 1) _ (by omega) (f.srN _ _ (Or.inl (by simp))) e1 e2 (fun t ht => ?_) (fun t ht => ?_)
      · rw [ab_r_sr_same]; by_cases c : t = i; · rw [if_pos c, c]
        · rw [if_neg c]; exact hl t (by omega)
      · by_cases c : a2 + 1 = a + 1; · rw [c, ab_r_sr_same, if_neg (by omega), ← c]; exact hs t (by omega)
        · exact (congrFun (ab_up_ne _ _ c) t).trans (hs t (by omega))
theorem ra_zz {a a2 : Nat} {h : ab_H} {y z : Int32} (hz : ab_i h a2 1 = z) : ab_i (ab_si h a 2 y) a2 1 = z := by
  by_cases c : a2 = a
  · subst c; rw [ab_i_si_same, if_neg (by decide)]; exact hz
  · rw [ab_i_off c]; exact hz
set_option maxRecDepth 100000 in
set_option maxHeartbeats 4000000 in
theorem c_raCopy {k b a a2 : Nat} {h : ab_H} {y z : Int32} (hb : ab_bs h) (ha : a + 1 < 78) (ha2 : a2 + 1 < 78) (hne : a2 ≠ a + 1) (hA : at_Rack (ab_sh h) (ab_r h) a) (hB : at_Rack (ab_sh h) (ab_r h) a2) (hy : ab_i h a2 2 = y) (hz : ab_i h a2 1 = z) (hpl : ∀ i, i < 9 → ab_r h (a2 + 1) i = 0 ∨ (ab_sh h (ab_r h (a2 + 1) i) = (10, 0) ∧ ab_r h (a2 + 1) i < 5 + ab_n h)) : ab_M k b mX7_copyFrom [.ref a, .ref a2] h (ab_pv (fun h' => ab_gr [a] [a + 1] h h' ∧ ab_i h' a 1 = z ∧ ab_i h' a 2 = y ∧ ∀ j, j < 9 → ab_r h' (a + 1) j = ab_r h (a2 + 1) j)) := by
  refine ab_enter ?_
  refine ab_aload_n dX7_copyFrom_0 rfl ?_
  refine ab_aload_n dX7_copyFrom_1 rfl ?_
  refine ab_getI dX7_copyFrom_2 fl_X7_22 hB.1 hy ?_
  refine ab_putI dX7_copyFrom_5 fl_X7_22 hA.1 ?_
  refine ab_aload_n dX7_copyFrom_8 rfl ?_
  refine ab_aload_n dX7_copyFrom_9 rfl ?_
  refine ab_getI dX7_copyFrom_10 fl_X7_15 hB.1 (ra_zz hz) ?_
  refine ab_putI dX7_copyFrom_13 fl_X7_15 hA.1 ?_
  refine ab_iconst (v := nI 0) dX7_copyFrom_16 (by decide) ?_
  refine ab_sti_n (ls' := [_, _, _]) dX7_copyFrom_17 (by decide) rfl ?_
  exact lp_raCopy hb ha ha2 hne hA hB hpl 9 0 _ rfl (((ab_gr.rf h).siN (a := a) _ _ (Or.inl (by simp))).siN (a := a) _ _ (Or.inl (by simp))) (by rw [ab_i_si_same, if_pos rfl]) (by rw [ab_i_si_same, if_neg (by decide), ab_i_si_same, if_pos rfl]) (fun t ht => absurd ht (Nat.not_lt_zero t)) (fun t _ => rfl)
