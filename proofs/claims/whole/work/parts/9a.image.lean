/-! ===== the image ===== -/
abbrev iS : Type := Option (Nat × Nat × Nat × (Nat → Nat) × sS)
def im_C (im : iS) (h : ab_H) : Prop := (im = none → ab_i h 25 0 = 0) ∧ ∀ n x y ρ s, im = some (n, x, y, ρ, s) → n ≤ 4 ∧ x < 2 ^ n ∧ y < 2 ^ n ∧ ab_i h 25 0 = nI 1 ∧ ab_i h 25 1 = nI n ∧ ab_i h 25 2 = nI x ∧ ab_i h 25 3 = nI y ∧ ab_rho h 27 ρ ∧ sh_C 32 s h
def sh_K (s : sS) (h : ab_H) : Prop := ab_i h 50 37 = nI s.1 ∧ ab_i h 50 38 = nI s.2.2.1 ∧ (∀ i e, i < s.1 → e < 2 → ab_i h 75 (4 * i + 2 * e) = nI (cX (s.2.1 i) e / 100) ∧ ab_i h 75 (4 * i + 2 * e + 1) = nI (cX (s.2.1 i) e % 100)) ∧ ∀ i, i < s.2.2.1 → ab_i h 76 i = nI (s.2.2.2 i).1 ∧ ab_i h 77 (3 * i) = nI (s.2.2.2 i).2.1 ∧ ab_i h 77 (3 * i + 1) = nI (s.2.2.2 i).2.2.1 ∧ ab_i h 77 (3 * i + 2) = nI (s.2.2.2 i).2.2.2
def im_M (im : iS) (h : ab_H) : Prop := (im = none → ab_i h 50 33 = 0) ∧ ∀ n x y ρ s, im = some (n, x, y, ρ, s) → n ≤ 4 ∧ x < 2 ^ n ∧ y < 2 ^ n ∧ ab_i h 50 33 = nI 1 ∧ ab_i h 50 34 = nI n ∧ ab_i h 50 35 = nI x ∧ ab_i h 50 36 = nI y ∧ ab_rho h 74 ρ ∧ sW s ∧ sh_K s h
theorem ab_rho.gr {S T : List Nat} {h h1 : ab_H} {a : Nat} {ρ : Nat → Nat} (f : ab_gr S T h h1) (hb : ab_bs h) (ha : a < 78) (n : a ∉ S) (H : ab_rho h a ρ) : ab_rho h1 a ρ := by
  unfold ab_bs at hb
  unfold ab_rho at *
  rw [((f.2.2 a (by omega)).2.1 n).1]
  exact H
theorem ab_rho.fM {S K : List Nat} {h h1 : ab_H} {a : Nat} {ρ : Nat → Nat} (f : ab_fM S K h h1) (ha : a ≠ 50) (n : a ∉ S) (H : ab_rho h a ρ) : ab_rho h1 a ρ := by
  unfold ab_rho at *
  rw [(f.2.2.2.2.1 a ha n).1]
  exact H
theorem im_C.gr {S T : List Nat} {im : iS} {h h1 : ab_H} (f : ab_gr S T h h1) (hb : ab_bs h) (hs : ∀ a, a ∈ S → a < 78) (ht : ∀ a, a ∈ T → a < 78) (n1 : 25 ∉ S) (n2 : 27 ∉ S) (n3 : 32 ∉ S) (n4 : 33 ∉ T) (n5 : 34 ∉ T) (H : im_C im h) : im_C im h1 := by
  have hb5 := hb
  unfold ab_bs at hb5
  unfold im_C
  rw [((f.2.2 25 (by omega)).2.1 n1).1]
  refine ⟨H.1, fun n x y ρ s e => ?_⟩
  obtain ⟨q1, q2, q3, q4, q5, q6, q7, q8, q9⟩ := H.2 n x y ρ s e
  exact ⟨q1, q2, q3, q4, q5, q6, q7, q8.gr f hb (by decide) n2, q9.gr f hs ht hb (by decide) n3 n4 n5⟩
theorem im_M.fM {S K : List Nat} {im : iS} {h h1 : ab_H} (f : ab_fM S K h h1) (hS : ∀ a, 74 ≤ a → a ≤ 77 → a ∉ S) (hK : ∀ k, 33 ≤ k → k ≤ 38 → k ∉ K) (H : im_M im h) : im_M im h1 := by
  have e : ∀ a, 74 ≤ a → a ≤ 77 → ab_i h1 a = ab_i h a := fun a z1 z2 => (f.2.2.2.2.1 a (by omega) (hS a z1 z2)).1
  have e2 : ∀ k, 33 ≤ k → k ≤ 38 → ab_i h1 50 k = ab_i h 50 k := fun k z1 z2 => f.2.2.2.2.2 k (hK k z1 z2)
  unfold im_M ab_rho sh_K
  rw [e 74 (by decide) (by decide), e 75 (by decide) (by decide), e 76 (by decide) (by decide), e 77 (by decide) (by decide), e2 33 (by decide) (by decide), e2 34 (by decide) (by decide), e2 35 (by decide) (by decide), e2 36 (by decide) (by decide), e2 37 (by decide) (by decide), e2 38 (by decide) (by decide)]
  exact H
theorem bd_C.gr {S T : List Nat} {n hx hy r : Nat} {h h1 : ab_H} (f : ab_gr S T h h1) (hb : ab_bs h) (hr : r + 5 < 78) (hS : ∀ a, r ≤ a → a ≤ r + 5 → a ∉ S) (H : bd_C n hx hy r h) : bd_C n hx hy r h1 := by
  unfold ab_bs at hb
  have e : ∀ a, r ≤ a → a ≤ r + 5 → ab_i h1 a = ab_i h a := fun a z1 z2 => ((f.2.2 a (by omega)).2.1 (hS a z1 z2)).1
  unfold bd_C
  rw [e r (by omega) (by omega), e (r + 1) (by omega) (by omega), e (r + 2) (by omega) (by omega), e (r + 3) (by omega) (by omega), e (r + 4) (by omega) (by omega), e (r + 5) (by omega) (by omega)]
  exact H
def sp_on (im : iS) : Nat ⊕ Int32 := match im with | none => .inl 3 | some (_, _, _, _, s) => .inr (nI s.1)
set_option maxRecDepth 100000 in
set_option maxHeartbeats 4000000 in
theorem c_take {k b n hx hy : Nat} {h : ab_H} {ρ : Nat → Nat} {s : sS} (hk : 2 ≤ k) (hb : ab_bs h) (hC : at_C (ab_sh h) (ab_r h)) (hB : bd_C n hx hy 6 h) (hU : ab_rho h 14 ρ) (hS : sh_C 19 s h) : ab_M k b mX3_take [.ref 25, .ref 6, .ref 13, .ref 19] h (ab_pv (fun h' => ab_gr [25, 27, 32] [33, 34] h h' ∧ im_C (some (n, hx, hy, ρ, s)) h')) := by
  refine ab_enter ?_
  refine ab_aload_n dX3_take_0 rfl ?_
  refine ab_aload_n dX3_take_1 rfl ?_
  refine ab_getI dX3_take_2 fl_X3_23 hC.board.1 hB.f0 ?_
  refine ab_putI dX3_take_5 fl_X3_29 hC.s25 ?_
  refine ab_aload_n dX3_take_8 rfl ?_
  refine ab_aload_n dX3_take_9 rfl ?_
  refine ab_getI dX3_take_10 fl_X3_30 hC.board.1 hB.f1 ?_
  refine ab_putI dX3_take_13 fl_X3_33 hC.s25 ?_
  refine ab_aload_n dX3_take_16 rfl ?_
  refine ab_aload_n dX3_take_17 rfl ?_
  refine ab_getI dX3_take_18 fl_X3_34 hC.board.1 hB.f2 ?_
  refine ab_putI dX3_take_21 fl_X3_37 hC.s25 ?_
  refine ab_aload_n dX3_take_24 rfl ?_
  refine ab_getR dX3_take_25 fl_X3_10 hC.s25 hC.p25_4 ?_
  refine ab_aload_n dX3_take_28 rfl ?_
  refine ab_callVv [_] dX3_take_29 ml_X3_38 mk_X8_copyFrom hC.irule.1 (c_copyFrom (k := 1) (b := 0) (r := 26) (r2 := 13) (Nat.le_refl _) hC.irule hC.rule) (fun h1 hq => ?_)
  replace hq : h1 = _ := hq
  have g1 : ab_gr [25, 27, 32] [33, 34] h h1 := by rw [hq]; exact ab_gr.of (S := [25, 27, 32]) (((((ab_fr.rf h).si _ _ _ (by simp)).si _ _ _ (by simp)).si _ _ _ (by simp)).sI _ _ (by simp)) |>.mono (fun _ q => q) (fun _ q => by cases q)
  have i1 : ab_i h1 25 1 = nI n ∧ ab_i h1 25 2 = nI hx ∧ ab_i h1 25 3 = nI hy := by rw [hq]; exact ⟨by rw [ab_i_sI, if_neg (by decide), ab_i_si_same, if_neg (by decide), ab_i_si_same, if_neg (by decide), ab_i_si_same, if_pos rfl], by rw [ab_i_sI, if_neg (by decide), ab_i_si_same, if_neg (by decide), ab_i_si_same, if_pos rfl], by rw [ab_i_sI, if_neg (by decide), ab_i_si_same, if_pos rfl]⟩
  have r1 : ab_rho h1 27 ρ := by unfold ab_rho at *; rw [hq, ab_i_sI, if_pos rfl, ab_i_off (by decide), ab_i_off (by decide), ab_i_off (by decide)]; exact hU
  have hb1 := hb.gr g1
  have hC1 := hC.gr g1 hb (by simp)
  have hS1 := hS.gr g1 (mem78 (by decide)) (mem78 (by decide)) hb (by decide) (by simp) (by simp) (by simp)
  clear hq
  refine ab_aload_n dX3_take_32 rfl ?_
  refine ab_getR dX3_take_33 fl_X3_19 hC1.s25 hC1.p25_5 ?_
  refine ab_aload_n dX3_take_36 rfl ?_
  refine ab_callVv [_] dX3_take_37 ml_X3_42 mk_X9_copyFrom hC1.ishapes.1 (c_shCopy (k := 0) (b := 0) (r := 32) (r2 := 19) hb1 (by decide) (by decide) (by decide) hC1.ishapes hC1.shapes hS1) (fun h2 hq => ?_)
  obtain ⟨g2, hS2⟩ := hq
  have hb2 := hb1.gr g2
  have hC2 := hC1.gr g2 hb1 (by simp)
  have hb5 : 73 ≤ ab_n h1 := hb1
  refine ab_aload_n dX3_take_40 rfl ?_
  refine ab_iconst (v := nI 1) dX3_take_41 (by decide) ?_
  refine ab_putI dX3_take_42 fl_X3_45 hC2.s25 ?_
  refine ab_retv dX3_take_45 ?_
  have g3 : ab_gr [25, 27, 32] [33, 34] h2 (ab_si h2 25 0 (nI 1)) := (ab_gr.rf h2).siN _ _ (Or.inl (by simp))
  refine ⟨(g1.trans g2 (by simp) (by simp)).trans g3 (fun _ q => q) (fun _ q => q), fun q => absurd q (by simp), fun n9 x9 y9 ρ9 s9 e => ?_⟩
  injection e with e
  injection e with z1 e
  injection e with z2 e
  injection e with z3 e
  injection e with z4 z5
  subst z1 z2 z3 z4 z5
  have e25 := ((g2.2.2 25 (by omega)).2.1 (by simp)).1
  refine ⟨hB.n4, hB.hx, hB.hy, by rw [ab_i_si_same, if_pos rfl], by rw [ab_i_si_same, if_neg (by decide), e25]; exact i1.1, by rw [ab_i_si_same, if_neg (by decide), e25]; exact i1.2.1, by rw [ab_i_si_same, if_neg (by decide), e25]; exact i1.2.2, ?_, ?_⟩
  · exact (r1.gr g2 hb1 (by decide) (by simp)).gr ((ab_gr.rf (S := [25]) (T := []) h2).siN _ _ (Or.inl (by simp))) hb2 (by decide) (by simp)
  · exact hS2.gr ((ab_gr.rf (S := [25]) (T := []) h2).siN _ _ (Or.inl (by simp))) (mem78 (by decide)) nil78 hb2 (by decide) (by simp) (by simp) (by simp)
set_option maxRecDepth 100000 in
set_option maxHeartbeats 4000000 in
theorem c_image {k b n hx hy : Nat} {h : ab_H} {ρ : Nat → Nat} {s : sS} (hk : 3 ≤ k) (hb : ab_bs h) (hC : at_C (ab_sh h) (ab_r h)) (hB : bd_C n hx hy 6 h) (hU : ab_rho h 14 ρ) (hS : sh_C 19 s h) : ab_M k b mX11_image [.ref 5] h (ab_pi (ab_oX 37 (ab_gr [] [] h) (fun h' => ab_gr [25, 27, 32] [33, 34] h h' ∧ im_C (some (n, hx, hy, ρ, s)) h') (.inr (nI s.1)))) := by
  refine ab_enter ?_
  refine ab_aload_n dX11_image_0 rfl ?_
  refine ab_getR dX11_image_1 fl_X11_40 hC.hs hC.p5_4 ?_
  refine ab_aload_n dX11_image_4 rfl ?_
  refine ab_getR dX11_image_5 fl_X11_10 hC.hs hC.p5_0 ?_
  refine ab_aload_n dX11_image_8 rfl ?_
  refine ab_getR dX11_image_9 fl_X11_19 hC.hs hC.p5_1 ?_
  refine ab_aload_n dX11_image_12 rfl ?_
  refine ab_getR dX11_image_13 fl_X11_26 hC.hs hC.p5_2 ?_
  refine ab_callVv [_, _, _] dX11_image_16 ml_X11_337 mk_X3_take hC.s25 (c_take (k := 2) (b := 0) (Nat.le_refl _) hb hC hB hU hS) (fun h1 hq => ?_)
  obtain ⟨g, hI⟩ := hq
  have hC1 := hC.gr g hb (by simp)
  have hS1 : ab_i h1 19 2 = nI s.1 := by have hb5 : 73 ≤ ab_n h := hb; rw [((g.2.2 19 (by omega)).2.1 (by simp)).1]; exact hS.np
  refine ab_aload_n dX11_image_19 rfl ?_
  refine ab_getR dX11_image_20 fl_X11_26 hC1.hs hC1.p5_2 ?_
  refine ab_getI dX11_image_23 fl_X11_189 hC1.shapes.1 hS1 ?_
  refine ab_reti dX11_image_26 ?_
  exact ab_oX_ok rfl ⟨g, hI⟩
set_option maxRecDepth 100000 in
set_option maxHeartbeats 4000000 in
theorem c_giveBack {k b n x y : Nat} {h : ab_H} {ρ : Nat → Nat} {s : sS} (hk : 8 ≤ k) (hb : ab_bs h) (hC : at_C (ab_sh h) (ab_r h)) (H : im_C (some (n, x, y, ρ, s)) h) : ab_M k b mX3_giveBack [.ref 25, .ref 6, .ref 13, .ref 19] h (ab_pv (fun h' => ab_gr [6, 7, 8, 9, 10, 11, 14, 19] [20, 21] h h' ∧ bd_C n x y 6 h' ∧ ab_rho h' 14 ρ ∧ sh_C 19 s h')) := by
  obtain ⟨z1, z2, z3, z4, z5, z6, z7, z8, z9⟩ := H.2 n x y ρ s rfl
  refine ab_enter ?_
  refine ab_aload_n dX3_giveBack_0 rfl ?_
  refine ab_aload_n dX3_giveBack_1 rfl ?_
  refine ab_getI dX3_giveBack_2 fl_X3_29 hC.s25 z5 ?_
  refine ab_aload_n dX3_giveBack_5 rfl ?_
  refine ab_getI dX3_giveBack_6 fl_X3_33 hC.s25 z6 ?_
  refine ab_aload_n dX3_giveBack_9 rfl ?_
  refine ab_getI dX3_giveBack_10 fl_X3_37 hC.s25 z7 ?_
  refine ab_callVv [_, _, _] dX3_giveBack_13 ml_X3_49 mk_X0_cutAnew hC.board.1 (c_cutAnew (k := 7) (b := 0) (r := 6) (Nat.le_refl _) hC.board z1 z2 z3) (fun h1 hq => ?_)
  obtain ⟨f1, hB1⟩ := hq
  have g1 := ab_gr.of f1
  have hb1 := hb.gr g1
  have hC1 := hC.gr g1 hb (by simp)
  have r1 := z8.gr g1 hb (by decide) (by simp)
  have hS1 := z9.gr g1 (mem78 (by decide)) nil78 hb (by decide) (by simp) (by simp) (by simp)
  refine ab_aload_n dX3_giveBack_16 rfl ?_
  refine ab_aload_n dX3_giveBack_17 rfl ?_
  refine ab_getR dX3_giveBack_18 fl_X3_10 hC1.s25 hC1.p25_4 ?_
  refine ab_callVv [_] dX3_giveBack_21 ml_X3_38 mk_X8_copyFrom hC1.rule.1 (c_copyFrom (k := 1) (b := 0) (r := 13) (r2 := 26) (Nat.le_refl _) hC1.rule hC1.irule) (fun h2 hq => ?_)
  replace hq : h2 = _ := hq
  have g2 : ab_gr [14] [] h1 h2 := by rw [hq]; exact ab_gr.of ((ab_fr.rf h1).sI _ _ (by simp))
  have r2 : ab_rho h2 14 ρ := by unfold ab_rho at *; rw [hq, ab_i_sI, if_pos rfl]; exact r1
  have hb2 := hb1.gr g2
  have hC2 := hC1.gr g2 hb1 (by simp)
  have hS2 := hS1.gr g2 (mem78 (by decide)) nil78 hb1 (by decide) (by simp) (by simp) (by simp)
  have hB2 := hB1.gr g2 hb1 (by decide) (by intro a q1 q2; simp; omega)
  clear hq
  refine ab_aload_n dX3_giveBack_24 rfl ?_
  refine ab_aload_n dX3_giveBack_25 rfl ?_
  refine ab_getR dX3_giveBack_26 fl_X3_19 hC2.s25 hC2.p25_5 ?_
  refine ab_callVv [_] dX3_giveBack_29 ml_X3_42 mk_X9_copyFrom hC2.shapes.1 (c_shCopy (k := 0) (b := 0) (r := 19) (r2 := 32) hb2 (by decide) (by decide) (by decide) hC2.shapes hC2.ishapes hS2) (fun h3 hq => ?_)
  obtain ⟨g3, hS3⟩ := hq
  refine ab_retv dX3_giveBack_32 ?_
  exact ⟨((g1.mono (S := [6, 7, 8, 9, 10, 11, 14, 19]) (T := [20, 21]) (by simp) (by simp)).trans g2 (by simp) (by simp)).trans g3 (by simp) (by simp), hB2.gr g3 hb2 (by decide) (by intro a q1 q2; simp; omega), r2.gr g3 hb2 (by decide) (by simp), hS3⟩
set_option maxRecDepth 100000 in
set_option maxHeartbeats 4000000 in
theorem c_on {k b : Nat} {h : ab_H} {im : iS} (hk : 9 ≤ k) (hb : ab_bs h) (hC : at_C (ab_sh h) (ab_r h)) (hI : im_C im h) : ab_M k b mX11_on [.ref 5] h (ab_pi (ab_oX 37 (ab_gr [] [] h) (fun h' => ∀ n x y ρ s, im = some (n, x, y, ρ, s) → ab_gr [6, 7, 8, 9, 10, 11, 14, 19] [20, 21] h h' ∧ bd_C n x y 6 h' ∧ ab_rho h' 14 ρ ∧ sh_C 19 s h') (sp_on im))) := by
  cases im with
  | none =>
    have hz := hI.1 rfl
    refine ab_enter ?_
    refine ab_aload_n dX11_on_0 rfl ?_
    refine ab_getR dX11_on_1 fl_X11_40 hC.hs hC.p5_4 ?_
    refine ab_getI dX11_on_4 fl_X11_341 hC.s25 hz ?_
    refine ab_if_ne 17 dX11_on_7 (by decide) (fun c_7 => ?_) (fun c_7 => ?_)
    · skip
      exact absurd rfl c_7
    · skip
      refine ab_aload_n dX11_on_10 rfl ?_
      refine ab_bipush (v := -3) dX11_on_11 (by decide) ?_
      refine ab_callVi [_] dX11_on_13 ml_X11_66 mk_X11_refuse hC.hs (c_refuse (k := 0) (b := 0) (c := 3) hC (by decide) (by omega) (by omega)) (fun v1 hh1 hq => ?_)
      obtain ⟨hv, hh⟩ := hq
      refine ab_reti dX11_on_16 ?_
      exact ab_oX_no (by rfl) (ab_gr.rf h) hv hh
  | some v =>
    obtain ⟨n, x, y, ρ, s⟩ := v
    have hz := (hI.2 n x y ρ s rfl).2.2.2.1
    refine ab_enter ?_
    refine ab_aload_n dX11_on_0 rfl ?_
    refine ab_getR dX11_on_1 fl_X11_40 hC.hs hC.p5_4 ?_
    refine ab_getI dX11_on_4 fl_X11_341 hC.s25 hz ?_
    refine ab_nif_ne 17 dX11_on_7 (by decide) (by omega) (fun c_7 => ?_) (fun c_7 => ?_)
    · skip
      refine ab_aload_n dX11_on_17 rfl ?_
      refine ab_getR dX11_on_18 fl_X11_40 hC.hs hC.p5_4 ?_
      refine ab_aload_n dX11_on_21 rfl ?_
      refine ab_getR dX11_on_22 fl_X11_10 hC.hs hC.p5_0 ?_
      refine ab_aload_n dX11_on_25 rfl ?_
      refine ab_getR dX11_on_26 fl_X11_19 hC.hs hC.p5_1 ?_
      refine ab_aload_n dX11_on_29 rfl ?_
      refine ab_getR dX11_on_30 fl_X11_26 hC.hs hC.p5_2 ?_
      refine ab_callVv [_, _, _] dX11_on_33 ml_X11_345 mk_X3_giveBack hC.s25 (c_giveBack (k := 8) (b := 0) (Nat.le_refl _) hb hC hI) (fun h1 hq => ?_)
      obtain ⟨g, hB, hR, hS⟩ := hq
      have hC1 := hC.gr g hb (by simp)
      refine ab_aload_n dX11_on_36 rfl ?_
      refine ab_getR dX11_on_37 fl_X11_26 hC1.hs hC1.p5_2 ?_
      refine ab_getI dX11_on_40 fl_X11_189 hC1.shapes.1 hS.np ?_
      refine ab_reti dX11_on_43 ?_
      refine ab_oX_ok rfl (fun n9 x9 y9 ρ9 s9 e => ?_)
      injection e with e
      injection e with z1 e
      injection e with z2 e
      injection e with z3 e
      injection e with z4 z5
      subst z1 z2 z3 z4 z5
      exact ⟨g, hB, hR, hS⟩
    · skip
      exact absurd c_7 (by omega)
