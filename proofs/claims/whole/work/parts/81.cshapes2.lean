/-! ===== the class: Shapes, points and triangles come ===== -/
theorem at_Shapes.gr {S T : List Nat} {r : Nat} {h h1 : ab_H} (f : ab_gr S T h h1) (hb : ab_bs h) (hr : r + 2 < 78) (n0 : r ∉ T) (H : at_Shapes (ab_sh h) (ab_r h) r) : at_Shapes (ab_sh h1) (ab_r h1) r := by
  unfold ab_bs at hb
  unfold at_Shapes at *
  rw [(f.2.2 r (by omega)).1, (f.2.2 r (by omega)).2.2 n0, (f.2.2 (r + 1) (by omega)).1, (f.2.2 (r + 2) (by omega)).1]
  exact H
/-- a cell just made -/
def nw (h : ab_H) (r c : Nat) : Prop := 78 ≤ r ∧ r < 5 + ab_n h ∧ ab_sh h r = (c, 0)
theorem nw.new {h : ab_H} {c : Nat} (hb : ab_bs h) : nw (ab_new h (c, 0)) (5 + ab_n h) c := ⟨by unfold ab_bs at hb; omega, by show 5 + ab_n h < 5 + (ab_n h + 1); omega, ab_up_self _ _ _⟩
theorem nw.gr {S T : List Nat} {h h1 : ab_H} {r c : Nat} (f : ab_gr S T h h1) (H : nw h r c) : nw h1 r c := ⟨H.1, by have := f.1; have := H.2.1; omega, (f.2.2 r H.2.1).1.trans H.2.2⟩
theorem pt_at.mk {h : ab_H} {p u v : Nat} {P : Nat × Nat} (hn : nw h p 6) (f1 : fr_at h u (fR (pq P.1))) (f2 : fr_at h v (fR (pq P.2))) : pt_at (ab_sr (ab_sr h p 0 u) p 1 v) p P := by
  have e0 : ab_r (ab_sr (ab_sr h p 0 u) p 1 v) p 0 = u := by rw [ab_r_sr_same, if_neg (by decide), ab_r_sr_same, if_pos rfl]
  have e1 : ab_r (ab_sr (ab_sr h p 0 u) p 1 v) p 1 = v := by rw [ab_r_sr_same, if_pos rfl]
  unfold pt_at
  rw [e0, e1]
  exact ⟨hn.1, hn.2.1, hn.2.2, f1, f2⟩
set_option maxRecDepth 100000 in
set_option maxHeartbeats 4000000 in
theorem c_ptInit {k b r u v : Nat} {h : ab_H} (hk : 1 ≤ k) (h0 : r ≠ 0) (hs : ab_sh h r = (6, 0)) : ab_M k b mX6_init [.ref r, .ref u, .ref v] h (ab_pv (fun h' => h' = ab_sr (ab_sr h r 0 u) r 1 v)) := by
  refine ab_enter ?_
  refine ab_aload_n dX6_init_0 rfl ?_
  refine ab_objInit dX6_init_1 ml_X6_1 h0 ?_
  refine ab_aload_n dX6_init_4 rfl ?_
  refine ab_aload_n dX6_init_5 rfl ?_
  refine ab_putR dX6_init_6 fl_X6_7 hs ?_
  refine ab_aload_n dX6_init_9 rfl ?_
  refine ab_aload_n dX6_init_10 rfl ?_
  refine ab_putR dX6_init_11 fl_X6_13 hs ?_
  refine ab_retv dX6_init_14 ?_
  exact rfl
set_option maxRecDepth 100000 in
set_option maxHeartbeats 4000000 in
theorem c_addPoint {k b r X Y : Nat} {h : ab_H} {s : sS} (hk : 4 ≤ k) (hb1 : 3 ≤ b) (hb : ab_bs h) (hr : r + 2 < 78) (hS : at_Shapes (ab_sh h) (ab_r h) r) (hD : sh_C r s h) (h10 : s.1 < 10) (hX : X < 10000 ∧ X % 100 ≠ 0) (hY : Y < 10000 ∧ Y % 100 ≠ 0) : ab_M k b mX9_addPoint [.ref r, .int (nI X), .int (nI Y)] h (ab_pv (fun h' => ab_gr [r] [r + 1] h h' ∧ sh_C r (sP s X Y) h')) := by
  have hb0 := hb
  have hD0 := hD
  refine ab_enter ?_
  refine ab_aload_n dX9_addPoint_0 rfl ?_
  refine ab_getI dX9_addPoint_1 fl_X9_21 hS.1 hD.np ?_
  refine ab_bipush (v := nI 10) dX9_addPoint_4 (by decide) ?_
  refine ab_nicmp_ge 43 dX9_addPoint_6 (by decide) (by omega) (by omega) (fun c_6 => ?_) (fun c_6 => ?_)
  · skip
    exact absurd c_6 (by omega)
  · skip
    refine ab_aload_n dX9_addPoint_9 rfl ?_
    refine ab_getR dX9_addPoint_10 fl_X9_11 hS.1 hS.2.1 ?_
    refine ab_aload_n dX9_addPoint_13 rfl ?_
    refine ab_getI dX9_addPoint_14 fl_X9_21 hS.1 hD.np ?_
    refine ab_newo (ci := 5) (b' := b - 1) (hb2 := (by have q : ab_N 5 ≤ 12 := (by decide); omega)) dX9_addPoint_17 cl_X9_9 is_X6 it_X6 ?_
    have hp := nw.new (c := 6) hb
    have G := (ab_gr.rf (S := []) (T := []) h).new (6, 0)
    replace hb := hb.gr ((ab_gr.rf (S := []) (T := []) h).new (6, 0))
    refine ab_dup dX9_addPoint_20 rfl ?_
    refine ab_iload_n dX9_addPoint_21 rfl ?_
    refine ab_callSr [_] dX9_addPoint_22 ml_X9_28 mk_X9_fractionOf (c_fractionOf (k := 3) (b := 1) (Nat.le_refl _) (Nat.le_refl _) hb hX) (fun u h1 hq => ?_)
    obtain ⟨g, hu⟩ := hq
    replace hp := hp.gr g
    replace hb := hb.gr g
    replace G := G.trans g (fun _ q => q) (fun _ q => q)
    refine ab_iload_n dX9_addPoint_25 rfl ?_
    refine ab_callSr [_] dX9_addPoint_26 ml_X9_28 mk_X9_fractionOf (c_fractionOf (k := 3) (b := 1) (Nat.le_refl _) (Nat.le_refl _) hb hY) (fun v h2 hq => ?_)
    obtain ⟨g, hv⟩ := hq
    replace hu := hu.gr g nil78
    replace hp := hp.gr g
    replace hb := hb.gr g
    replace G := G.trans g (fun _ q => q) (fun _ q => q)
    refine ab_callI [_, _] dX9_addPoint_29 ml_X9_32 mk_X6_init (by omega) (c_ptInit (k := 1) (b := 0) (Nat.le_refl _) (by omega) hp.2.2) (fun _ hh hq => ?_)
    subst hq
    have hpt := pt_at.mk (P := (X, Y)) hp hu hv
    replace G := (G.srN (a := 5 + ab_n h) 0 u (Or.inr (Nat.le_refl _))).srN (a := 5 + ab_n h) 1 v (Or.inr (Nat.le_refl _))
    replace hS := hS.gr G hb0 hr (by simp)
    replace hD := hD.gr G nil78 nil78 hb0 hr (by simp) (by simp) (by simp)
    refine ab_aast (t := 6) dX9_addPoint_32 hS.2.2.1 (Or.inr hpt.2.2.1) rfl (by omega) ?_
    replace hS := hS.gr ((ab_gr.rf (S := []) (T := [r + 1]) _).srN (a := r + 1) s.1 (5 + ab_n h) (Or.inl (by simp))) (hb0.gr G) hr (by simp)
    refine ab_aload_n dX9_addPoint_33 rfl ?_
    refine ab_dup dX9_addPoint_34 rfl ?_
    refine ab_getI dX9_addPoint_35 fl_X9_21 hS.1 hD.np ?_
    refine ab_iconst (v := nI 1) dX9_addPoint_38 (by decide) ?_
    refine ab_naddR dX9_addPoint_39 ?_
    refine ab_putI dX9_addPoint_40 fl_X9_21 hS.1 ?_
    refine ab_retv dX9_addPoint_43 ?_
    exact hD0.addP G hpt hb0 hr h10 hX hY rfl
set_option maxRecDepth 100000 in
set_option maxHeartbeats 4000000 in
theorem c_addTriangle {k b r kd ia ib ic : Nat} {h : ab_H} {s : sS} (hk : 5 ≤ k) (hb1 : 9 ≤ b) (hb : ab_bs h) (hE : ab_cs h) (hr : r + 2 < 78) (hS : at_Shapes (ab_sh h) (ab_r h) r) (hD : sh_C r s h) (h10 : s.2.2.1 < 10) (hk6 : kd < 6) (ha : ia < s.1) (hbb : ib < s.1) (hc : ic < s.1) (hth : th s.1 (nI ia) (nI ib) (nI ic)) : ab_M k b mX9_addTriangle [.ref r, .int (nI kd), .int (nI ia), .int (nI ib), .int (nI ic)] h (ab_pv (fun h' => ab_gr [r] [r + 2] h h' ∧ sh_C r (sT s kd ia ib ic) h')) := by
  have hb0 := hb
  have hD0 := hD
  have h1010 := hD.W.1
  refine ab_enter ?_
  refine ab_aload_n dX9_addTriangle_0 rfl ?_
  refine ab_getI dX9_addTriangle_1 fl_X9_25 hS.1 hD.nt ?_
  refine ab_bipush (v := nI 10) dX9_addTriangle_4 (by decide) ?_
  refine ab_nicmp_ge 54 dX9_addTriangle_6 (by decide) (by omega) (by omega) (fun c_6 => ?_) (fun c_6 => ?_)
  · skip
    exact absurd c_6 (by omega)
  · skip
    refine ab_aload_n dX9_addTriangle_9 rfl ?_
    refine ab_getI dX9_addTriangle_10 fl_X9_21 hS.1 hD.np ?_
    refine ab_iload_n dX9_addTriangle_13 rfl ?_
    refine ab_iload_n dX9_addTriangle_14 rfl ?_
    refine ab_iload dX9_addTriangle_15 rfl ?_
    refine ab_callSb [_, _, _, _] dX9_addTriangle_17 ml_X9_41 mk_X9_areThree (c_areThree (k := 0) (b := 0) (np := s.1) hD.W.1) (fun t hh1 hq => ?_)
    obtain ⟨hhe, rfl⟩ := hq
    rw [hhe]
    refine ab_bif_eq 54 dX9_addTriangle_20 (by decide) (fun c_20 => ?_) (fun c_20 => ?_)
    · skip
      exact absurd hth (@of_decide_eq_false _ (Classical.propDecidable _) c_20)
    · skip
      refine ab_aload_n dX9_addTriangle_23 rfl ?_
      refine ab_getR dX9_addTriangle_24 fl_X9_17 hS.1 hS.2.2.2.1 ?_
      refine ab_aload_n dX9_addTriangle_27 rfl ?_
      refine ab_getI dX9_addTriangle_28 fl_X9_25 hS.1 hD.nt ?_
      refine ab_aload_n dX9_addTriangle_31 rfl ?_
      refine ab_getR dX9_addTriangle_32 fl_X9_11 hS.1 hS.2.1 ?_
      refine ab_iload_n dX9_addTriangle_35 rfl ?_
      refine ab_iload_n dX9_addTriangle_36 rfl ?_
      refine ab_iload_n dX9_addTriangle_37 rfl ?_
      refine ab_iload dX9_addTriangle_38 rfl ?_
      refine ab_callSr [_, _, _, _, _] dX9_addTriangle_40 ml_X9_45 mk_X10_lyingOn (c_lyingOn (k := 4) (b := 9) (Nat.le_refl _) (Nat.le_refl _) hb hE hS.2.2.1 hk6 (by omega) (by omega) (by omega) rfl rfl rfl (hD.pt _ ha) (hD.pt _ hbb) (hD.pt _ hc) (hD.W.2.2.1 _ ha) (hD.W.2.2.1 _ hbb) (hD.W.2.2.1 _ hc)) (fun u h1 hq => ?_)
      obtain ⟨G, hT⟩ := hq
      replace hS := hS.gr G hb0 hr (by simp)
      replace hD := hD.gr G nil78 nil78 hb0 hr (by simp) (by simp) (by simp)
      refine ab_aast (t := 7) dX9_addTriangle_43 hS.2.2.2.2 (Or.inr hT.2.2.1) rfl (by omega) ?_
      replace hS := hS.gr ((ab_gr.rf (S := []) (T := [r + 2]) _).srN (a := r + 2) s.2.2.1 u (Or.inl (by simp))) (hb0.gr G) hr (by simp)
      refine ab_aload_n dX9_addTriangle_44 rfl ?_
      refine ab_dup dX9_addTriangle_45 rfl ?_
      refine ab_getI dX9_addTriangle_46 fl_X9_25 hS.1 hD.nt ?_
      refine ab_iconst (v := nI 1) dX9_addTriangle_49 (by decide) ?_
      refine ab_naddR dX9_addTriangle_50 ?_
      refine ab_putI dX9_addTriangle_51 fl_X9_25 hS.1 ?_
      refine ab_retv dX9_addTriangle_54 ?_
      exact hD0.addT G hT hb0 hr h10 hk6 ha hbb hc rfl
theorem sh_C.copy {r r2 : Nat} {s : sS} {h h1 : ab_H} (H : sh_C r2 s h) (hr : r + 2 < 78) (f : ab_gr [r] [r + 1, r + 2] h h1) (e2 : ab_i h1 r 2 = nI s.1) (e3 : ab_i h1 r 3 = nI s.2.2.1) (hl : ∀ t, t < 10 → ab_r h1 (r + 1) t = ab_r h (r2 + 1) t ∧ ab_r h1 (r + 2) t = ab_r h (r2 + 2) t) : sh_C r s h1 := by
  have s1 := sg78 (show r < 78 by omega)
  have s2 : ∀ a, a ∈ [r + 1, r + 2] → a < 78 := fun a ha => by simp at ha; omega
  have hW := H.W
  refine ⟨hW, e2, e3, fun i hi => ?_, fun i hi => ?_, fun i hi => ?_, fun i hi => ?_⟩
  · rw [(hl i hi).1]; exact (H.ro i hi).gr f
  · rw [(hl i hi).2]; exact (H.rt i hi).gr f
  · have := hW.1; rw [(hl i (by omega)).1]; exact (H.pt i hi).gr f s1 s2
  · have := hW.2.1; rw [(hl i (by omega)).2]; exact (H.tr i hi).gr f s1 s2
set_option maxRecDepth 100000 in
set_option maxHeartbeats 4000000 in
theorem lp_shCopy {k b r r2 : Nat} {h : ab_H} {s : sS} (hb : ab_bs h) (hr : r + 2 < 78) (hr2 : r2 + 2 < 78) (hne : r + 3 ≤ r2 ∨ r2 + 3 ≤ r) (hS : at_Shapes (ab_sh h) (ab_r h) r) (hQ : at_Shapes (ab_sh h) (ab_r h) r2) (hD : sh_C r2 s h) : ∀ (j i : Nat) (h1 : ab_H), i + j = 10 → ab_gr [r] [r + 1, r + 2] h h1 → ab_i h1 r 2 = nI s.1 → ab_i h1 r 3 = nI s.2.2.1 → (∀ t, t < i → ab_r h1 (r + 1) t = ab_r h (r2 + 1) t ∧ ab_r h1 (r + 2) t = ab_r h (r2 + 2) t) → ab_R k b mX9_copyFrom 18 [some (.ref r), some (.ref r2), some (.int (nI i))] [] h1 (ab_pv (fun h' => ab_gr [r] [r + 1, r + 2] h h' ∧ sh_C r s h')) := by
  intro j
  induction j with
  | zero =>
    intro i h1 hi f e2 e3 hl
    obtain rfl : i = 10 := by omega
    refine ab_iload_n dX9_copyFrom_18 rfl ?_
    refine ab_bipush (v := nI 10) dX9_copyFrom_19 (by decide) ?_
    refine ab_nicmp_ge 54 dX9_copyFrom_21 (by decide) (by omega) (by omega) (fun c_21 => ?_) (fun c_21 => ?_)
    · skip
      refine ab_retv dX9_copyFrom_54 ?_
      exact ⟨f, hD.copy hr f e2 e3 hl⟩
    · skip
      exact absurd (by omega) c_21
  | succ j ih =>
    intro i h1 hi f e2 e3 hl
    have hS0 := hS
    have hQ0 := hQ
    have hS := hS.gr f hb hr (by simp)
    have hQ := hQ.gr f hb hr2 (by simp; omega)
    have hb5 : 73 ≤ ab_n h := hb
    refine ab_iload_n dX9_copyFrom_18 rfl ?_
    refine ab_bipush (v := nI 10) dX9_copyFrom_19 (by decide) ?_
    refine ab_nicmp_ge 54 dX9_copyFrom_21 (by decide) (by omega) (by omega) (fun c_21 => ?_) (fun c_21 => ?_)
    · skip
      exact absurd c_21 (by omega)
    · skip
      refine ab_aload_n dX9_copyFrom_24 rfl ?_
      refine ab_getR dX9_copyFrom_25 fl_X9_11 hS.1 hS.2.1 ?_
      refine ab_iload_n dX9_copyFrom_28 rfl ?_
      refine ab_aload_n dX9_copyFrom_29 rfl ?_
      refine ab_getR dX9_copyFrom_30 fl_X9_11 hQ.1 hQ.2.1 ?_
      refine ab_iload_n dX9_copyFrom_33 rfl ?_
      refine ab_aald (t := 6) dX9_copyFrom_34 hQ.2.2.1 rfl (by omega) (congrFun ((f.2.2 (r2 + 1) (by omega)).2.2 (by simp; omega)) i) ?_
      refine ab_aast (t := 6) dX9_copyFrom_35 hS.2.2.1 ((hD.ro i (by omega)).gr f).st rfl (by omega) ?_
      have f2 := f.srN (a := r + 1) i (ab_r h (r2 + 1) i) (Or.inl (by simp))
      replace hS := hS0.gr f2 hb hr (by simp)
      replace hQ := hQ0.gr f2 hb hr2 (by simp; omega)
      refine ab_aload_n dX9_copyFrom_36 rfl ?_
      refine ab_getR dX9_copyFrom_37 fl_X9_17 hS.1 hS.2.2.2.1 ?_
      refine ab_iload_n dX9_copyFrom_40 rfl ?_
      refine ab_aload_n dX9_copyFrom_41 rfl ?_
      refine ab_getR dX9_copyFrom_42 fl_X9_17 hQ.1 hQ.2.2.2.1 ?_
      refine ab_iload_n dX9_copyFrom_45 rfl ?_
      refine ab_aald (t := 7) dX9_copyFrom_46 hQ.2.2.2.2 rfl (by omega) (congrFun ((f2.2.2 (r2 + 2) (by omega)).2.2 (by simp; omega)) i) ?_
      refine ab_aast (t := 7) dX9_copyFrom_47 hS.2.2.2.2 ((hD.rt i (by omega)).gr f2).st rfl (by omega) ?_
      refine ab_nincR (ls' := [_, _, _]) dX9_copyFrom_48 rfl rfl ?_
      refine ab_goto 18 dX9_copyFrom_51 (by decide) ?_
      refine ih (i + 1) _ (by omega) (f2.srN (a := r + 2) i (ab_r h (r2 + 2) i) (Or.inl (by simp))) e2 e3 (fun t ht => ?_)
      have q1 : ab_r (ab_sr (ab_sr h1 (r + 1) i (ab_r h (r2 + 1) i)) (r + 2) i (ab_r h (r2 + 2) i)) (r + 1) t = if t = i then ab_r h (r2 + 1) i else ab_r h1 (r + 1) t := (congrFun (ab_up_ne _ _ (by omega)) t).trans (ab_r_sr_same h1 (r + 1) i _ t)
      have q2 : ab_r (ab_sr (ab_sr h1 (r + 1) i (ab_r h (r2 + 1) i)) (r + 2) i (ab_r h (r2 + 2) i)) (r + 2) t = if t = i then ab_r h (r2 + 2) i else ab_r h1 (r + 2) t := (ab_r_sr_same _ (r + 2) i _ t).trans (by split; rfl; exact congrFun (ab_up_ne _ _ (by omega)) t)
      rw [q1, q2]
      by_cases c : t = i
      · rw [if_pos c, if_pos c, c]; exact ⟨rfl, rfl⟩
      · rw [if_neg c, if_neg c]; exact hl t (by omega)
set_option maxRecDepth 100000 in
set_option maxHeartbeats 4000000 in
theorem c_shCopy {k b r r2 : Nat} {h : ab_H} {s : sS} (hb : ab_bs h) (hr : r + 2 < 78) (hr2 : r2 + 2 < 78) (hne : r + 3 ≤ r2 ∨ r2 + 3 ≤ r) (hS : at_Shapes (ab_sh h) (ab_r h) r) (hQ : at_Shapes (ab_sh h) (ab_r h) r2) (hD : sh_C r2 s h) : ab_M k b mX9_copyFrom [.ref r, .ref r2] h (ab_pv (fun h' => ab_gr [r] [r + 1, r + 2] h h' ∧ sh_C r s h')) := by
  refine ab_enter ?_
  refine ab_aload_n dX9_copyFrom_0 rfl ?_
  refine ab_aload_n dX9_copyFrom_1 rfl ?_
  refine ab_getI dX9_copyFrom_2 fl_X9_21 hQ.1 hD.np ?_
  refine ab_putI dX9_copyFrom_5 fl_X9_21 hS.1 ?_
  refine ab_aload_n dX9_copyFrom_8 rfl ?_
  refine ab_aload_n dX9_copyFrom_9 rfl ?_
  refine ab_getI dX9_copyFrom_10 fl_X9_25 hQ.1 ((congrFun (ab_up_ne _ _ (by omega)) 3).trans hD.nt) ?_
  refine ab_putI dX9_copyFrom_13 fl_X9_25 hS.1 ?_
  refine ab_iconst (v := nI 0) dX9_copyFrom_16 (by decide) ?_
  refine ab_sti_n (ls' := [_, _, _]) dX9_copyFrom_17 (by decide) rfl ?_
  exact lp_shCopy hb hr hr2 hne hS hQ hD 10 0 _ rfl (((ab_gr.rf h).siN (a := r) 2 _ (Or.inl (by simp))).siN (a := r) 3 _ (Or.inl (by simp))) (by rw [ab_i_si_same, if_neg (by decide), ab_i_si_same, if_pos rfl]) (by rw [ab_i_si_same, if_pos rfl]) (fun t ht => absurd ht (Nat.not_lt_zero t))
/-! ===== sets of triangles ===== -/
def sOr (P : Nat → Bool) : Nat → Nat
  | 0 => 0
  | i + 1 => if P i = true then sOr P i ||| 1 <<< i else sOr P i
theorem sOr_yes {P : Nat → Bool} {i : Nat} (h : P i = true) : sOr P (i + 1) = sOr P i ||| 1 <<< i := by rw [sOr, if_pos h]
theorem sOr_no {P : Nat → Bool} {i : Nat} (h : P i = false) : sOr P (i + 1) = sOr P i := by rw [sOr, if_neg (by rw [h]; decide)]
/-- is the i-th one in the set -/
def bt (n i : Nat) : Bool := decide (n >>> i &&& 1 = 1)
def pE (s : sS) (n i : Nat) : Bool := bt n i && decide (vQ (sA s i) ≤ -1)
def pR (s : sS) (n i : Nat) : Bool := bt n i && decide (sC s i = 7)
theorem and_f1 {a b : Bool} (h : a = false) : (a && b) = false := by rw [h]; rfl
theorem and_f2 {a b : Bool} (h : b = false) : (a && b) = false := by rw [h]; cases a <;> rfl
theorem and_t {a b : Bool} (h : a = true) (h2 : b = true) : (a && b) = true := by rw [h, h2]; rfl
theorem iI_m1 {p : Int × Nat} : -1 < iI (vQ p) ↔ -1 < vQ p := by
  have h := vQ_in p
  rw [Int32.lt_iff_toInt_lt, iI_int h.1 h.2]; exact Iff.rfl
set_option maxRecDepth 100000 in
set_option maxHeartbeats 4000000 in
theorem c_isRainbow {k b r c : Nat} {h : ab_H} {t : Nat × Nat × Nat × Nat} {A : Int × Nat} (hT : tr_at h r t c A) (hc : c < 8) : ab_M k b mX10_isRainbow [.ref r] h (ab_pb (fun t h' => h' = h ∧ t = decide (c = 7))) := by
  refine ab_enter ?_
  refine ab_aload_n dX10_isRainbow_0 rfl ?_
  refine ab_getI dX10_isRainbow_1 fl_X10_22 hT.2.2.1 hT.2.2.2.2.2.2.2.1 ?_
  refine ab_bipush (v := nI 7) dX10_isRainbow_4 (by decide) ?_
  refine ab_nicmp_ne 13 dX10_isRainbow_6 (by decide) (by omega) (by omega) (fun c_6 => ?_) (fun c_6 => ?_)
  · skip
    refine ab_iconst (v := nI 0) dX10_isRainbow_13 (by decide) ?_
    refine ab_retb (x := false) dX10_isRainbow_14 ?_
    exact ⟨rfl, (decide_eq_false c_6).symm⟩
  · skip
    refine ab_iconst (v := nI 1) dX10_isRainbow_9 (by decide) ?_
    refine ab_goto 14 dX10_isRainbow_10 (by decide) ?_
    refine ab_retb (x := true) dX10_isRainbow_14 ?_
    exact ⟨rfl, (decide_eq_true c_6).symm⟩
set_option maxRecDepth 100000 in
set_option maxHeartbeats 4000000 in
theorem lp_evenOnes {k b r n : Nat} {h : ab_H} {s : sS} (hk : 2 ≤ k) (hS : at_Shapes (ab_sh h) (ab_r h) r) (hD : sh_C r s h) (hn : n < 2147483648) : ∀ (j i : Nat), i + j = s.2.2.1 → ab_R k b mX9_evenOnes 4 [some (.ref r), some (.int (nI n)), some (.int (nI (sOr (pE s n) i))), some (.int (nI i))] [] h (ab_pi (fun v h' => h' = h ∧ v = nI (sOr (pE s n) s.2.2.1))) := by
  intro j
  induction j with
  | zero =>
    intro i hi
    have h11 := hD.W.2.1
    obtain rfl : i = s.2.2.1 := by omega
    refine ab_iload_n dX9_evenOnes_4 rfl ?_
    refine ab_aload_n dX9_evenOnes_5 rfl ?_
    refine ab_getI dX9_evenOnes_6 fl_X9_25 hS.1 hD.nt ?_
    refine ab_nicmp_ge 49 dX9_evenOnes_9 (by decide) (by omega) (by omega) (fun c_9 => ?_) (fun c_9 => ?_)
    · skip
      refine ab_iload_n dX9_evenOnes_49 rfl ?_
      refine ab_reti dX9_evenOnes_50 ?_
      exact ⟨rfl, rfl⟩
    · skip
      exact absurd (Nat.le_refl _) c_9
  | succ j ih =>
    intro i hi
    have h11 := hD.W.2.1
    refine ab_iload_n dX9_evenOnes_4 rfl ?_
    refine ab_aload_n dX9_evenOnes_5 rfl ?_
    refine ab_getI dX9_evenOnes_6 fl_X9_25 hS.1 hD.nt ?_
    refine ab_nicmp_ge 49 dX9_evenOnes_9 (by decide) (by omega) (by omega) (fun c_9 => ?_) (fun c_9 => ?_)
    · skip
      exact absurd c_9 (by omega)
    · skip
      have hi9 : i < s.2.2.1 := by omega
      have hT := hD.tr i hi9
      refine ab_aload_n dX9_evenOnes_12 rfl ?_
      refine ab_iload_n dX9_evenOnes_13 rfl ?_
      refine ab_iload_n dX9_evenOnes_14 rfl ?_
      refine ab_callVb [_, _] dX9_evenOnes_15 ml_X9_49 mk_X9_isIn hS.1 (c_isIn (k := 0) (b := 0) hn (by omega)) (fun t hh1 hq => ?_)
      obtain ⟨hhe, rfl⟩ := hq
      rw [hhe]
      refine ab_bif_eq 43 dX9_evenOnes_18 (by decide) (fun c_18 => ?_) (fun c_18 => ?_)
      · skip
        refine ab_nincR (ls' := [_, _, _, _]) dX9_evenOnes_43 rfl rfl ?_
        refine ab_goto 4 dX9_evenOnes_46 (by decide) ?_
        refine (fun q => ?_) (ih (i + 1) (by omega))
        first | (rw [sOr_no (P := pE s n) (and_f1 c_18)] at q; exact q) | (rw [sOr_no (P := pE s n) (and_f2 (decide_eq_false (by omega)))] at q; exact q) | (rw [sOr_yes (P := pE s n) (and_t c_18 (decide_eq_true (by omega)))] at q; exact q)
      · skip
        refine ab_aload_n dX9_evenOnes_21 rfl ?_
        refine ab_getR dX9_evenOnes_22 fl_X9_17 hS.1 hS.2.2.2.1 ?_
        refine ab_iload_n dX9_evenOnes_25 rfl ?_
        refine ab_aald (t := 7) dX9_evenOnes_26 hS.2.2.2.2 rfl (by omega) rfl ?_
        refine ab_getR dX9_evenOnes_27 fl_X9_53 hT.2.2.1 rfl ?_
        refine ab_callVi [] dX9_evenOnes_30 ml_X9_67 mk_X2_valuation hT.2.2.2.2.2.2.2.2.2.2.1 (c_fr_val (k := 1) (b := 0) (Nat.le_refl _) hT.2.2.2.2.2.2.2.2 (sA_0 s i) ((sA_B hD.W hi9).k1 (by decide)) (sA_B hD.W hi9).2.1 ((sA_B hD.W hi9).k2 (by decide))) (fun x h1 hq => ?_)
        obtain ⟨hhe, rfl⟩ := hq
        rw [hhe]
        refine ab_iconst (v := -1) dX9_evenOnes_33 (by decide) ?_
        refine ab_icmp_gt 43 dX9_evenOnes_34 (by decide) (fun c_34 => ?_) (fun c_34 => ?_)
        · replace c_34 := iI_m1.mp c_34
          refine ab_nincR (ls' := [_, _, _, _]) dX9_evenOnes_43 rfl rfl ?_
          refine ab_goto 4 dX9_evenOnes_46 (by decide) ?_
          refine (fun q => ?_) (ih (i + 1) (by omega))
          first | (rw [sOr_no (P := pE s n) (and_f1 c_18)] at q; exact q) | (rw [sOr_no (P := pE s n) (and_f2 (decide_eq_false (by omega)))] at q; exact q) | (rw [sOr_yes (P := pE s n) (and_t c_18 (decide_eq_true (by omega)))] at q; exact q)
        · replace c_34 := mt iI_m1.mpr c_34
          refine ab_iload_n dX9_evenOnes_37 rfl ?_
          refine ab_iconst (v := nI 1) dX9_evenOnes_38 (by decide) ?_
          refine ab_iload_n dX9_evenOnes_39 rfl ?_
          refine ab_nshlR dX9_evenOnes_40 (by omega) ?_
          refine ab_norR dX9_evenOnes_41 ?_
          refine ab_sti_n (ls' := [_, _, _, _]) dX9_evenOnes_42 (by decide) rfl ?_
          refine ab_nincR (ls' := [_, _, _, _]) dX9_evenOnes_43 rfl rfl ?_
          refine ab_goto 4 dX9_evenOnes_46 (by decide) ?_
          refine (fun q => ?_) (ih (i + 1) (by omega))
          first | (rw [sOr_no (P := pE s n) (and_f1 c_18)] at q; exact q) | (rw [sOr_no (P := pE s n) (and_f2 (decide_eq_false (by omega)))] at q; exact q) | (rw [sOr_yes (P := pE s n) (and_t c_18 (decide_eq_true (by omega)))] at q; exact q)
set_option maxRecDepth 100000 in
set_option maxHeartbeats 4000000 in
theorem c_evenOnes {k b r n : Nat} {h : ab_H} {s : sS} (hk : 2 ≤ k) (hS : at_Shapes (ab_sh h) (ab_r h) r) (hD : sh_C r s h) (hn : n < 2147483648) : ab_M k b mX9_evenOnes [.ref r, .int (nI n)] h (ab_pi (fun v h' => h' = h ∧ v = nI (sOr (pE s n) s.2.2.1))) := by
  refine ab_enter ?_
  refine ab_iconst (v := nI 0) dX9_evenOnes_0 (by decide) ?_
  refine ab_sti_n (ls' := [_, _, _, _]) dX9_evenOnes_1 (by decide) rfl ?_
  refine ab_iconst (v := nI 0) dX9_evenOnes_2 (by decide) ?_
  refine ab_sti_n (ls' := [_, _, _, _]) dX9_evenOnes_3 (by decide) rfl ?_
  exact lp_evenOnes hk hS hD hn s.2.2.1 0 (by omega)
set_option maxRecDepth 100000 in
set_option maxHeartbeats 4000000 in
theorem lp_rainbows {k b r n : Nat} {h : ab_H} {s : sS} (hk : 2 ≤ k) (hS : at_Shapes (ab_sh h) (ab_r h) r) (hD : sh_C r s h) (hn : n < 2147483648) : ∀ (j i : Nat), i + j = s.2.2.1 → ab_R k b mX9_rainbows 4 [some (.ref r), some (.int (nI n)), some (.int (nI (sOr (pR s n) i))), some (.int (nI i))] [] h (ab_pi (fun v h' => h' = h ∧ v = nI (sOr (pR s n) s.2.2.1))) := by
  intro j
  induction j with
  | zero =>
    intro i hi
    have h11 := hD.W.2.1
    obtain rfl : i = s.2.2.1 := by omega
    refine ab_iload_n dX9_rainbows_4 rfl ?_
    refine ab_aload_n dX9_rainbows_5 rfl ?_
    refine ab_getI dX9_rainbows_6 fl_X9_25 hS.1 hD.nt ?_
    refine ab_nicmp_ge 45 dX9_rainbows_9 (by decide) (by omega) (by omega) (fun c_9 => ?_) (fun c_9 => ?_)
    · skip
      refine ab_iload_n dX9_rainbows_45 rfl ?_
      refine ab_reti dX9_rainbows_46 ?_
      exact ⟨rfl, rfl⟩
    · skip
      exact absurd (Nat.le_refl _) c_9
  | succ j ih =>
    intro i hi
    have h11 := hD.W.2.1
    refine ab_iload_n dX9_rainbows_4 rfl ?_
    refine ab_aload_n dX9_rainbows_5 rfl ?_
    refine ab_getI dX9_rainbows_6 fl_X9_25 hS.1 hD.nt ?_
    refine ab_nicmp_ge 45 dX9_rainbows_9 (by decide) (by omega) (by omega) (fun c_9 => ?_) (fun c_9 => ?_)
    · skip
      exact absurd c_9 (by omega)
    · skip
      have hi9 : i < s.2.2.1 := by omega
      have hT := hD.tr i hi9
      refine ab_aload_n dX9_rainbows_12 rfl ?_
      refine ab_iload_n dX9_rainbows_13 rfl ?_
      refine ab_iload_n dX9_rainbows_14 rfl ?_
      refine ab_callVb [_, _] dX9_rainbows_15 ml_X9_49 mk_X9_isIn hS.1 (c_isIn (k := 0) (b := 0) hn (by omega)) (fun t hh1 hq => ?_)
      obtain ⟨hhe, rfl⟩ := hq
      rw [hhe]
      refine ab_bif_eq 39 dX9_rainbows_18 (by decide) (fun c_18 => ?_) (fun c_18 => ?_)
      · skip
        refine ab_nincR (ls' := [_, _, _, _]) dX9_rainbows_39 rfl rfl ?_
        refine ab_goto 4 dX9_rainbows_42 (by decide) ?_
        refine (fun q => ?_) (ih (i + 1) (by omega))
        first | (rw [sOr_no (P := pR s n) (and_f1 c_18)] at q; exact q) | (rw [sOr_no (P := pR s n) (and_f2 c_30)] at q; exact q) | (rw [sOr_yes (P := pR s n) (and_t c_18 c_30)] at q; exact q)
      · skip
        refine ab_aload_n dX9_rainbows_21 rfl ?_
        refine ab_getR dX9_rainbows_22 fl_X9_17 hS.1 hS.2.2.2.1 ?_
        refine ab_iload_n dX9_rainbows_25 rfl ?_
        refine ab_aald (t := 7) dX9_rainbows_26 hS.2.2.2.2 rfl (by omega) rfl ?_
        refine ab_callVb [] dX9_rainbows_27 ml_X9_71 mk_X10_isRainbow hT.2.2.1 (c_isRainbow (k := 0) (b := 0) hT (co_lt _ _ _ _)) (fun t2 hh2 hq => ?_)
        obtain ⟨hhe, rfl⟩ := hq
        rw [hhe]
        refine ab_bif_eq 39 dX9_rainbows_30 (by decide) (fun c_30 => ?_) (fun c_30 => ?_)
        · skip
          refine ab_nincR (ls' := [_, _, _, _]) dX9_rainbows_39 rfl rfl ?_
          refine ab_goto 4 dX9_rainbows_42 (by decide) ?_
          refine (fun q => ?_) (ih (i + 1) (by omega))
          first | (rw [sOr_no (P := pR s n) (and_f1 c_18)] at q; exact q) | (rw [sOr_no (P := pR s n) (and_f2 c_30)] at q; exact q) | (rw [sOr_yes (P := pR s n) (and_t c_18 c_30)] at q; exact q)
        · skip
          refine ab_iload_n dX9_rainbows_33 rfl ?_
          refine ab_iconst (v := nI 1) dX9_rainbows_34 (by decide) ?_
          refine ab_iload_n dX9_rainbows_35 rfl ?_
          refine ab_nshlR dX9_rainbows_36 (by omega) ?_
          refine ab_norR dX9_rainbows_37 ?_
          refine ab_sti_n (ls' := [_, _, _, _]) dX9_rainbows_38 (by decide) rfl ?_
          refine ab_nincR (ls' := [_, _, _, _]) dX9_rainbows_39 rfl rfl ?_
          refine ab_goto 4 dX9_rainbows_42 (by decide) ?_
          refine (fun q => ?_) (ih (i + 1) (by omega))
          first | (rw [sOr_no (P := pR s n) (and_f1 c_18)] at q; exact q) | (rw [sOr_no (P := pR s n) (and_f2 c_30)] at q; exact q) | (rw [sOr_yes (P := pR s n) (and_t c_18 c_30)] at q; exact q)
set_option maxRecDepth 100000 in
set_option maxHeartbeats 4000000 in
theorem c_rainbows {k b r n : Nat} {h : ab_H} {s : sS} (hk : 2 ≤ k) (hS : at_Shapes (ab_sh h) (ab_r h) r) (hD : sh_C r s h) (hn : n < 2147483648) : ab_M k b mX9_rainbows [.ref r, .int (nI n)] h (ab_pi (fun v h' => h' = h ∧ v = nI (sOr (pR s n) s.2.2.1))) := by
  refine ab_enter ?_
  refine ab_iconst (v := nI 0) dX9_rainbows_0 (by decide) ?_
  refine ab_sti_n (ls' := [_, _, _, _]) dX9_rainbows_1 (by decide) rfl ?_
  refine ab_iconst (v := nI 0) dX9_rainbows_2 (by decide) ?_
  refine ab_sti_n (ls' := [_, _, _, _]) dX9_rainbows_3 (by decide) rfl ?_
  exact lp_rainbows hk hS hD hn s.2.2.1 0 (by omega)
