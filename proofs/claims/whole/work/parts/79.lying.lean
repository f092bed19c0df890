/-! ===== the class: a triangle comes ===== -/
theorem ab_i_si_same (h : ab_H) (a k : Nat) (v : Int32) (j : Nat) : ab_i (ab_si h a k v) a j = if j = k then v else ab_i h a j := by rw [ab_i_si, if_pos rfl]; rfl
theorem ab_r_sr_same (h : ab_H) (a k v : Nat) (j : Nat) : ab_r (ab_sr h a k v) a j = if j = k then v else ab_r h a j := by
  show ab_up (ab_r h) a (ab_up (ab_r h a) k v) a j = _
  rw [ab_up_self]; rfl
theorem tr_at.new {h h1 : ab_H} {k a b c col w : Nat} {A : Int × Nat} (hb : ab_bs h) (hF : fr_at h w A) (e : h1 = ab_sr (ab_si (ab_si (ab_si (ab_si (ab_si (ab_new h (10, 0)) (5 + ab_n h) 0 (nI k)) (5 + ab_n h) 1 (nI a)) (5 + ab_n h) 2 (nI b)) (5 + ab_n h) 3 (nI c)) (5 + ab_n h) 4 (nI col)) (5 + ab_n h) 5 w) : ab_gr [] [] h h1 ∧ tr_at h1 (5 + ab_n h) (k, a, b, c) col A := by
  have hle : ([] : List Nat) = [] ∨ 5 + ab_n h ≤ 5 + ab_n h := Or.inr (Nat.le_refl _)
  have G : ab_gr [] [] h h1 := by
    rw [e]
    exact (((((((ab_gr.rf h).new _).siN _ _ (Or.inr (Nat.le_refl _))).siN _ _ (Or.inr (Nat.le_refl _))).siN _ _ (Or.inr (Nat.le_refl _))).siN _ _ (Or.inr (Nat.le_refl _))).siN _ _ (Or.inr (Nat.le_refl _))).srN _ _ (Or.inr (Nat.le_refl _))
  have hr : ab_r h1 (5 + ab_n h) 5 = w := by rw [e, ab_r_sr_same]; rfl
  refine ⟨G, ?_, ?_, ?_, ?_, ?_, ?_, ?_, ?_, ?_⟩
  · unfold ab_bs at hb; omega
  · rw [e]; show 5 + ab_n h < 5 + (ab_n h + 1); omega
  · rw [e]; exact ab_up_self _ _ _
  · rw [e, ab_i_sr]; simp [ab_i_si_same]
  · rw [e, ab_i_sr]; simp [ab_i_si_same]
  · rw [e, ab_i_sr]; simp [ab_i_si_same]
  · rw [e, ab_i_sr]; simp [ab_i_si_same]
  · rw [e, ab_i_sr]; simp [ab_i_si_same]
  · rw [hr]; exact hF.gr G nil78
set_option maxRecDepth 100000 in
set_option maxHeartbeats 4000000 in
theorem c_trInit {k b r w : Nat} {h : ab_H} {x0 x1 x2 x3 x4 : Int32} (hk : 1 ≤ k) (h0 : r ≠ 0) (hs : ab_sh h r = (10, 0)) : ab_M k b mX10_init [.ref r, .int x0, .int x1, .int x2, .int x3, .int x4, .ref w] h (ab_pv (fun h' => h' = ab_sr (ab_si (ab_si (ab_si (ab_si (ab_si h r 0 x0) r 1 x1) r 2 x2) r 3 x3) r 4 x4) r 5 w)) := by
  refine ab_enter ?_
  refine ab_aload_n dX10_init_0 rfl ?_
  refine ab_objInit dX10_init_1 ml_X10_1 h0 ?_
  refine ab_aload_n dX10_init_4 rfl ?_
  refine ab_iload_n dX10_init_5 rfl ?_
  refine ab_putI dX10_init_6 fl_X10_7 hs ?_
  refine ab_aload_n dX10_init_9 rfl ?_
  refine ab_iload_n dX10_init_10 rfl ?_
  refine ab_putI dX10_init_11 fl_X10_13 hs ?_
  refine ab_aload_n dX10_init_14 rfl ?_
  refine ab_iload_n dX10_init_15 rfl ?_
  refine ab_putI dX10_init_16 fl_X10_16 hs ?_
  refine ab_aload_n dX10_init_19 rfl ?_
  refine ab_iload dX10_init_20 rfl ?_
  refine ab_putI dX10_init_22 fl_X10_19 hs ?_
  refine ab_aload_n dX10_init_25 rfl ?_
  refine ab_iload dX10_init_26 rfl ?_
  refine ab_putI dX10_init_28 fl_X10_22 hs ?_
  refine ab_aload_n dX10_init_31 rfl ?_
  refine ab_aload dX10_init_32 rfl ?_
  refine ab_putR dX10_init_34 fl_X10_25 hs ?_
  refine ab_retv dX10_init_37 ?_
  exact rfl
theorem c_dif {k b r r2 X Y : Nat} {h : ab_H} (hk : 3 ≤ k) (hb1 : 1 ≤ b) (hb : ab_bs h) (hX : X < 10000 ∧ X % 100 ≠ 0) (hY : Y < 10000 ∧ Y % 100 ≠ 0) (hA : fr_at h r (fR (pq X))) (hB : fr_at h r2 (fR (pq Y))) : ab_M k b mX2_minus [.ref r, .ref r2] h (ab_pr (fun x h' => ab_gr [] [] h h' ∧ fr_at h' x (fR (q_sub (pq X) (pq Y))))) := by
  have q := c_fr_minus hk hb1 hb hA hB (pq_B hX).R.2.1 (pq_B hY).R.2.1 (((pq_B hX).R.sub (pq_B hY).R).k1 (by decide)) (((pq_B hX).R.sub (pq_B hY).R).k2 (by decide))
  rw [fR_sub (pq_B hX).2.1 (pq_B hY).2.1] at q
  exact q
theorem c_pro {k b r r2 : Nat} {h : ab_H} {p q : Int × Nat} (hk : 3 ≤ k) (hb1 : 1 ≤ b) (hb : ab_bs h) (hp : qB 19602 9801 p) (hq : qB 19602 9801 q) (hA : fr_at h r (fR p)) (hB : fr_at h r2 (fR q)) : ab_M k b mX2_times [.ref r, .ref r2] h (ab_pr (fun x h' => ab_gr [] [] h h' ∧ fr_at h' x (fR (q_mul p q)))) := by
  have q := c_fr_times hk hb1 hb hA hB hp.R.2.1 hq.R.2.1 ((hp.R.mul hq.R).k1 (by decide)) ((hp.R.mul hq.R).k2 (by decide))
  rw [fR_tim hp.2.1 hq.2.1] at q
  exact q
theorem c_dif2 {k b r r2 : Nat} {h : ab_H} {p q : Int × Nat} (hk : 3 ≤ k) (hb1 : 1 ≤ b) (hb : ab_bs h) (hp : qB 384238404 96059601 p) (hq : qB 384238404 96059601 q) (hA : fr_at h r (fR p)) (hB : fr_at h r2 (fR q)) : ab_M k b mX2_minus [.ref r, .ref r2] h (ab_pr (fun x h' => ab_gr [] [] h h' ∧ fr_at h' x (fR (q_sub p q)))) := by
  have q := c_fr_minus hk hb1 hb hA hB hp.R.2.1 hq.R.2.1 ((sB hp.R hq.R).k1 (by decide)) ((sB hp.R hq.R).k2 (by decide))
  rw [fR_sub hp.2.1 hq.2.1] at q
  exact q
set_option maxRecDepth 100000 in
set_option maxHeartbeats 4000000 in
theorem c_lyingOn {k b pts kd ia ib ic ra rb rc : Nat} {h : ab_H} {A B C : Nat × Nat} (hk : 4 ≤ k) (hb1 : 9 ≤ b) (hb : ab_bs h) (hE : ab_cs h) (hs : ab_sh h pts = (106, 10)) (hk6 : kd < 6) (ha : ia < 10) (hbb : ib < 10) (hc : ic < 10) (rA : ab_r h pts ia = ra) (rB : ab_r h pts ib = rb) (rC : ab_r h pts ic = rc) (hA : pt_at h ra A) (hB : pt_at h rb B) (hC : pt_at h rc C) (pA : pOK A) (qqB : pOK B) (pC : pOK C) : ab_M k b mX10_lyingOn [.ref pts, .int (nI kd), .int (nI ia), .int (nI ib), .int (nI ic)] h (ab_pr (fun x h' => ab_gr [] [] h h' ∧ tr_at h' x (kd, ia, ib, ic) (co kd A B C) (ar kd A B C))) := by
  refine ab_enter ?_
  have hT := aT_B pA qqB pC
  have G : ab_gr [] [] h h := ab_gr.rf h
  refine ab_aload_n dX10_lyingOn_0 rfl ?_
  refine ab_iload_n dX10_lyingOn_1 rfl ?_
  refine ab_aald (t := 6) dX10_lyingOn_2 hs rfl ha rA ?_
  refine ab_sta (ls' := [_, _, _, _, _, _, _, _, _, _, _, _, _, _]) dX10_lyingOn_3 (by decide) rfl ?_
  refine ab_aload_n dX10_lyingOn_5 rfl ?_
  refine ab_iload_n dX10_lyingOn_6 rfl ?_
  refine ab_aald (t := 6) dX10_lyingOn_7 hs rfl hbb rB ?_
  refine ab_sta (ls' := [_, _, _, _, _, _, _, _, _, _, _, _, _, _]) dX10_lyingOn_8 (by decide) rfl ?_
  refine ab_aload_n dX10_lyingOn_10 rfl ?_
  refine ab_iload dX10_lyingOn_11 rfl ?_
  refine ab_aald (t := 6) dX10_lyingOn_13 hs rfl hc rC ?_
  refine ab_sta (ls' := [_, _, _, _, _, _, _, _, _, _, _, _, _, _]) dX10_lyingOn_14 (by decide) rfl ?_
  refine ab_iload_n dX10_lyingOn_16 rfl ?_
  refine ab_iconst (v := nI 3) dX10_lyingOn_17 (by decide) ?_
  refine ab_callSb [_, _] dX10_lyingOn_18 ml_X10_29 mk_X10_isUnder (c_isUnder (k' := 1) (b := 0) (Nat.le_refl _) hE hk6 (by decide)) (fun t hh1 hq => ?_)
  obtain ⟨hhe, rfl⟩ := hq
  rw [hhe]
  refine ab_sti (ls' := [_, _, _, _, _, _, _, _, _, _, _, _, _, _]) dX10_lyingOn_21 (by decide) rfl ?_
  refine ab_iconst (v := nI 1) dX10_lyingOn_23 (by decide) ?_
  refine ab_aload dX10_lyingOn_24 rfl ?_
  refine ab_iload dX10_lyingOn_26 rfl ?_
  refine ab_callVi [_] dX10_lyingOn_28 ml_X10_33 mk_X6_shade hA.2.2.1 (c_shade (k := 2) (b := 0) (m := un kd 3) (Nat.le_refl _) hA pA) (fun x h1 hq => ?_)
  obtain ⟨hhe, rfl⟩ := hq
  rw [hhe]
  refine ab_nshlR dX10_lyingOn_31 (by have := sd_lt (un kd 3) A; omega) ?_
  refine ab_iconst (v := nI 1) dX10_lyingOn_32 (by decide) ?_
  refine ab_aload dX10_lyingOn_33 rfl ?_
  refine ab_iload dX10_lyingOn_35 rfl ?_
  refine ab_callVi [_] dX10_lyingOn_37 ml_X10_33 mk_X6_shade hB.2.2.1 (c_shade (k := 2) (b := 0) (m := un kd 3) (Nat.le_refl _) hB qqB) (fun x h1 hq => ?_)
  obtain ⟨hhe, rfl⟩ := hq
  rw [hhe]
  refine ab_nshlR dX10_lyingOn_40 (by have := sd_lt (un kd 3) B; omega) ?_
  refine ab_norR dX10_lyingOn_41 ?_
  refine ab_iconst (v := nI 1) dX10_lyingOn_42 (by decide) ?_
  refine ab_aload dX10_lyingOn_43 rfl ?_
  refine ab_iload dX10_lyingOn_45 rfl ?_
  refine ab_callVi [_] dX10_lyingOn_47 ml_X10_33 mk_X6_shade hC.2.2.1 (c_shade (k := 2) (b := 0) (m := un kd 3) (Nat.le_refl _) hC pC) (fun x h1 hq => ?_)
  obtain ⟨hhe, rfl⟩ := hq
  rw [hhe]
  refine ab_nshlR dX10_lyingOn_50 (by have := sd_lt (un kd 3) C; omega) ?_
  refine ab_norR dX10_lyingOn_51 ?_
  refine ab_sti (ls' := [_, _, _, _, _, _, _, _, _, _, _, _, _, _]) dX10_lyingOn_52 (by decide) rfl ?_
  refine ab_aload dX10_lyingOn_54 rfl ?_
  refine ab_getR dX10_lyingOn_56 fl_X10_39 hB.2.2.1 rfl ?_
  refine ab_aload dX10_lyingOn_59 rfl ?_
  refine ab_getR dX10_lyingOn_61 fl_X10_39 hA.2.2.1 rfl ?_
  refine ab_callVr [_] dX10_lyingOn_64 ml_X10_42 mk_X2_minus hB.2.2.2.1.2.2.1 (c_dif (k := 3) (b := 1) (Nat.le_refl _) (Nat.le_refl _) hb qqB.1 pA.1 hB.2.2.2.1 hA.2.2.2.1) (fun u hh hq => ?_)
  obtain ⟨g, hu1⟩ := hq
  replace hA := hA.gr g nil78 nil78
  replace hB := hB.gr g nil78 nil78
  replace hC := hC.gr g nil78 nil78
  replace hE := hE.gr g
  replace hb := hb.gr g
  replace G := G.trans g (fun _ q => q) (fun _ q => q)
  refine ab_aload dX10_lyingOn_67 rfl ?_
  refine ab_getR dX10_lyingOn_69 fl_X10_48 hC.2.2.1 rfl ?_
  refine ab_aload dX10_lyingOn_72 rfl ?_
  refine ab_getR dX10_lyingOn_74 fl_X10_48 hA.2.2.1 rfl ?_
  refine ab_callVr [_] dX10_lyingOn_77 ml_X10_42 mk_X2_minus hC.2.2.2.2.2.2.1 (c_dif (k := 3) (b := 1) (Nat.le_refl _) (Nat.le_refl _) hb pC.2 pA.2 hC.2.2.2.2 hA.2.2.2.2) (fun u hh hq => ?_)
  obtain ⟨g, hu2⟩ := hq
  replace hA := hA.gr g nil78 nil78
  replace hB := hB.gr g nil78 nil78
  replace hC := hC.gr g nil78 nil78
  replace hE := hE.gr g
  replace hb := hb.gr g
  replace G := G.trans g (fun _ q => q) (fun _ q => q)
  replace hu1 := hu1.gr g nil78
  refine ab_callVr [_] dX10_lyingOn_80 ml_X10_51 mk_X2_times hu1.2.2.1 (c_pro (k := 3) (b := 1) (Nat.le_refl _) (Nat.le_refl _) hb (dB qqB.1 pA.1) (dB pC.2 pA.2) hu1 hu2) (fun u hh hq => ?_)
  obtain ⟨g, hv1⟩ := hq
  replace hA := hA.gr g nil78 nil78
  replace hB := hB.gr g nil78 nil78
  replace hC := hC.gr g nil78 nil78
  replace hE := hE.gr g
  replace hb := hb.gr g
  replace G := G.trans g (fun _ q => q) (fun _ q => q)
  refine ab_sta (ls' := [_, _, _, _, _, _, _, _, _, _, _, _, _, _]) dX10_lyingOn_83 (by decide) rfl ?_
  refine ab_aload dX10_lyingOn_85 rfl ?_
  refine ab_getR dX10_lyingOn_87 fl_X10_39 hC.2.2.1 rfl ?_
  refine ab_aload dX10_lyingOn_90 rfl ?_
  refine ab_getR dX10_lyingOn_92 fl_X10_39 hA.2.2.1 rfl ?_
  refine ab_callVr [_] dX10_lyingOn_95 ml_X10_42 mk_X2_minus hC.2.2.2.1.2.2.1 (c_dif (k := 3) (b := 1) (Nat.le_refl _) (Nat.le_refl _) hb pC.1 pA.1 hC.2.2.2.1 hA.2.2.2.1) (fun u hh hq => ?_)
  obtain ⟨g, hu1⟩ := hq
  replace hA := hA.gr g nil78 nil78
  replace hB := hB.gr g nil78 nil78
  replace hC := hC.gr g nil78 nil78
  replace hE := hE.gr g
  replace hb := hb.gr g
  replace G := G.trans g (fun _ q => q) (fun _ q => q)
  replace hv1 := hv1.gr g nil78
  refine ab_aload dX10_lyingOn_98 rfl ?_
  refine ab_getR dX10_lyingOn_100 fl_X10_48 hB.2.2.1 rfl ?_
  refine ab_aload dX10_lyingOn_103 rfl ?_
  refine ab_getR dX10_lyingOn_105 fl_X10_48 hA.2.2.1 rfl ?_
  refine ab_callVr [_] dX10_lyingOn_108 ml_X10_42 mk_X2_minus hB.2.2.2.2.2.2.1 (c_dif (k := 3) (b := 1) (Nat.le_refl _) (Nat.le_refl _) hb qqB.2 pA.2 hB.2.2.2.2 hA.2.2.2.2) (fun u hh hq => ?_)
  obtain ⟨g, hu2⟩ := hq
  replace hA := hA.gr g nil78 nil78
  replace hB := hB.gr g nil78 nil78
  replace hC := hC.gr g nil78 nil78
  replace hE := hE.gr g
  replace hb := hb.gr g
  replace G := G.trans g (fun _ q => q) (fun _ q => q)
  replace hv1 := hv1.gr g nil78
  replace hu1 := hu1.gr g nil78
  refine ab_callVr [_] dX10_lyingOn_111 ml_X10_51 mk_X2_times hu1.2.2.1 (c_pro (k := 3) (b := 1) (Nat.le_refl _) (Nat.le_refl _) hb (dB pC.1 pA.1) (dB qqB.2 pA.2) hu1 hu2) (fun u hh hq => ?_)
  obtain ⟨g, hv2⟩ := hq
  replace hA := hA.gr g nil78 nil78
  replace hB := hB.gr g nil78 nil78
  replace hC := hC.gr g nil78 nil78
  replace hE := hE.gr g
  replace hb := hb.gr g
  replace G := G.trans g (fun _ q => q) (fun _ q => q)
  replace hv1 := hv1.gr g nil78
  refine ab_sta (ls' := [_, _, _, _, _, _, _, _, _, _, _, _, _, _]) dX10_lyingOn_114 (by decide) rfl ?_
  refine ab_aload dX10_lyingOn_116 rfl ?_
  refine ab_aload dX10_lyingOn_118 rfl ?_
  refine ab_callVr [_] dX10_lyingOn_120 ml_X10_42 mk_X2_minus hv1.2.2.1 (c_dif2 (k := 3) (b := 1) (Nat.le_refl _) (Nat.le_refl _) hb (pB (dB qqB.1 pA.1) (dB pC.2 pA.2)) (pB (dB pC.1 pA.1) (dB qqB.2 pA.2)) hv1 hv2) (fun u hh hq => ?_)
  obtain ⟨g, hw⟩ := hq
  replace hA := hA.gr g nil78 nil78
  replace hB := hB.gr g nil78 nil78
  replace hC := hC.gr g nil78 nil78
  replace hE := hE.gr g
  replace hb := hb.gr g
  replace G := G.trans g (fun _ q => q) (fun _ q => q)
  replace hw : fr_at _ _ (fR (aT A B C)) := hw
  refine ab_sta (ls' := [_, _, _, _, _, _, _, _, _, _, _, _, _, _]) dX10_lyingOn_123 (by decide) rfl ?_
  refine ab_aload dX10_lyingOn_125 rfl ?_
  refine ab_getL dX10_lyingOn_127 fl_X10_54 hw.2.2.1 hw.2.2.2.1 ?_
  refine ab_mabs dX10_lyingOn_130 ml_X10_58 ?_
  refine ab_topL (zI_abs (hT.R.k1 (by decide))) ?_
  refine ab_gets (j := 3) dX10_lyingOn_133 fl_X10_64 ?_
  refine ab_iload_n dX10_lyingOn_136 rfl ?_
  refine ab_eald dX10_lyingOn_137 rfl (by rw [hE.2.1]; exact hk6) (hE.2.2.2.2.1 kd hk6) ?_
  refine ab_i2l dX10_lyingOn_138 ?_
  refine ab_topL (zI_i2l (by have := tm_le kd; omega)) ?_
  refine ab_lmul dX10_lyingOn_139 ?_
  refine ab_topL (zI_mulN _ _) ?_
  refine ab_aload dX10_lyingOn_140 rfl ?_
  refine ab_getL dX10_lyingOn_142 fl_X10_68 hw.2.2.1 hw.2.2.2.2 ?_
  refine ab_ldc2 dX10_lyingOn_145 kc_X10_71 ?_
  refine ab_topL (show (2 : Int64) = zI ((2 : Nat) : Int) by decide) ?_
  refine ab_lmul dX10_lyingOn_148 ?_
  refine ab_topL (zI_mulN _ _) ?_
  refine ab_gets (j := 4) dX10_lyingOn_149 fl_X10_73 ?_
  refine ab_iload_n dX10_lyingOn_152 rfl ?_
  refine ab_eald dX10_lyingOn_153 rfl (by rw [hE.2.2.1]; exact hk6) (hE.2.2.2.2.2 kd hk6) ?_
  refine ab_i2l dX10_lyingOn_154 ?_
  refine ab_topL (zI_i2l (by have := dv_le kd; omega)) ?_
  refine ab_lmul dX10_lyingOn_155 ?_
  refine ab_topL ((zI_mulN _ _).trans (congrArg (fun z : Nat => zI (z : Int)) (Nat.mul_assoc _ _ _))) ?_
  refine ab_callSr [_, _] dX10_lyingOn_156 ml_X10_76 mk_X2_inLeastTerms (c_least (p := fA (tm kd) (2 * dv kd) (fR (aT A B C))) (k := 2) (b := 1) (Nat.le_refl _) (Nat.le_refl _) hb ((ar_B0 hT.R).k1 (by decide)) (ar_B0 hT.R).2.1 ((ar_B0 hT.R).k2 (by decide))) (fun u hh hq => ?_)
  rw [fR_fA hT.2.1] at hq
  obtain ⟨g, hx⟩ := hq
  replace hA := hA.gr g nil78 nil78
  replace hB := hB.gr g nil78 nil78
  replace hC := hC.gr g nil78 nil78
  replace hE := hE.gr g
  replace hb := hb.gr g
  replace G := G.trans g (fun _ q => q) (fun _ q => q)
  replace hx : fr_at _ _ (ar kd A B C) := hx
  refine ab_sta (ls' := [_, _, _, _, _, _, _, _, _, _, _, _, _, _]) dX10_lyingOn_159 (by decide) rfl ?_
  refine ab_newo (ci := 9) (b' := b - 9) (hb2 := (by have q : ab_N 9 ≤ 12 := (by decide); omega)) dX10_lyingOn_161 cl_X10_8 is_X10 it_X10 ?_
  refine ab_dup dX10_lyingOn_164 rfl ?_
  refine ab_iload_n dX10_lyingOn_165 rfl ?_
  refine ab_iload_n dX10_lyingOn_166 rfl ?_
  refine ab_iload_n dX10_lyingOn_167 rfl ?_
  refine ab_iload dX10_lyingOn_168 rfl ?_
  refine ab_iload dX10_lyingOn_170 rfl ?_
  refine ab_aload dX10_lyingOn_172 rfl ?_
  refine ab_callI [_, _, _, _, _, _] dX10_lyingOn_174 ml_X10_80 mk_X10_init (by omega) (c_trInit (k := 1) (b := 0) (Nat.le_refl _) (by omega) (ab_up_self _ _ _)) (fun _ hh hq => ?_)
  subst hq
  refine ab_retr dX10_lyingOn_177 ?_
  obtain ⟨g, ht⟩ := tr_at.new hb hx rfl
  exact ⟨G.trans g (fun _ q => q) (fun _ q => q), ht⟩
