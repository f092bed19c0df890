/-! ===== the class's Board: touching ===== -/
theorem bd_b_0 {P : Prop} : bd_b P = 0 ↔ ¬ P := by
  by_cases h : P
  · rw [bd_b_yes h]; exact ⟨fun q => absurd q (by decide), fun q => absurd h q⟩
  · rw [bd_b_no h]; exact ⟨fun _ => h, fun _ => rfl⟩
theorem bd_T_0 {r : Nat} {h : ab_H} (H : ∀ t, t < 85 → ab_i h (r + 6) t = nI 0) (S : Nat → Prop) (hS : ∀ j, ¬ S j) : bd_T r S h := fun j hj => by rw [H j hj, bd_b_no (hS j)]
def bd_Sq (n hx hy i q j : Nat) : Prop := j < bd_n n ∧ ∃ z, z < q ∧ z ≠ (bd_P n hx hy i).1 ∧ bd_nb n hx hy ((bd_P n hx hy i).2.2.1 + z % 2) ((bd_P n hx hy i).2.2.2 + z / 2) j
theorem bd_Sq_skip {n hx hy i q j : Nat} (h : q = (bd_P n hx hy i).1) : bd_Sq n hx hy i q j ↔ bd_Sq n hx hy i (q + 1) j := ⟨fun ⟨a, z, b, c⟩ => ⟨a, z, by omega, c⟩, fun ⟨a, z, b, c, d⟩ => ⟨a, z, by omega, c, d⟩⟩
theorem bd_Sq_step {n hx hy i q j : Nat} (h : ¬ q = (bd_P n hx hy i).1) : (bd_Sq n hx hy i q j ∨ j < bd_n n ∧ bd_nb n hx hy ((bd_P n hx hy i).2.2.1 + q % 2) ((bd_P n hx hy i).2.2.2 + q / 2) j) ↔ bd_Sq n hx hy i (q + 1) j := by
  constructor
  · rintro (⟨a, z, b, c⟩ | ⟨a, b⟩)
    · exact ⟨a, z, by omega, c⟩
    · exact ⟨a, q, by omega, h, b⟩
  · rintro ⟨a, z, b, c, d⟩
    by_cases e : z = q
    · subst e; exact Or.inr ⟨a, d⟩
    · exact Or.inl ⟨a, z, by omega, c, d⟩
set_option maxRecDepth 100000 in
set_option maxHeartbeats 4000000 in
theorem lp_touchMark {k b r n hx hy i : Nat} {h : ab_H} {post : Value → ab_H → Prop} (hk : 5 ≤ k) (hB : at_Board (ab_sh h) (ab_r h) r) (hD : bd_C n hx hy r h) (hi : i < bd_n n) (cont : ∀ h1, ab_fr [r + 6] h h1 → bd_T r (bd_Sq n hx hy i 4) h1 → ab_R k b mX0_touching 71 [some (.ref r), some (.int (nI i)), some (.int (nI 4)), none] [] h1 post) : ∀ (j q : Nat) (h1 : ab_H), q + j = 4 → ab_fr [r + 6] h h1 → bd_T r (bd_Sq n hx hy i q) h1 → ab_R k b mX0_touching 26 [some (.ref r), some (.int (nI i)), some (.int (nI q)), none] [] h1 post := by
  intro j
  induction j with
  | zero =>
    intro q h1 hq f hT
    have hb85 := bd_n_le n hD.n4
    have hpw := bd_pow4 hD.n4
    have hpo := bd_pos n
    have hB1 := at_Board.fr f hB
    have hD1 := hD.fr f (by simp; omega)
    obtain rfl : q = 4 := by omega
    refine ab_iload_n dX0_touching_26 rfl ?_
    refine ab_iconst (v := nI 4) dX0_touching_27 (by decide) ?_
    refine ab_nicmp_ge 71 dX0_touching_28 (by decide) (by omega) (by omega) (fun c_28 => ?_) (fun c_28 => ?_)
    · skip
      exact cont h1 f hT
    · skip
      exact absurd (by omega) c_28
  | succ j ih =>
    intro q h1 hq f hT
    have hb85 := bd_n_le n hD.n4
    have hpw := bd_pow4 hD.n4
    have hpo := bd_pos n
    have hB1 := at_Board.fr f hB
    have hD1 := hD.fr f (by simp; omega)
    have hP := bd_P_in (hx := hx) (hy := hy) hi
    refine ab_iload_n dX0_touching_26 rfl ?_
    refine ab_iconst (v := nI 4) dX0_touching_27 (by decide) ?_
    refine ab_nicmp_ge 71 dX0_touching_28 (by decide) (by omega) (by omega) (fun c_28 => ?_) (fun c_28 => ?_)
    · skip
      exact absurd c_28 (by omega)
    · skip
      refine ab_iload_n dX0_touching_31 rfl ?_
      refine ab_aload_n dX0_touching_32 rfl ?_
      refine ab_getR dX0_touching_33 fl_X0_15 hB1.1 hB1.2.2.2.1 ?_
      refine ab_iload_n dX0_touching_36 rfl ?_
      refine ab_iald dX0_touching_37 hB1.2.2.2.2.1 rfl (by omega) (hD1.way hi) ?_
      refine ab_nicmp_eq 65 dX0_touching_38 (by decide) (by omega) (by omega) (fun c_38 => ?_) (fun c_38 => ?_)
      · have c_h := c_38
        refine ab_nincR (ls' := [_, _, _, _]) dX0_touching_65 rfl rfl ?_
        refine ab_goto 26 dX0_touching_68 (by decide) ?_
        first | exact ih (q + 1) _ (by omega) (f.trans q2.1 (fun _ q => q)) (bd_T_congr q2.2 (fun j _ => bd_Sq_step c_38)) | exact ih (q + 1) _ (by omega) f (bd_T_congr hT (fun j _ => bd_Sq_skip c_38))
      · skip
        refine ab_aload_n dX0_touching_41 rfl ?_
        refine ab_aload_n dX0_touching_42 rfl ?_
        refine ab_getR dX0_touching_43 fl_X0_21 hB1.1 hB1.2.2.2.2.2.2.2.1 ?_
        refine ab_iload_n dX0_touching_46 rfl ?_
        refine ab_iald dX0_touching_47 hB1.2.2.2.2.2.2.2.2.1 rfl (by omega) (hD1.left hi) ?_
        refine ab_iload_n dX0_touching_48 rfl ?_
        refine ab_iconst (v := nI 1) dX0_touching_49 (by decide) ?_
        refine ab_nandR dX0_touching_50 ?_
        rw [ab_and1]
        refine ab_naddR dX0_touching_51 ?_
        refine ab_aload_n dX0_touching_52 rfl ?_
        refine ab_getR dX0_touching_53 fl_X0_24 hB1.1 hB1.2.2.2.2.2.2.2.2.2.1 ?_
        refine ab_iload_n dX0_touching_56 rfl ?_
        refine ab_iald dX0_touching_57 hB1.2.2.2.2.2.2.2.2.2.2.1 rfl (by omega) (hD1.top hi) ?_
        refine ab_iload_n dX0_touching_58 rfl ?_
        refine ab_iconst (v := nI 1) dX0_touching_59 (by decide) ?_
        refine ab_nshrR dX0_touching_60 (by omega) (by decide) ?_
        rw [ab_shr1]
        refine ab_naddR dX0_touching_61 ?_
        refine ab_callVv [_, _] dX0_touching_62 ml_X0_63 mk_X0_touchAround hB1.1 (c_touchAround (k := 4) (b := 0) (Nat.le_refl _) hB1 hD1 hT) (fun h2 q2 => ?_)
        have hB2 := at_Board.fr q2.1 hB1
        refine ab_nincR (ls' := [_, _, _, _]) dX0_touching_65 rfl rfl ?_
        refine ab_goto 26 dX0_touching_68 (by decide) ?_
        first | exact ih (q + 1) _ (by omega) (f.trans q2.1 (fun _ q => q)) (bd_T_congr q2.2 (fun j _ => bd_Sq_step c_38)) | exact ih (q + 1) _ (by omega) f (bd_T_congr hT (fun j _ => bd_Sq_skip c_38))
set_option maxRecDepth 100000 in
set_option maxHeartbeats 4000000 in
theorem lp_touchClear {k b r i : Nat} {h : ab_H} {post : Value → ab_H → Prop} (hB : at_Board (ab_sh h) (ab_r h) r) (cont : ∀ h1, ab_fr [r + 6] h h1 → (∀ t, t < 85 → ab_i h1 (r + 6) t = nI 0) → ab_R k b mX0_touching 24 [some (.ref r), some (.int (nI i)), some (.int (nI 85)), none] [] h1 post) : ∀ (j t : Nat) (h1 : ab_H), t + j = 85 → ab_fr [r + 6] h h1 → (∀ u, u < t → ab_i h1 (r + 6) u = nI 0) → ab_R k b mX0_touching 2 [some (.ref r), some (.int (nI i)), some (.int (nI t)), none] [] h1 post := by
  intro j
  induction j with
  | zero =>
    intro t h1 ht f hl
    obtain rfl : t = 85 := by omega
    have hB1 := at_Board.fr f hB
    refine ab_iload_n dX0_touching_2 rfl ?_
    refine ab_aload_n dX0_touching_3 rfl ?_
    refine ab_getR dX0_touching_4 fl_X0_27 hB1.1 hB1.2.2.2.2.2.2.2.2.2.2.2.1 ?_
    refine ab_alen (t := 2) dX0_touching_7 hB1.2.2.2.2.2.2.2.2.2.2.2.2 rfl ?_
    refine ab_nicmp_ge 24 dX0_touching_8 (by decide) (by omega) (by omega) (fun c_8 => ?_) (fun c_8 => ?_)
    · skip
      exact cont h1 f hl
    · skip
      exact absurd (by decide) c_8
  | succ j ih =>
    intro t h1 ht f hl
    have hB1 := at_Board.fr f hB
    refine ab_iload_n dX0_touching_2 rfl ?_
    refine ab_aload_n dX0_touching_3 rfl ?_
    refine ab_getR dX0_touching_4 fl_X0_27 hB1.1 hB1.2.2.2.2.2.2.2.2.2.2.2.1 ?_
    refine ab_alen (t := 2) dX0_touching_7 hB1.2.2.2.2.2.2.2.2.2.2.2.2 rfl ?_
    refine ab_nicmp_ge 24 dX0_touching_8 (by decide) (by omega) (by omega) (fun c_8 => ?_) (fun c_8 => ?_)
    · skip
      exact absurd c_8 (by omega)
    · skip
      refine ab_aload_n dX0_touching_11 rfl ?_
      refine ab_getR dX0_touching_12 fl_X0_27 hB1.1 hB1.2.2.2.2.2.2.2.2.2.2.2.1 ?_
      refine ab_iload_n dX0_touching_15 rfl ?_
      refine ab_iconst (v := nI 0) dX0_touching_16 (by decide) ?_
      refine ab_zast dX0_touching_17 hB1.2.2.2.2.2.2.2.2.2.2.2.2 rfl (by omega) ?_
      refine ab_nincR (ls' := [_, _, _, _]) dX0_touching_18 rfl rfl ?_
      refine ab_goto 2 dX0_touching_21 (by decide) ?_
      exact ih (t + 1) _ (by omega) (f.si _ _ _ (by simp)) (ab_si_next (P := fun _ => nI 0) hl rfl)
set_option maxRecDepth 100000 in
set_option maxHeartbeats 4000000 in
theorem lp_touchCount2 {k b r n hx hy i : Nat} {h h1 : ab_H} (hB : at_Board (ab_sh h) (ab_r h) r) (hD : bd_C n hx hy r h) (f : ab_fr [r + 6] h h1) (hT : bd_T r (fun j => j ≠ i ∧ bd_Sq n hx hy i 4 j) h1) (hi : i < bd_n n) : ∀ (j t : Nat), t + j = bd_n n → ab_R k b mX0_touching 82 [some (.ref r), some (.int (nI i)), some (.int (nI (bd_num (fun j => j ≠ i ∧ bd_Sq n hx hy i 4 j) t))), some (.int (nI t))] [] h1 (ab_pn (fun v h' => ab_fr [r + 6] h h' ∧ v = bd_num (fun j => j ≠ i ∧ bd_adj n hx hy i j) (bd_n n))) := by
  intro j
  induction j with
  | zero =>
    intro t ht
    have hb85 := bd_n_le n hD.n4
    have hpw := bd_pow4 hD.n4
    have hpo := bd_pos n
    have hB1 := at_Board.fr f hB
    have hD1 := hD.fr f (by simp; omega)
    obtain rfl : t = bd_n n := by omega
    refine ab_iload_n dX0_touching_82 rfl ?_
    refine ab_aload_n dX0_touching_83 rfl ?_
    refine ab_getI dX0_touching_84 fl_X0_44 hB1.1 hD1.f3 ?_
    refine ab_nicmp_ge 113 dX0_touching_87 (by decide) (by omega) (by omega) (fun c_87 => ?_) (fun c_87 => ?_)
    · skip
      refine ab_iload_n dX0_touching_113 rfl ?_
      refine ab_retn dX0_touching_114 ?_
      refine ⟨f, bd_num_congr (fun j hj => and_congr_right (fun _ => ?_))⟩
      rw [← bd_nb_adj hD.n4 hD.hx hD.hy hi hj]
      exact ⟨fun q => q.2, fun q => ⟨hj, q⟩⟩
    · skip
      exact absurd (Nat.le_refl _) c_87
  | succ j ih =>
    intro t ht
    have hb85 := bd_n_le n hD.n4
    have hpw := bd_pow4 hD.n4
    have hpo := bd_pos n
    have hB1 := at_Board.fr f hB
    have hD1 := hD.fr f (by simp; omega)
    refine ab_iload_n dX0_touching_82 rfl ?_
    refine ab_aload_n dX0_touching_83 rfl ?_
    refine ab_getI dX0_touching_84 fl_X0_44 hB1.1 hD1.f3 ?_
    refine ab_nicmp_ge 113 dX0_touching_87 (by decide) (by omega) (by omega) (fun c_87 => ?_) (fun c_87 => ?_)
    · skip
      exact absurd c_87 (by omega)
    · skip
      refine ab_iload_n dX0_touching_90 rfl ?_
      refine ab_aload_n dX0_touching_91 rfl ?_
      refine ab_getR dX0_touching_92 fl_X0_27 hB1.1 hB1.2.2.2.2.2.2.2.2.2.2.2.1 ?_
      refine ab_iload_n dX0_touching_95 rfl ?_
      refine ab_bald dX0_touching_96 hB1.2.2.2.2.2.2.2.2.2.2.2.2 rfl (by omega) (hT t (by omega)) ?_
      refine ab_if_eq 104 dX0_touching_97 (by decide) (fun c_97 => ?_) (fun c_97 => ?_)
      · skip
        refine ab_iconst (v := nI 0) dX0_touching_104 (by decide) ?_
        refine ab_naddR dX0_touching_105 ?_
        refine ab_topI (y := nI (bd_num (fun j => j ≠ i ∧ bd_Sq n hx hy i 4 j) (t + 1))) (by first | exact congrArg nI (bd_num_yes (P := (fun j => j ≠ i ∧ bd_Sq n hx hy i 4 j)) (Classical.not_not.mp (mt bd_b_0.mpr c_97))).symm | exact congrArg nI (bd_num_no (P := (fun j => j ≠ i ∧ bd_Sq n hx hy i 4 j)) (bd_b_0.mp c_97)).symm) ?_
        refine ab_sti_n (ls' := [_, _, _, _]) dX0_touching_106 (by decide) rfl ?_
        refine ab_nincR (ls' := [_, _, _, _]) dX0_touching_107 rfl rfl ?_
        refine ab_goto 82 dX0_touching_110 (by decide) ?_
        exact ih (t + 1) (by omega)
      · skip
        refine ab_iconst (v := nI 1) dX0_touching_100 (by decide) ?_
        refine ab_goto 105 dX0_touching_101 (by decide) ?_
        refine ab_naddR dX0_touching_105 ?_
        refine ab_topI (y := nI (bd_num (fun j => j ≠ i ∧ bd_Sq n hx hy i 4 j) (t + 1))) (by first | exact congrArg nI (bd_num_yes (P := (fun j => j ≠ i ∧ bd_Sq n hx hy i 4 j)) (Classical.not_not.mp (mt bd_b_0.mpr c_97))).symm | exact congrArg nI (bd_num_no (P := (fun j => j ≠ i ∧ bd_Sq n hx hy i 4 j)) (bd_b_0.mp c_97)).symm) ?_
        refine ab_sti_n (ls' := [_, _, _, _]) dX0_touching_106 (by decide) rfl ?_
        refine ab_nincR (ls' := [_, _, _, _]) dX0_touching_107 rfl rfl ?_
        refine ab_goto 82 dX0_touching_110 (by decide) ?_
        exact ih (t + 1) (by omega)
set_option maxRecDepth 100000 in
set_option maxHeartbeats 4000000 in
theorem c_touching {k b r n hx hy i : Nat} {h : ab_H} (hk : 5 ≤ k) (hB : at_Board (ab_sh h) (ab_r h) r) (hD : bd_C n hx hy r h) (hi : i < bd_n n) : ab_M k b mX0_touching [.ref r, .int (nI i)] h (ab_pn (fun v h' => ab_fr [r + 6] h h' ∧ v = bd_num (fun j => j ≠ i ∧ bd_adj n hx hy i j) (bd_n n))) := by
  have hb85 := bd_n_le n hD.n4
  have hpw := bd_pow4 hD.n4
  have hpo := bd_pos n
  refine ab_enter ?_
  refine ab_iconst (v := nI 0) dX0_touching_0 (by decide) ?_
  refine ab_sti_n (ls' := [_, _, _, _]) dX0_touching_1 (by decide) rfl ?_
  refine lp_touchClear hB (fun h1 f hl => ?_) 85 0 h rfl (ab_fr.rf h) (fun t ht => absurd ht (Nat.not_lt_zero t))
  have hB1 := at_Board.fr f hB
  have hD1 := hD.fr f (by simp; omega)
  refine ab_iconst (v := nI 0) dX0_touching_24 (by decide) ?_
  refine ab_sti_n (ls' := [_, _, _, _]) dX0_touching_25 (by decide) rfl ?_
  refine lp_touchMark hk hB1 hD1 hi (fun h2 f2 hT => ?_) 4 0 h1 rfl (ab_fr.rf h1) (bd_T_0 hl _ (fun j q => by obtain ⟨_, z, hz, _⟩ := q; omega))
  have hB2 := at_Board.fr f2 hB1
  refine ab_aload_n dX0_touching_71 rfl ?_
  refine ab_getR dX0_touching_72 fl_X0_27 hB2.1 hB2.2.2.2.2.2.2.2.2.2.2.2.1 ?_
  refine ab_iload_n dX0_touching_75 rfl ?_
  refine ab_iconst (v := nI 0) dX0_touching_76 (by decide) ?_
  refine ab_zast dX0_touching_77 hB2.2.2.2.2.2.2.2.2.2.2.2.2 rfl (by omega) ?_
  refine ab_iconst (v := nI 0) dX0_touching_78 (by decide) ?_
  refine ab_sti_n (ls' := [_, _, _, _]) dX0_touching_79 (by decide) rfl ?_
  refine ab_iconst (v := nI 0) dX0_touching_80 (by decide) ?_
  refine ab_sti_n (ls' := [_, _, _, _]) dX0_touching_81 (by decide) rfl ?_
  refine ab_mono ?_ (lp_touchCount2 hB hD ((f.trans f2 (fun _ q => q)).si _ _ _ (by simp)) (bd_T_drop hT) hi (bd_n n) 0 (by omega))
  exact fun v h3 q => q
