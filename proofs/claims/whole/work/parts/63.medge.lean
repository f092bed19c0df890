/-! ===== the model's board: the border ===== -/
noncomputable def bd_bn (P : Prop) : Nat := @ite _ P (Classical.propDecidable _) 1 0
theorem bd_bn_yes {P : Prop} (h : P) : bd_bn P = 1 := by rw [bd_bn, if_pos h]
theorem bd_bn_no {P : Prop} (h : ¬ P) : bd_bn P = 0 := by rw [bd_bn, if_neg h]
theorem bd_bn_lt (P : Prop) : bd_bn P < 2 := by
  by_cases h : P
  · rw [bd_bn_yes h]; omega
  · rw [bd_bn_no h]; omega
theorem bd_bn_0 {P : Prop} (h : bd_bn P = 0) : ¬ P := fun q => by rw [bd_bn_yes q] at h; omega
theorem bd_bn_1 {P : Prop} (h : ¬ bd_bn P = 0) : P := Classical.byContradiction fun q => h (bd_bn_no q)
theorem bd_on_0 {n hx hy i : Nat} : ¬ bd_on n hx hy i 0 := fun ⟨t, a, _⟩ => absurd a (Nat.not_lt_zero t)
set_option maxRecDepth 100000 in
set_option maxHeartbeats 4000000 in
theorem lp_mEdgeIn {k b n hx hy i v : Nat} {h : ab_H} (hk : 1 ≤ k) (hM : at_M (ab_sh h) (ab_r h)) (hD : bd_Mo n hx hy h) (hi : i < bd_n n) (cont : ab_R k b mX12_edge 93 [some (.ref 50), some (.int (nI v)), some (.int (nI (2 ^ n - 1))), some (.int (nI i)), some (.int (nI (bd_bn (bd_on n hx hy i (2 ^ n))))), some (.int (nI (2 ^ n)))] [] h (ab_pn (fun v h' => h' = h ∧ v = bd_num (fun i => bd_on n hx hy i (2 ^ n)) (bd_n n)))) : ∀ (j t : Nat), t + j = 2 ^ n → ab_R k b mX12_edge 25 [some (.ref 50), some (.int (nI v)), some (.int (nI (2 ^ n - 1))), some (.int (nI i)), some (.int (nI (bd_bn (bd_on n hx hy i t)))), some (.int (nI t))] [] h (ab_pn (fun v h' => h' = h ∧ v = bd_num (fun i => bd_on n hx hy i (2 ^ n)) (bd_n n))) := by
  intro j
  induction j with
  | zero =>
    intro t ht
    have hb85 := bd_n_le n hD.n4
    have hpw := bd_pow4 hD.n4
    have hpo := bd_pos n
    obtain rfl : t = 2 ^ n := by omega
    refine ab_iload dX12_edge_25 rfl ?_
    refine ab_iload_n dX12_edge_27 rfl ?_
    refine ab_nicmp_gt 93 dX12_edge_28 (by decide) (by omega) (by omega) (fun c_28 => ?_) (fun c_28 => ?_)
    · skip
      exact cont
    · skip
      exact absurd (by omega) c_28
  | succ j ih =>
    intro t ht
    have hb85 := bd_n_le n hD.n4
    have hpw := bd_pow4 hD.n4
    have hpo := bd_pos n
    refine ab_iload dX12_edge_25 rfl ?_
    refine ab_iload_n dX12_edge_27 rfl ?_
    refine ab_nicmp_gt 93 dX12_edge_28 (by decide) (by omega) (by omega) (fun c_28 => ?_) (fun c_28 => ?_)
    · skip
      exact absurd c_28 (by omega)
    · skip
      refine ab_iload dX12_edge_31 rfl ?_
      refine ab_nif_ne 80 dX12_edge_33 (by decide) (by have := bd_bn_lt (bd_on n hx hy i t); omega) (fun c_33 => ?_) (fun c_33 => ?_)
      · skip
        refine ab_iconst (v := nI 1) dX12_edge_80 (by decide) ?_
        refine ab_goto 85 dX12_edge_81 (by decide) ?_
        refine ab_topI (y := nI (bd_bn (bd_on n hx hy i (t + 1)))) (by first | exact congrArg nI (bd_bn_yes (by first | exact bd_on_step (Or.inl (bd_bn_1 c_33)) | exact bd_on_step (Or.inr (Or.inl c_44)) | exact bd_on_step (Or.inr (Or.inr (Or.inl c_55))) | exact bd_on_step (Or.inr (Or.inr (Or.inr (Or.inl c_66)))) | exact bd_on_step (Or.inr (Or.inr (Or.inr (Or.inr c_77)))))).symm | exact congrArg nI (bd_bn_no (bd_on_not (bd_bn_0 c_33) (fun q => q.elim c_44 (fun q => q.elim c_55 (fun q => q.elim c_66 c_77))))).symm) ?_
        refine ab_sti (ls' := [_, _, _, _, _, _]) dX12_edge_85 (by decide) rfl ?_
        refine ab_nincR (ls' := [_, _, _, _, _, _]) dX12_edge_87 rfl rfl ?_
        refine ab_goto 25 dX12_edge_90 (by decide) ?_
        exact ih (t + 1) (by omega)
      · skip
        refine ab_aload_n dX12_edge_36 rfl ?_
        refine ab_iload dX12_edge_37 rfl ?_
        refine ab_iconst (v := nI 0) dX12_edge_39 (by decide) ?_
        refine ab_callVi [_, _] dX12_edge_40 ml_X12_144 mk_X12_cell hM.hs (m_cell (k := 0) (b := 0) hM hD (by omega) (by omega)) (fun x h1 hq => ?_)
        obtain ⟨hhe, rfl⟩ := hq
        rw [hhe]
        refine ab_iload_n dX12_edge_43 rfl ?_
        refine ab_icmp_eq 80 dX12_edge_44 (by decide) (fun c_44 => ?_) (fun c_44 => ?_)
        · skip
          refine ab_iconst (v := nI 1) dX12_edge_80 (by decide) ?_
          refine ab_goto 85 dX12_edge_81 (by decide) ?_
          refine ab_topI (y := nI (bd_bn (bd_on n hx hy i (t + 1)))) (by first | exact congrArg nI (bd_bn_yes (by first | exact bd_on_step (Or.inl (bd_bn_1 c_33)) | exact bd_on_step (Or.inr (Or.inl c_44)) | exact bd_on_step (Or.inr (Or.inr (Or.inl c_55))) | exact bd_on_step (Or.inr (Or.inr (Or.inr (Or.inl c_66)))) | exact bd_on_step (Or.inr (Or.inr (Or.inr (Or.inr c_77)))))).symm | exact congrArg nI (bd_bn_no (bd_on_not (bd_bn_0 c_33) (fun q => q.elim c_44 (fun q => q.elim c_55 (fun q => q.elim c_66 c_77))))).symm) ?_
          refine ab_sti (ls' := [_, _, _, _, _, _]) dX12_edge_85 (by decide) rfl ?_
          refine ab_nincR (ls' := [_, _, _, _, _, _]) dX12_edge_87 rfl rfl ?_
          refine ab_goto 25 dX12_edge_90 (by decide) ?_
          exact ih (t + 1) (by omega)
        · skip
          refine ab_aload_n dX12_edge_47 rfl ?_
          refine ab_iload dX12_edge_48 rfl ?_
          refine ab_iload_n dX12_edge_50 rfl ?_
          refine ab_callVi [_, _] dX12_edge_51 ml_X12_144 mk_X12_cell hM.hs (m_cell (k := 0) (b := 0) hM hD (by omega) (by omega)) (fun x h1 hq => ?_)
          obtain ⟨hhe, rfl⟩ := hq
          rw [hhe]
          refine ab_iload_n dX12_edge_54 rfl ?_
          refine ab_icmp_eq 80 dX12_edge_55 (by decide) (fun c_55 => ?_) (fun c_55 => ?_)
          · skip
            refine ab_iconst (v := nI 1) dX12_edge_80 (by decide) ?_
            refine ab_goto 85 dX12_edge_81 (by decide) ?_
            refine ab_topI (y := nI (bd_bn (bd_on n hx hy i (t + 1)))) (by first | exact congrArg nI (bd_bn_yes (by first | exact bd_on_step (Or.inl (bd_bn_1 c_33)) | exact bd_on_step (Or.inr (Or.inl c_44)) | exact bd_on_step (Or.inr (Or.inr (Or.inl c_55))) | exact bd_on_step (Or.inr (Or.inr (Or.inr (Or.inl c_66)))) | exact bd_on_step (Or.inr (Or.inr (Or.inr (Or.inr c_77)))))).symm | exact congrArg nI (bd_bn_no (bd_on_not (bd_bn_0 c_33) (fun q => q.elim c_44 (fun q => q.elim c_55 (fun q => q.elim c_66 c_77))))).symm) ?_
            refine ab_sti (ls' := [_, _, _, _, _, _]) dX12_edge_85 (by decide) rfl ?_
            refine ab_nincR (ls' := [_, _, _, _, _, _]) dX12_edge_87 rfl rfl ?_
            refine ab_goto 25 dX12_edge_90 (by decide) ?_
            exact ih (t + 1) (by omega)
          · skip
            refine ab_aload_n dX12_edge_58 rfl ?_
            refine ab_iconst (v := nI 0) dX12_edge_59 (by decide) ?_
            refine ab_iload dX12_edge_60 rfl ?_
            refine ab_callVi [_, _] dX12_edge_62 ml_X12_144 mk_X12_cell hM.hs (m_cell (k := 0) (b := 0) hM hD (by omega) (by omega)) (fun x h1 hq => ?_)
            obtain ⟨hhe, rfl⟩ := hq
            rw [hhe]
            refine ab_iload_n dX12_edge_65 rfl ?_
            refine ab_icmp_eq 80 dX12_edge_66 (by decide) (fun c_66 => ?_) (fun c_66 => ?_)
            · skip
              refine ab_iconst (v := nI 1) dX12_edge_80 (by decide) ?_
              refine ab_goto 85 dX12_edge_81 (by decide) ?_
              refine ab_topI (y := nI (bd_bn (bd_on n hx hy i (t + 1)))) (by first | exact congrArg nI (bd_bn_yes (by first | exact bd_on_step (Or.inl (bd_bn_1 c_33)) | exact bd_on_step (Or.inr (Or.inl c_44)) | exact bd_on_step (Or.inr (Or.inr (Or.inl c_55))) | exact bd_on_step (Or.inr (Or.inr (Or.inr (Or.inl c_66)))) | exact bd_on_step (Or.inr (Or.inr (Or.inr (Or.inr c_77)))))).symm | exact congrArg nI (bd_bn_no (bd_on_not (bd_bn_0 c_33) (fun q => q.elim c_44 (fun q => q.elim c_55 (fun q => q.elim c_66 c_77))))).symm) ?_
              refine ab_sti (ls' := [_, _, _, _, _, _]) dX12_edge_85 (by decide) rfl ?_
              refine ab_nincR (ls' := [_, _, _, _, _, _]) dX12_edge_87 rfl rfl ?_
              refine ab_goto 25 dX12_edge_90 (by decide) ?_
              exact ih (t + 1) (by omega)
            · skip
              refine ab_aload_n dX12_edge_69 rfl ?_
              refine ab_iload_n dX12_edge_70 rfl ?_
              refine ab_iload dX12_edge_71 rfl ?_
              refine ab_callVi [_, _] dX12_edge_73 ml_X12_144 mk_X12_cell hM.hs (m_cell (k := 0) (b := 0) hM hD (by omega) (by omega)) (fun x h1 hq => ?_)
              obtain ⟨hhe, rfl⟩ := hq
              rw [hhe]
              refine ab_iload_n dX12_edge_76 rfl ?_
              refine ab_icmp_ne 84 dX12_edge_77 (by decide) (fun c_77 => ?_) (fun c_77 => ?_)
              · skip
                refine ab_iconst (v := nI 0) dX12_edge_84 (by decide) ?_
                refine ab_topI (y := nI (bd_bn (bd_on n hx hy i (t + 1)))) (by first | exact congrArg nI (bd_bn_yes (by first | exact bd_on_step (Or.inl (bd_bn_1 c_33)) | exact bd_on_step (Or.inr (Or.inl c_44)) | exact bd_on_step (Or.inr (Or.inr (Or.inl c_55))) | exact bd_on_step (Or.inr (Or.inr (Or.inr (Or.inl c_66)))) | exact bd_on_step (Or.inr (Or.inr (Or.inr (Or.inr c_77)))))).symm | exact congrArg nI (bd_bn_no (bd_on_not (bd_bn_0 c_33) (fun q => q.elim c_44 (fun q => q.elim c_55 (fun q => q.elim c_66 c_77))))).symm) ?_
                refine ab_sti (ls' := [_, _, _, _, _, _]) dX12_edge_85 (by decide) rfl ?_
                refine ab_nincR (ls' := [_, _, _, _, _, _]) dX12_edge_87 rfl rfl ?_
                refine ab_goto 25 dX12_edge_90 (by decide) ?_
                exact ih (t + 1) (by omega)
              · skip
                refine ab_iconst (v := nI 1) dX12_edge_80 (by decide) ?_
                refine ab_goto 85 dX12_edge_81 (by decide) ?_
                refine ab_topI (y := nI (bd_bn (bd_on n hx hy i (t + 1)))) (by first | exact congrArg nI (bd_bn_yes (by first | exact bd_on_step (Or.inl (bd_bn_1 c_33)) | exact bd_on_step (Or.inr (Or.inl c_44)) | exact bd_on_step (Or.inr (Or.inr (Or.inl c_55))) | exact bd_on_step (Or.inr (Or.inr (Or.inr (Or.inl c_66)))) | exact bd_on_step (Or.inr (Or.inr (Or.inr (Or.inr c_77)))))).symm | exact congrArg nI (bd_bn_no (bd_on_not (bd_bn_0 c_33) (fun q => q.elim c_44 (fun q => q.elim c_55 (fun q => q.elim c_66 c_77))))).symm) ?_
                refine ab_sti (ls' := [_, _, _, _, _, _]) dX12_edge_85 (by decide) rfl ?_
                refine ab_nincR (ls' := [_, _, _, _, _, _]) dX12_edge_87 rfl rfl ?_
                refine ab_goto 25 dX12_edge_90 (by decide) ?_
                exact ih (t + 1) (by omega)
set_option maxRecDepth 100000 in
set_option maxHeartbeats 4000000 in
theorem lp_mEdge {k b n hx hy : Nat} {h : ab_H} (hk : 1 ≤ k) (hM : at_M (ab_sh h) (ab_r h)) (hD : bd_Mo n hx hy h) : ∀ (j i : Nat) (a4 a5 : Option Value), i + j = bd_n n → ab_R k b mX12_edge 11 [some (.ref 50), some (.int (nI (bd_num (fun i => bd_on n hx hy i (2 ^ n)) i))), some (.int (nI (2 ^ n - 1))), some (.int (nI i)), a4, a5] [] h (ab_pn (fun v h' => h' = h ∧ v = bd_num (fun i => bd_on n hx hy i (2 ^ n)) (bd_n n))) := by
  intro j
  induction j with
  | zero =>
    intro i a4 a5 hi
    have hb85 := bd_n_le n hD.n4
    have hpw := bd_pow4 hD.n4
    have hpo := bd_pos n
    obtain rfl : i = bd_n n := by omega
    refine ab_iload_n dX12_edge_11 rfl ?_
    refine ab_aload_n dX12_edge_12 rfl ?_
    refine ab_getI dX12_edge_13 fl_X12_133 hM.hs hD.f4 ?_
    refine ab_nicmp_ge 112 dX12_edge_16 (by decide) (by omega) (by omega) (fun c_16 => ?_) (fun c_16 => ?_)
    · skip
      refine ab_iload_n dX12_edge_112 rfl ?_
      refine ab_retn dX12_edge_113 ?_
      exact ⟨rfl, rfl⟩
    · skip
      exact absurd (Nat.le_refl _) c_16
  | succ j ih =>
    intro i a4 a5 hi
    have hb85 := bd_n_le n hD.n4
    have hpw := bd_pow4 hD.n4
    have hpo := bd_pos n
    refine ab_iload_n dX12_edge_11 rfl ?_
    refine ab_aload_n dX12_edge_12 rfl ?_
    refine ab_getI dX12_edge_13 fl_X12_133 hM.hs hD.f4 ?_
    refine ab_nicmp_ge 112 dX12_edge_16 (by decide) (by omega) (by omega) (fun c_16 => ?_) (fun c_16 => ?_)
    · skip
      exact absurd c_16 (by omega)
    · skip
      refine ab_iconst (v := nI 0) dX12_edge_19 (by decide) ?_
      refine ab_sti (ls' := [_, _, _, _, _, _]) dX12_edge_20 (by decide) rfl ?_
      refine ab_iconst (v := nI 0) dX12_edge_22 (by decide) ?_
      refine ab_sti (ls' := [_, _, _, _, _, _]) dX12_edge_23 (by decide) rfl ?_
      refine ab_weak (lp_mEdgeIn (v := bd_num (fun i => bd_on n hx hy i (2 ^ n)) i) hk hM hD (by omega) ?_ (2 ^ n) 0 (by omega)) ⟨rfl, rfl, rfl, rfl, congrArg (fun z => some (Value.int (nI z))) (bd_bn_no bd_on_0).symm, rfl, trivial⟩
      refine ab_iload_n dX12_edge_93 rfl ?_
      refine ab_iload dX12_edge_94 rfl ?_
      refine ab_nif_eq 103 dX12_edge_96 (by decide) (by have := bd_bn_lt (bd_on n hx hy i (2 ^ n)); omega) (fun c_96 => ?_) (fun c_96 => ?_)
      · skip
        refine ab_iconst (v := nI 0) dX12_edge_103 (by decide) ?_
        refine ab_naddR dX12_edge_104 ?_
        refine ab_topI (y := nI (bd_num (fun i => bd_on n hx hy i (2 ^ n)) (i + 1))) (by first | exact congrArg nI (bd_num_no (P := (fun i => bd_on n hx hy i (2 ^ n))) (bd_bn_0 c_96)).symm | exact congrArg nI (bd_num_yes (P := (fun i => bd_on n hx hy i (2 ^ n))) (bd_bn_1 c_96)).symm) ?_
        refine ab_sti_n (ls' := [_, _, _, _, _, _]) dX12_edge_105 (by decide) rfl ?_
        refine ab_nincR (ls' := [_, _, _, _, _, _]) dX12_edge_106 rfl rfl ?_
        refine ab_goto 11 dX12_edge_109 (by decide) ?_
        exact ih (i + 1) _ _ (by omega)
      · skip
        refine ab_iconst (v := nI 1) dX12_edge_99 (by decide) ?_
        refine ab_goto 104 dX12_edge_100 (by decide) ?_
        refine ab_naddR dX12_edge_104 ?_
        refine ab_topI (y := nI (bd_num (fun i => bd_on n hx hy i (2 ^ n)) (i + 1))) (by first | exact congrArg nI (bd_num_no (P := (fun i => bd_on n hx hy i (2 ^ n))) (bd_bn_0 c_96)).symm | exact congrArg nI (bd_num_yes (P := (fun i => bd_on n hx hy i (2 ^ n))) (bd_bn_1 c_96)).symm) ?_
        refine ab_sti_n (ls' := [_, _, _, _, _, _]) dX12_edge_105 (by decide) rfl ?_
        refine ab_nincR (ls' := [_, _, _, _, _, _]) dX12_edge_106 rfl rfl ?_
        refine ab_goto 11 dX12_edge_109 (by decide) ?_
        exact ih (i + 1) _ _ (by omega)
set_option maxRecDepth 100000 in
set_option maxHeartbeats 4000000 in
theorem m_edge {k b n hx hy : Nat} {h : ab_H} (hk : 1 ≤ k) (hM : at_M (ab_sh h) (ab_r h)) (hD : bd_Mo n hx hy h) : ab_M k b mX12_edge [.ref 50] h (ab_pn (fun v h' => h' = h ∧ v = bd_n n - bd_num (bd_inside n hx hy) (bd_n n))) := by
  refine ab_enter ?_
  refine ab_iconst (v := nI 0) dX12_edge_0 (by decide) ?_
  refine ab_sti_n (ls' := [_, _, _, _, _, _]) dX12_edge_1 (by decide) rfl ?_
  refine ab_aload_n dX12_edge_2 rfl ?_
  refine ab_callVn [] dX12_edge_3 ml_X12_119 mk_X12_side hM.hs (m_side (k := 0) (b := 0) hM hD.f1 hD.n4) (fun x h1 hq => ?_)
  obtain ⟨hhe, rfl⟩ := hq
  rw [hhe]
  refine ab_iconst (v := nI 1) dX12_edge_6 (by decide) ?_
  refine ab_nsubR dX12_edge_7 (bd_pos n) ?_
  refine ab_sti_n (ls' := [_, _, _, _, _, _]) dX12_edge_8 (by decide) rfl ?_
  refine ab_iconst (v := nI 0) dX12_edge_9 (by decide) ?_
  refine ab_sti_n (ls' := [_, _, _, _, _, _]) dX12_edge_10 (by decide) rfl ?_
  refine ab_mono ?_ (lp_mEdge hk hM hD (bd_n n) 0 none none (by omega))
  rintro v h3 ⟨x3, hx3, e3, f3⟩
  exact ⟨x3, hx3, e3, f3.trans (bd_edge hD.n4 hD.hx hD.hy)⟩
