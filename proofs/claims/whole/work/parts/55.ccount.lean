/-! ===== the class's Board: counting ===== -/
noncomputable def bd_num (P : Nat → Prop) : Nat → Nat
  | 0 => 0
  | i + 1 => bd_num P i + @ite _ (P i) (Classical.propDecidable _) 1 0
theorem bd_num_yes {P : Nat → Prop} {i : Nat} (h : P i) : bd_num P (i + 1) = bd_num P i + 1 := by rw [bd_num, if_pos h]
theorem bd_num_no {P : Nat → Prop} {i : Nat} (h : ¬ P i) : bd_num P (i + 1) = bd_num P i + 0 := by rw [bd_num, if_neg h]
theorem bd_num_le (P : Nat → Prop) : ∀ i, bd_num P i ≤ i
  | 0 => Nat.le_refl _
  | i + 1 => by
    have := bd_num_le P i
    by_cases h : P i
    · rw [bd_num_yes h]; omega
    · rw [bd_num_no h]; omega
theorem bd_num_congr {P Q : Nat → Prop} : ∀ {n : Nat}, (∀ i, i < n → (P i ↔ Q i)) → bd_num P n = bd_num Q n
  | 0, _ => rfl
  | n + 1, h => by
    have e := bd_num_congr (n := n) (fun i hi => h i (by omega))
    by_cases hp : P n
    · rw [bd_num_yes hp, bd_num_yes ((h n (by omega)).mp hp), e]
    · rw [bd_num_no hp, bd_num_no (fun q => hp ((h n (by omega)).mpr q)), e]
def bd_win (x1 x2 y1 y2 : Int) (P : Nat × Nat × Nat × Nat) : Prop := x1 ≤ P.2.2.1 ∧ (P.2.2.1 : Int) + 1 ≤ x2 ∧ y1 ≤ P.2.2.2 ∧ (P.2.2.2 : Int) + 1 ≤ y2
set_option maxRecDepth 100000 in
set_option maxHeartbeats 4000000 in
theorem lp_lyingIn {k b r n hx hy w : Nat} {h : ab_H} (hB : at_Board (ab_sh h) (ab_r h) r) (hD : bd_C n hx hy r h) (hw : w < 4) : ∀ (j i : Nat), i + j = bd_n n → ab_R k b mX0_lyingIn 4 [some (.ref r), some (.int (nI w)), some (.int (nI (bd_num (fun i => (bd_P n hx hy i).1 = w) i))), some (.int (nI i))] [] h (ab_pn (fun v h' => h' = h ∧ v = bd_num (fun i => (bd_P n hx hy i).1 = w) (bd_n n))) := by
  intro j
  induction j with
  | zero =>
    intro i hi
    have hb85 := bd_n_le n hD.n4
    have hpw := bd_pow4 hD.n4
    obtain rfl : i = bd_n n := by omega
    refine ab_iload_n dX0_lyingIn_4 rfl ?_
    refine ab_aload_n dX0_lyingIn_5 rfl ?_
    refine ab_getI dX0_lyingIn_6 fl_X0_44 hB.1 hD.f3 ?_
    refine ab_nicmp_ge 36 dX0_lyingIn_9 (by decide) (by omega) (by omega) (fun c_9 => ?_) (fun c_9 => ?_)
    · skip
      refine ab_iload_n dX0_lyingIn_36 rfl ?_
      refine ab_retn dX0_lyingIn_37 ?_
      exact ⟨rfl, rfl⟩
    · skip
      exact absurd (Nat.le_refl _) c_9
  | succ j ih =>
    intro i hi
    have hb85 := bd_n_le n hD.n4
    have hpw := bd_pow4 hD.n4
    have hP := bd_P_in (hx := hx) (hy := hy) (show i < bd_n n by omega)
    refine ab_iload_n dX0_lyingIn_4 rfl ?_
    refine ab_aload_n dX0_lyingIn_5 rfl ?_
    refine ab_getI dX0_lyingIn_6 fl_X0_44 hB.1 hD.f3 ?_
    refine ab_nicmp_ge 36 dX0_lyingIn_9 (by decide) (by omega) (by omega) (fun c_9 => ?_) (fun c_9 => ?_)
    · skip
      exact absurd c_9 (by omega)
    · skip
      refine ab_iload_n dX0_lyingIn_12 rfl ?_
      refine ab_aload_n dX0_lyingIn_13 rfl ?_
      refine ab_getR dX0_lyingIn_14 fl_X0_15 hB.1 hB.2.2.2.1 ?_
      refine ab_iload_n dX0_lyingIn_17 rfl ?_
      refine ab_iald dX0_lyingIn_18 hB.2.2.2.2.1 rfl (by omega) (hD.way (by omega)) ?_
      refine ab_iload_n dX0_lyingIn_19 rfl ?_
      refine ab_nicmp_ne 27 dX0_lyingIn_20 (by decide) (by omega) (by omega) (fun c_20 => ?_) (fun c_20 => ?_)
      · skip
        refine ab_iconst (v := nI 0) dX0_lyingIn_27 (by decide) ?_
        refine ab_naddR dX0_lyingIn_28 ?_
        refine ab_topI (y := nI (bd_num (fun i => (bd_P n hx hy i).1 = w) (i + 1))) (by first | exact congrArg nI (bd_num_yes (P := (fun i => (bd_P n hx hy i).1 = w)) c_20).symm | exact congrArg nI (bd_num_no (P := (fun i => (bd_P n hx hy i).1 = w)) c_20).symm) ?_
        refine ab_sti_n (ls' := [_, _, _, _]) dX0_lyingIn_29 (by decide) rfl ?_
        refine ab_nincR (ls' := [_, _, _, _]) dX0_lyingIn_30 rfl rfl ?_
        refine ab_goto 4 dX0_lyingIn_33 (by decide) ?_
        exact ih (i + 1) (by omega)
      · skip
        refine ab_iconst (v := nI 1) dX0_lyingIn_23 (by decide) ?_
        refine ab_goto 28 dX0_lyingIn_24 (by decide) ?_
        refine ab_naddR dX0_lyingIn_28 ?_
        refine ab_topI (y := nI (bd_num (fun i => (bd_P n hx hy i).1 = w) (i + 1))) (by first | exact congrArg nI (bd_num_yes (P := (fun i => (bd_P n hx hy i).1 = w)) c_20).symm | exact congrArg nI (bd_num_no (P := (fun i => (bd_P n hx hy i).1 = w)) c_20).symm) ?_
        refine ab_sti_n (ls' := [_, _, _, _]) dX0_lyingIn_29 (by decide) rfl ?_
        refine ab_nincR (ls' := [_, _, _, _]) dX0_lyingIn_30 rfl rfl ?_
        refine ab_goto 4 dX0_lyingIn_33 (by decide) ?_
        exact ih (i + 1) (by omega)
set_option maxRecDepth 100000 in
set_option maxHeartbeats 4000000 in
theorem c_lyingIn {k b r n hx hy w : Nat} {h : ab_H} (hB : at_Board (ab_sh h) (ab_r h) r) (hD : bd_C n hx hy r h) (hw : w < 4) : ab_M k b mX0_lyingIn [.ref r, .int (nI w)] h (ab_pn (fun v h' => h' = h ∧ v = bd_num (fun i => (bd_P n hx hy i).1 = w) (bd_n n))) := by
  refine ab_enter ?_
  refine ab_iconst (v := nI 0) dX0_lyingIn_0 (by decide) ?_
  refine ab_sti_n (ls' := [_, _, _, _]) dX0_lyingIn_1 (by decide) rfl ?_
  refine ab_iconst (v := nI 0) dX0_lyingIn_2 (by decide) ?_
  refine ab_sti_n (ls' := [_, _, _, _]) dX0_lyingIn_3 (by decide) rfl ?_
  exact lp_lyingIn hB hD hw (bd_n n) 0 (by omega)
set_option maxRecDepth 100000 in
set_option maxHeartbeats 4000000 in
theorem lp_inWindow {k b r n hx hy : Nat} {h : ab_H} {x1 x2 y1 y2 : Int32} (hB : at_Board (ab_sh h) (ab_r h) r) (hD : bd_C n hx hy r h) : ∀ (j i : Nat) (a7 a8 : Option Value), i + j = bd_n n → ab_R k b mX0_inWindow 6 [some (.ref r), some (.int x1), some (.int x2), some (.int y1), some (.int y2), some (.int (nI (bd_num (fun i => bd_win x1.toInt x2.toInt y1.toInt y2.toInt (bd_P n hx hy i)) i))), some (.int (nI i)), a7, a8] [] h (ab_pn (fun v h' => h' = h ∧ v = bd_num (fun i => bd_win x1.toInt x2.toInt y1.toInt y2.toInt (bd_P n hx hy i)) (bd_n n))) := by
  intro j
  induction j with
  | zero =>
    intro i a7 a8 hi
    have hb85 := bd_n_le n hD.n4
    have hpw := bd_pow4 hD.n4
    obtain rfl : i = bd_n n := by omega
    refine ab_iload dX0_inWindow_6 rfl ?_
    refine ab_aload_n dX0_inWindow_8 rfl ?_
    refine ab_getI dX0_inWindow_9 fl_X0_44 hB.1 hD.f3 ?_
    refine ab_nicmp_ge 104 dX0_inWindow_12 (by decide) (by omega) (by omega) (fun c_12 => ?_) (fun c_12 => ?_)
    · skip
      refine ab_iload dX0_inWindow_104 rfl ?_
      refine ab_retn dX0_inWindow_106 ?_
      exact ⟨rfl, rfl⟩
    · skip
      exact absurd (Nat.le_refl _) c_12
  | succ j ih =>
    intro i a7 a8 hi
    have hb85 := bd_n_le n hD.n4
    have hpw := bd_pow4 hD.n4
    have hP := bd_P_in (hx := hx) (hy := hy) (show i < bd_n n by omega)
    refine ab_iload dX0_inWindow_6 rfl ?_
    refine ab_aload_n dX0_inWindow_8 rfl ?_
    refine ab_getI dX0_inWindow_9 fl_X0_44 hB.1 hD.f3 ?_
    refine ab_nicmp_ge 104 dX0_inWindow_12 (by decide) (by omega) (by omega) (fun c_12 => ?_) (fun c_12 => ?_)
    · skip
      exact absurd c_12 (by omega)
    · skip
      refine ab_aload_n dX0_inWindow_15 rfl ?_
      refine ab_getR dX0_inWindow_16 fl_X0_21 hB.1 hB.2.2.2.2.2.2.2.1 ?_
      refine ab_iload dX0_inWindow_19 rfl ?_
      refine ab_iald dX0_inWindow_21 hB.2.2.2.2.2.2.2.2.1 rfl (by omega) (hD.left (by omega)) ?_
      refine ab_iload_n dX0_inWindow_22 rfl ?_
      refine ab_icmp_lt 43 dX0_inWindow_23 (by decide) (fun c_23 => ?_) (fun c_23 => ?_)
      · replace c_23 := (ab_ltN (by omega)).mp c_23
        refine ab_iconst (v := nI 0) dX0_inWindow_43 (by decide) ?_
        refine ab_sti (ls' := [_, _, _, _, _, _, _, _, _]) dX0_inWindow_44 (by decide) rfl ?_
        refine ab_aload_n dX0_inWindow_46 rfl ?_
        refine ab_getR dX0_inWindow_47 fl_X0_24 hB.1 hB.2.2.2.2.2.2.2.2.2.1 ?_
        refine ab_iload dX0_inWindow_50 rfl ?_
        refine ab_iald dX0_inWindow_52 hB.2.2.2.2.2.2.2.2.2.2.1 rfl (by omega) (hD.top (by omega)) ?_
        refine ab_iload_n dX0_inWindow_53 rfl ?_
        refine ab_icmp_lt 75 dX0_inWindow_54 (by decide) (fun c_54 => ?_) (fun c_54 => ?_)
        · replace c_54 := (ab_ltN (by omega)).mp c_54
          refine ab_iconst (v := nI 0) dX0_inWindow_75 (by decide) ?_
          refine ab_sti (ls' := [_, _, _, _, _, _, _, _, _]) dX0_inWindow_76 (by decide) rfl ?_
          refine ab_iload dX0_inWindow_78 rfl ?_
          refine ab_iload dX0_inWindow_80 rfl ?_
          refine ab_nif_eq 94 dX0_inWindow_82 (by decide) (by omega) (fun c_82 => ?_) (fun c_82 => ?_)
          · skip
            refine ab_iconst (v := nI 0) dX0_inWindow_94 (by decide) ?_
            refine ab_naddR dX0_inWindow_95 ?_
            refine ab_topI (y := nI (bd_num (fun i => bd_win x1.toInt x2.toInt y1.toInt y2.toInt (bd_P n hx hy i)) (i + 1))) (by first | (exfalso; omega) | exact congrArg nI (bd_num_yes (P := (fun i => bd_win x1.toInt x2.toInt y1.toInt y2.toInt (bd_P n hx hy i))) (by unfold bd_win; omega)).symm | exact congrArg nI (bd_num_no (P := (fun i => bd_win x1.toInt x2.toInt y1.toInt y2.toInt (bd_P n hx hy i))) (by unfold bd_win; omega)).symm) ?_
            refine ab_sti (ls' := [_, _, _, _, _, _, _, _, _]) dX0_inWindow_96 (by decide) rfl ?_
            refine ab_nincR (ls' := [_, _, _, _, _, _, _, _, _]) dX0_inWindow_98 rfl rfl ?_
            refine ab_goto 6 dX0_inWindow_101 (by decide) ?_
            exact ih (i + 1) _ _ (by omega)
          · skip
            refine ab_iload dX0_inWindow_85 rfl ?_
            refine ab_nif_eq 94 dX0_inWindow_87 (by decide) (by omega) (fun c_87 => ?_) (fun c_87 => ?_)
            · skip
              refine ab_iconst (v := nI 0) dX0_inWindow_94 (by decide) ?_
              refine ab_naddR dX0_inWindow_95 ?_
              refine ab_topI (y := nI (bd_num (fun i => bd_win x1.toInt x2.toInt y1.toInt y2.toInt (bd_P n hx hy i)) (i + 1))) (by first | (exfalso; omega) | exact congrArg nI (bd_num_yes (P := (fun i => bd_win x1.toInt x2.toInt y1.toInt y2.toInt (bd_P n hx hy i))) (by unfold bd_win; omega)).symm | exact congrArg nI (bd_num_no (P := (fun i => bd_win x1.toInt x2.toInt y1.toInt y2.toInt (bd_P n hx hy i))) (by unfold bd_win; omega)).symm) ?_
              refine ab_sti (ls' := [_, _, _, _, _, _, _, _, _]) dX0_inWindow_96 (by decide) rfl ?_
              refine ab_nincR (ls' := [_, _, _, _, _, _, _, _, _]) dX0_inWindow_98 rfl rfl ?_
              refine ab_goto 6 dX0_inWindow_101 (by decide) ?_
              exact ih (i + 1) _ _ (by omega)
            · skip
              refine ab_iconst (v := nI 1) dX0_inWindow_90 (by decide) ?_
              refine ab_goto 95 dX0_inWindow_91 (by decide) ?_
              refine ab_naddR dX0_inWindow_95 ?_
              refine ab_topI (y := nI (bd_num (fun i => bd_win x1.toInt x2.toInt y1.toInt y2.toInt (bd_P n hx hy i)) (i + 1))) (by first | (exfalso; omega) | exact congrArg nI (bd_num_yes (P := (fun i => bd_win x1.toInt x2.toInt y1.toInt y2.toInt (bd_P n hx hy i))) (by unfold bd_win; omega)).symm | exact congrArg nI (bd_num_no (P := (fun i => bd_win x1.toInt x2.toInt y1.toInt y2.toInt (bd_P n hx hy i))) (by unfold bd_win; omega)).symm) ?_
              refine ab_sti (ls' := [_, _, _, _, _, _, _, _, _]) dX0_inWindow_96 (by decide) rfl ?_
              refine ab_nincR (ls' := [_, _, _, _, _, _, _, _, _]) dX0_inWindow_98 rfl rfl ?_
              refine ab_goto 6 dX0_inWindow_101 (by decide) ?_
              exact ih (i + 1) _ _ (by omega)
        · replace c_54 := mt (ab_ltN (by omega)).mpr c_54
          refine ab_aload_n dX0_inWindow_57 rfl ?_
          refine ab_getR dX0_inWindow_58 fl_X0_24 hB.1 hB.2.2.2.2.2.2.2.2.2.1 ?_
          refine ab_iload dX0_inWindow_61 rfl ?_
          refine ab_iald dX0_inWindow_63 hB.2.2.2.2.2.2.2.2.2.2.1 rfl (by omega) (hD.top (by omega)) ?_
          refine ab_iconst (v := nI 1) dX0_inWindow_64 (by decide) ?_
          refine ab_naddR dX0_inWindow_65 ?_
          refine ab_iload dX0_inWindow_66 rfl ?_
          refine ab_icmp_gt 75 dX0_inWindow_68 (by decide) (fun c_68 => ?_) (fun c_68 => ?_)
          · replace c_68 := (ab_Nlt (by omega)).mp c_68
            refine ab_iconst (v := nI 0) dX0_inWindow_75 (by decide) ?_
            refine ab_sti (ls' := [_, _, _, _, _, _, _, _, _]) dX0_inWindow_76 (by decide) rfl ?_
            refine ab_iload dX0_inWindow_78 rfl ?_
            refine ab_iload dX0_inWindow_80 rfl ?_
            refine ab_nif_eq 94 dX0_inWindow_82 (by decide) (by omega) (fun c_82 => ?_) (fun c_82 => ?_)
            · skip
              refine ab_iconst (v := nI 0) dX0_inWindow_94 (by decide) ?_
              refine ab_naddR dX0_inWindow_95 ?_
              refine ab_topI (y := nI (bd_num (fun i => bd_win x1.toInt x2.toInt y1.toInt y2.toInt (bd_P n hx hy i)) (i + 1))) (by first | (exfalso; omega) | exact congrArg nI (bd_num_yes (P := (fun i => bd_win x1.toInt x2.toInt y1.toInt y2.toInt (bd_P n hx hy i))) (by unfold bd_win; omega)).symm | exact congrArg nI (bd_num_no (P := (fun i => bd_win x1.toInt x2.toInt y1.toInt y2.toInt (bd_P n hx hy i))) (by unfold bd_win; omega)).symm) ?_
              refine ab_sti (ls' := [_, _, _, _, _, _, _, _, _]) dX0_inWindow_96 (by decide) rfl ?_
              refine ab_nincR (ls' := [_, _, _, _, _, _, _, _, _]) dX0_inWindow_98 rfl rfl ?_
              refine ab_goto 6 dX0_inWindow_101 (by decide) ?_
              exact ih (i + 1) _ _ (by omega)
            · skip
              refine ab_iload dX0_inWindow_85 rfl ?_
              refine ab_nif_eq 94 dX0_inWindow_87 (by decide) (by omega) (fun c_87 => ?_) (fun c_87 => ?_)
              · skip
                refine ab_iconst (v := nI 0) dX0_inWindow_94 (by decide) ?_
                refine ab_naddR dX0_inWindow_95 ?_
                refine ab_topI (y := nI (bd_num (fun i => bd_win x1.toInt x2.toInt y1.toInt y2.toInt (bd_P n hx hy i)) (i + 1))) (by first | (exfalso; omega) | exact congrArg nI (bd_num_yes (P := (fun i => bd_win x1.toInt x2.toInt y1.toInt y2.toInt (bd_P n hx hy i))) (by unfold bd_win; omega)).symm | exact congrArg nI (bd_num_no (P := (fun i => bd_win x1.toInt x2.toInt y1.toInt y2.toInt (bd_P n hx hy i))) (by unfold bd_win; omega)).symm) ?_
                refine ab_sti (ls' := [_, _, _, _, _, _, _, _, _]) dX0_inWindow_96 (by decide) rfl ?_
                refine ab_nincR (ls' := [_, _, _, _, _, _, _, _, _]) dX0_inWindow_98 rfl rfl ?_
                refine ab_goto 6 dX0_inWindow_101 (by decide) ?_
                exact ih (i + 1) _ _ (by omega)
              · skip
                refine ab_iconst (v := nI 1) dX0_inWindow_90 (by decide) ?_
                refine ab_goto 95 dX0_inWindow_91 (by decide) ?_
                refine ab_naddR dX0_inWindow_95 ?_
                refine ab_topI (y := nI (bd_num (fun i => bd_win x1.toInt x2.toInt y1.toInt y2.toInt (bd_P n hx hy i)) (i + 1))) (by first | (exfalso; omega) | exact congrArg nI (bd_num_yes (P := (fun i => bd_win x1.toInt x2.toInt y1.toInt y2.toInt (bd_P n hx hy i))) (by unfold bd_win; omega)).symm | exact congrArg nI (bd_num_no (P := (fun i => bd_win x1.toInt x2.toInt y1.toInt y2.toInt (bd_P n hx hy i))) (by unfold bd_win; omega)).symm) ?_
                refine ab_sti (ls' := [_, _, _, _, _, _, _, _, _]) dX0_inWindow_96 (by decide) rfl ?_
                refine ab_nincR (ls' := [_, _, _, _, _, _, _, _, _]) dX0_inWindow_98 rfl rfl ?_
                refine ab_goto 6 dX0_inWindow_101 (by decide) ?_
                exact ih (i + 1) _ _ (by omega)
          · replace c_68 := mt (ab_Nlt (by omega)).mpr c_68
            refine ab_iconst (v := nI 1) dX0_inWindow_71 (by decide) ?_
            refine ab_goto 76 dX0_inWindow_72 (by decide) ?_
            refine ab_sti (ls' := [_, _, _, _, _, _, _, _, _]) dX0_inWindow_76 (by decide) rfl ?_
            refine ab_iload dX0_inWindow_78 rfl ?_
            refine ab_iload dX0_inWindow_80 rfl ?_
            refine ab_nif_eq 94 dX0_inWindow_82 (by decide) (by omega) (fun c_82 => ?_) (fun c_82 => ?_)
            · skip
              refine ab_iconst (v := nI 0) dX0_inWindow_94 (by decide) ?_
              refine ab_naddR dX0_inWindow_95 ?_
              refine ab_topI (y := nI (bd_num (fun i => bd_win x1.toInt x2.toInt y1.toInt y2.toInt (bd_P n hx hy i)) (i + 1))) (by first | (exfalso; omega) | exact congrArg nI (bd_num_yes (P := (fun i => bd_win x1.toInt x2.toInt y1.toInt y2.toInt (bd_P n hx hy i))) (by unfold bd_win; omega)).symm | exact congrArg nI (bd_num_no (P := (fun i => bd_win x1.toInt x2.toInt y1.toInt y2.toInt (bd_P n hx hy i))) (by unfold bd_win; omega)).symm) ?_
              refine ab_sti (ls' := [_, _, _, _, _, _, _, _, _]) dX0_inWindow_96 (by decide) rfl ?_
              refine ab_nincR (ls' := [_, _, _, _, _, _, _, _, _]) dX0_inWindow_98 rfl rfl ?_
              refine ab_goto 6 dX0_inWindow_101 (by decide) ?_
              exact ih (i + 1) _ _ (by omega)
            · skip
              refine ab_iload dX0_inWindow_85 rfl ?_
              refine ab_nif_eq 94 dX0_inWindow_87 (by decide) (by omega) (fun c_87 => ?_) (fun c_87 => ?_)
              · skip
                refine ab_iconst (v := nI 0) dX0_inWindow_94 (by decide) ?_
                refine ab_naddR dX0_inWindow_95 ?_
                refine ab_topI (y := nI (bd_num (fun i => bd_win x1.toInt x2.toInt y1.toInt y2.toInt (bd_P n hx hy i)) (i + 1))) (by first | (exfalso; omega) | exact congrArg nI (bd_num_yes (P := (fun i => bd_win x1.toInt x2.toInt y1.toInt y2.toInt (bd_P n hx hy i))) (by unfold bd_win; omega)).symm | exact congrArg nI (bd_num_no (P := (fun i => bd_win x1.toInt x2.toInt y1.toInt y2.toInt (bd_P n hx hy i))) (by unfold bd_win; omega)).symm) ?_
                refine ab_sti (ls' := [_, _, _, _, _, _, _, _, _]) dX0_inWindow_96 (by decide) rfl ?_
                refine ab_nincR (ls' := [_, _, _, _, _, _, _, _, _]) dX0_inWindow_98 rfl rfl ?_
                refine ab_goto 6 dX0_inWindow_101 (by decide) ?_
                exact ih (i + 1) _ _ (by omega)
              · skip
                refine ab_iconst (v := nI 1) dX0_inWindow_90 (by decide) ?_
                refine ab_goto 95 dX0_inWindow_91 (by decide) ?_
                refine ab_naddR dX0_inWindow_95 ?_
                refine ab_topI (y := nI (bd_num (fun i => bd_win x1.toInt x2.toInt y1.toInt y2.toInt (bd_P n hx hy i)) (i + 1))) (by first | (exfalso; omega) | exact congrArg nI (bd_num_yes (P := (fun i => bd_win x1.toInt x2.toInt y1.toInt y2.toInt (bd_P n hx hy i))) (by unfold bd_win; omega)).symm | exact congrArg nI (bd_num_no (P := (fun i => bd_win x1.toInt x2.toInt y1.toInt y2.toInt (bd_P n hx hy i))) (by unfold bd_win; omega)).symm) ?_
                refine ab_sti (ls' := [_, _, _, _, _, _, _, _, _]) dX0_inWindow_96 (by decide) rfl ?_
                refine ab_nincR (ls' := [_, _, _, _, _, _, _, _, _]) dX0_inWindow_98 rfl rfl ?_
                refine ab_goto 6 dX0_inWindow_101 (by decide) ?_
                exact ih (i + 1) _ _ (by omega)
      · replace c_23 := mt (ab_ltN (by omega)).mpr c_23
        refine ab_aload_n dX0_inWindow_26 rfl ?_
        refine ab_getR dX0_inWindow_27 fl_X0_21 hB.1 hB.2.2.2.2.2.2.2.1 ?_
        refine ab_iload dX0_inWindow_30 rfl ?_
        refine ab_iald dX0_inWindow_32 hB.2.2.2.2.2.2.2.2.1 rfl (by omega) (hD.left (by omega)) ?_
        refine ab_iconst (v := nI 1) dX0_inWindow_33 (by decide) ?_
        refine ab_naddR dX0_inWindow_34 ?_
        refine ab_iload_n dX0_inWindow_35 rfl ?_
        refine ab_icmp_gt 43 dX0_inWindow_36 (by decide) (fun c_36 => ?_) (fun c_36 => ?_)
        · replace c_36 := (ab_Nlt (by omega)).mp c_36
          refine ab_iconst (v := nI 0) dX0_inWindow_43 (by decide) ?_
          refine ab_sti (ls' := [_, _, _, _, _, _, _, _, _]) dX0_inWindow_44 (by decide) rfl ?_
          refine ab_aload_n dX0_inWindow_46 rfl ?_
          refine ab_getR dX0_inWindow_47 fl_X0_24 hB.1 hB.2.2.2.2.2.2.2.2.2.1 ?_
          refine ab_iload dX0_inWindow_50 rfl ?_
          refine ab_iald dX0_inWindow_52 hB.2.2.2.2.2.2.2.2.2.2.1 rfl (by omega) (hD.top (by omega)) ?_
          refine ab_iload_n dX0_inWindow_53 rfl ?_
          refine ab_icmp_lt 75 dX0_inWindow_54 (by decide) (fun c_54 => ?_) (fun c_54 => ?_)
          · replace c_54 := (ab_ltN (by omega)).mp c_54
            refine ab_iconst (v := nI 0) dX0_inWindow_75 (by decide) ?_
            refine ab_sti (ls' := [_, _, _, _, _, _, _, _, _]) dX0_inWindow_76 (by decide) rfl ?_
            refine ab_iload dX0_inWindow_78 rfl ?_
            refine ab_iload dX0_inWindow_80 rfl ?_
            refine ab_nif_eq 94 dX0_inWindow_82 (by decide) (by omega) (fun c_82 => ?_) (fun c_82 => ?_)
            · skip
              refine ab_iconst (v := nI 0) dX0_inWindow_94 (by decide) ?_
              refine ab_naddR dX0_inWindow_95 ?_
              refine ab_topI (y := nI (bd_num (fun i => bd_win x1.toInt x2.toInt y1.toInt y2.toInt (bd_P n hx hy i)) (i + 1))) (by first | (exfalso; omega) | exact congrArg nI (bd_num_yes (P := (fun i => bd_win x1.toInt x2.toInt y1.toInt y2.toInt (bd_P n hx hy i))) (by unfold bd_win; omega)).symm | exact congrArg nI (bd_num_no (P := (fun i => bd_win x1.toInt x2.toInt y1.toInt y2.toInt (bd_P n hx hy i))) (by unfold bd_win; omega)).symm) ?_
              refine ab_sti (ls' := [_, _, _, _, _, _, _, _, _]) dX0_inWindow_96 (by decide) rfl ?_
              refine ab_nincR (ls' := [_, _, _, _, _, _, _, _, _]) dX0_inWindow_98 rfl rfl ?_
              refine ab_goto 6 dX0_inWindow_101 (by decide) ?_
              exact ih (i + 1) _ _ (by omega)
            · skip
              refine ab_iload dX0_inWindow_85 rfl ?_
              refine ab_nif_eq 94 dX0_inWindow_87 (by decide) (by omega) (fun c_87 => ?_) (fun c_87 => ?_)
              · skip
                refine ab_iconst (v := nI 0) dX0_inWindow_94 (by decide) ?_
                refine ab_naddR dX0_inWindow_95 ?_
                refine ab_topI (y := nI (bd_num (fun i => bd_win x1.toInt x2.toInt y1.toInt y2.toInt (bd_P n hx hy i)) (i + 1))) (by first | (exfalso; omega) | exact congrArg nI (bd_num_yes (P := (fun i => bd_win x1.toInt x2.toInt y1.toInt y2.toInt (bd_P n hx hy i))) (by unfold bd_win; omega)).symm | exact congrArg nI (bd_num_no (P := (fun i => bd_win x1.toInt x2.toInt y1.toInt y2.toInt (bd_P n hx hy i))) (by unfold bd_win; omega)).symm) ?_
                refine ab_sti (ls' := [_, _, _, _, _, _, _, _, _]) dX0_inWindow_96 (by decide) rfl ?_
                refine ab_nincR (ls' := [_, _, _, _, _, _, _, _, _]) dX0_inWindow_98 rfl rfl ?_
                refine ab_goto 6 dX0_inWindow_101 (by decide) ?_
                exact ih (i + 1) _ _ (by omega)
              · skip
                refine ab_iconst (v := nI 1) dX0_inWindow_90 (by decide) ?_
                refine ab_goto 95 dX0_inWindow_91 (by decide) ?_
                refine ab_naddR dX0_inWindow_95 ?_
                refine ab_topI (y := nI (bd_num (fun i => bd_win x1.toInt x2.toInt y1.toInt y2.toInt (bd_P n hx hy i)) (i + 1))) (by first | (exfalso; omega) | exact congrArg nI (bd_num_yes (P := (fun i => bd_win x1.toInt x2.toInt y1.toInt y2.toInt (bd_P n hx hy i))) (by unfold bd_win; omega)).symm | exact congrArg nI (bd_num_no (P := (fun i => bd_win x1.toInt x2.toInt y1.toInt y2.toInt (bd_P n hx hy i))) (by unfold bd_win; omega)).symm) ?_
                refine ab_sti (ls' := [_, _, _, _, _, _, _, _, _]) dX0_inWindow_96 (by decide) rfl ?_
                refine ab_nincR (ls' := [_, _, _, _, _, _, _, _, _]) dX0_inWindow_98 rfl rfl ?_
                refine ab_goto 6 dX0_inWindow_101 (by decide) ?_
                exact ih (i + 1) _ _ (by omega)
          · replace c_54 := mt (ab_ltN (by omega)).mpr c_54
            refine ab_aload_n dX0_inWindow_57 rfl ?_
            refine ab_getR dX0_inWindow_58 fl_X0_24 hB.1 hB.2.2.2.2.2.2.2.2.2.1 ?_
            refine ab_iload dX0_inWindow_61 rfl ?_
            refine ab_iald dX0_inWindow_63 hB.2.2.2.2.2.2.2.2.2.2.1 rfl (by omega) (hD.top (by omega)) ?_
            refine ab_iconst (v := nI 1) dX0_inWindow_64 (by decide) ?_
            refine ab_naddR dX0_inWindow_65 ?_
            refine ab_iload dX0_inWindow_66 rfl ?_
            refine ab_icmp_gt 75 dX0_inWindow_68 (by decide) (fun c_68 => ?_) (fun c_68 => ?_)
            · replace c_68 := (ab_Nlt (by omega)).mp c_68
              refine ab_iconst (v := nI 0) dX0_inWindow_75 (by decide) ?_
              refine ab_sti (ls' := [_, _, _, _, _, _, _, _, _]) dX0_inWindow_76 (by decide) rfl ?_
              refine ab_iload dX0_inWindow_78 rfl ?_
              refine ab_iload dX0_inWindow_80 rfl ?_
              refine ab_nif_eq 94 dX0_inWindow_82 (by decide) (by omega) (fun c_82 => ?_) (fun c_82 => ?_)
              · skip
                refine ab_iconst (v := nI 0) dX0_inWindow_94 (by decide) ?_
                refine ab_naddR dX0_inWindow_95 ?_
                refine ab_topI (y := nI (bd_num (fun i => bd_win x1.toInt x2.toInt y1.toInt y2.toInt (bd_P n hx hy i)) (i + 1))) (by first | (exfalso; omega) | exact congrArg nI (bd_num_yes (P := (fun i => bd_win x1.toInt x2.toInt y1.toInt y2.toInt (bd_P n hx hy i))) (by unfold bd_win; omega)).symm | exact congrArg nI (bd_num_no (P := (fun i => bd_win x1.toInt x2.toInt y1.toInt y2.toInt (bd_P n hx hy i))) (by unfold bd_win; omega)).symm) ?_
                refine ab_sti (ls' := [_, _, _, _, _, _, _, _, _]) dX0_inWindow_96 (by decide) rfl ?_
                refine ab_nincR (ls' := [_, _, _, _, _, _, _, _, _]) dX0_inWindow_98 rfl rfl ?_
                refine ab_goto 6 dX0_inWindow_101 (by decide) ?_
                exact ih (i + 1) _ _ (by omega)
              · skip
                refine ab_iload dX0_inWindow_85 rfl ?_
                refine ab_nif_eq 94 dX0_inWindow_87 (by decide) (by omega) (fun c_87 => ?_) (fun c_87 => ?_)
                · skip
                  refine ab_iconst (v := nI 0) dX0_inWindow_94 (by decide) ?_
                  refine ab_naddR dX0_inWindow_95 ?_
                  refine ab_topI (y := nI (bd_num (fun i => bd_win x1.toInt x2.toInt y1.toInt y2.toInt (bd_P n hx hy i)) (i + 1))) (by first | (exfalso; omega) | exact congrArg nI (bd_num_yes (P := (fun i => bd_win x1.toInt x2.toInt y1.toInt y2.toInt (bd_P n hx hy i))) (by unfold bd_win; omega)).symm | exact congrArg nI (bd_num_no (P := (fun i => bd_win x1.toInt x2.toInt y1.toInt y2.toInt (bd_P n hx hy i))) (by unfold bd_win; omega)).symm) ?_
                  refine ab_sti (ls' := [_, _, _, _, _, _, _, _, _]) dX0_inWindow_96 (by decide) rfl ?_
                  refine ab_nincR (ls' := [_, _, _, _, _, _, _, _, _]) dX0_inWindow_98 rfl rfl ?_
                  refine ab_goto 6 dX0_inWindow_101 (by decide) ?_
                  exact ih (i + 1) _ _ (by omega)
                · skip
                  refine ab_iconst (v := nI 1) dX0_inWindow_90 (by decide) ?_
                  refine ab_goto 95 dX0_inWindow_91 (by decide) ?_
                  refine ab_naddR dX0_inWindow_95 ?_
                  refine ab_topI (y := nI (bd_num (fun i => bd_win x1.toInt x2.toInt y1.toInt y2.toInt (bd_P n hx hy i)) (i + 1))) (by first | (exfalso; omega) | exact congrArg nI (bd_num_yes (P := (fun i => bd_win x1.toInt x2.toInt y1.toInt y2.toInt (bd_P n hx hy i))) (by unfold bd_win; omega)).symm | exact congrArg nI (bd_num_no (P := (fun i => bd_win x1.toInt x2.toInt y1.toInt y2.toInt (bd_P n hx hy i))) (by unfold bd_win; omega)).symm) ?_
                  refine ab_sti (ls' := [_, _, _, _, _, _, _, _, _]) dX0_inWindow_96 (by decide) rfl ?_
                  refine ab_nincR (ls' := [_, _, _, _, _, _, _, _, _]) dX0_inWindow_98 rfl rfl ?_
                  refine ab_goto 6 dX0_inWindow_101 (by decide) ?_
                  exact ih (i + 1) _ _ (by omega)
            · replace c_68 := mt (ab_Nlt (by omega)).mpr c_68
              refine ab_iconst (v := nI 1) dX0_inWindow_71 (by decide) ?_
              refine ab_goto 76 dX0_inWindow_72 (by decide) ?_
              refine ab_sti (ls' := [_, _, _, _, _, _, _, _, _]) dX0_inWindow_76 (by decide) rfl ?_
              refine ab_iload dX0_inWindow_78 rfl ?_
              refine ab_iload dX0_inWindow_80 rfl ?_
              refine ab_nif_eq 94 dX0_inWindow_82 (by decide) (by omega) (fun c_82 => ?_) (fun c_82 => ?_)
              · skip
                refine ab_iconst (v := nI 0) dX0_inWindow_94 (by decide) ?_
                refine ab_naddR dX0_inWindow_95 ?_
                refine ab_topI (y := nI (bd_num (fun i => bd_win x1.toInt x2.toInt y1.toInt y2.toInt (bd_P n hx hy i)) (i + 1))) (by first | (exfalso; omega) | exact congrArg nI (bd_num_yes (P := (fun i => bd_win x1.toInt x2.toInt y1.toInt y2.toInt (bd_P n hx hy i))) (by unfold bd_win; omega)).symm | exact congrArg nI (bd_num_no (P := (fun i => bd_win x1.toInt x2.toInt y1.toInt y2.toInt (bd_P n hx hy i))) (by unfold bd_win; omega)).symm) ?_
                refine ab_sti (ls' := [_, _, _, _, _, _, _, _, _]) dX0_inWindow_96 (by decide) rfl ?_
                refine ab_nincR (ls' := [_, _, _, _, _, _, _, _, _]) dX0_inWindow_98 rfl rfl ?_
                refine ab_goto 6 dX0_inWindow_101 (by decide) ?_
                exact ih (i + 1) _ _ (by omega)
              · skip
                refine ab_iload dX0_inWindow_85 rfl ?_
                refine ab_nif_eq 94 dX0_inWindow_87 (by decide) (by omega) (fun c_87 => ?_) (fun c_87 => ?_)
                · skip
                  refine ab_iconst (v := nI 0) dX0_inWindow_94 (by decide) ?_
                  refine ab_naddR dX0_inWindow_95 ?_
                  refine ab_topI (y := nI (bd_num (fun i => bd_win x1.toInt x2.toInt y1.toInt y2.toInt (bd_P n hx hy i)) (i + 1))) (by first | (exfalso; omega) | exact congrArg nI (bd_num_yes (P := (fun i => bd_win x1.toInt x2.toInt y1.toInt y2.toInt (bd_P n hx hy i))) (by unfold bd_win; omega)).symm | exact congrArg nI (bd_num_no (P := (fun i => bd_win x1.toInt x2.toInt y1.toInt y2.toInt (bd_P n hx hy i))) (by unfold bd_win; omega)).symm) ?_
                  refine ab_sti (ls' := [_, _, _, _, _, _, _, _, _]) dX0_inWindow_96 (by decide) rfl ?_
                  refine ab_nincR (ls' := [_, _, _, _, _, _, _, _, _]) dX0_inWindow_98 rfl rfl ?_
                  refine ab_goto 6 dX0_inWindow_101 (by decide) ?_
                  exact ih (i + 1) _ _ (by omega)
                · skip
                  refine ab_iconst (v := nI 1) dX0_inWindow_90 (by decide) ?_
                  refine ab_goto 95 dX0_inWindow_91 (by decide) ?_
                  refine ab_naddR dX0_inWindow_95 ?_
                  refine ab_topI (y := nI (bd_num (fun i => bd_win x1.toInt x2.toInt y1.toInt y2.toInt (bd_P n hx hy i)) (i + 1))) (by first | (exfalso; omega) | exact congrArg nI (bd_num_yes (P := (fun i => bd_win x1.toInt x2.toInt y1.toInt y2.toInt (bd_P n hx hy i))) (by unfold bd_win; omega)).symm | exact congrArg nI (bd_num_no (P := (fun i => bd_win x1.toInt x2.toInt y1.toInt y2.toInt (bd_P n hx hy i))) (by unfold bd_win; omega)).symm) ?_
                  refine ab_sti (ls' := [_, _, _, _, _, _, _, _, _]) dX0_inWindow_96 (by decide) rfl ?_
                  refine ab_nincR (ls' := [_, _, _, _, _, _, _, _, _]) dX0_inWindow_98 rfl rfl ?_
                  refine ab_goto 6 dX0_inWindow_101 (by decide) ?_
                  exact ih (i + 1) _ _ (by omega)
        · replace c_36 := mt (ab_Nlt (by omega)).mpr c_36
          refine ab_iconst (v := nI 1) dX0_inWindow_39 (by decide) ?_
          refine ab_goto 44 dX0_inWindow_40 (by decide) ?_
          refine ab_sti (ls' := [_, _, _, _, _, _, _, _, _]) dX0_inWindow_44 (by decide) rfl ?_
          refine ab_aload_n dX0_inWindow_46 rfl ?_
          refine ab_getR dX0_inWindow_47 fl_X0_24 hB.1 hB.2.2.2.2.2.2.2.2.2.1 ?_
          refine ab_iload dX0_inWindow_50 rfl ?_
          refine ab_iald dX0_inWindow_52 hB.2.2.2.2.2.2.2.2.2.2.1 rfl (by omega) (hD.top (by omega)) ?_
          refine ab_iload_n dX0_inWindow_53 rfl ?_
          refine ab_icmp_lt 75 dX0_inWindow_54 (by decide) (fun c_54 => ?_) (fun c_54 => ?_)
          · replace c_54 := (ab_ltN (by omega)).mp c_54
            refine ab_iconst (v := nI 0) dX0_inWindow_75 (by decide) ?_
            refine ab_sti (ls' := [_, _, _, _, _, _, _, _, _]) dX0_inWindow_76 (by decide) rfl ?_
            refine ab_iload dX0_inWindow_78 rfl ?_
            refine ab_iload dX0_inWindow_80 rfl ?_
            refine ab_nif_eq 94 dX0_inWindow_82 (by decide) (by omega) (fun c_82 => ?_) (fun c_82 => ?_)
            · skip
              refine ab_iconst (v := nI 0) dX0_inWindow_94 (by decide) ?_
              refine ab_naddR dX0_inWindow_95 ?_
              refine ab_topI (y := nI (bd_num (fun i => bd_win x1.toInt x2.toInt y1.toInt y2.toInt (bd_P n hx hy i)) (i + 1))) (by first | (exfalso; omega) | exact congrArg nI (bd_num_yes (P := (fun i => bd_win x1.toInt x2.toInt y1.toInt y2.toInt (bd_P n hx hy i))) (by unfold bd_win; omega)).symm | exact congrArg nI (bd_num_no (P := (fun i => bd_win x1.toInt x2.toInt y1.toInt y2.toInt (bd_P n hx hy i))) (by unfold bd_win; omega)).symm) ?_
              refine ab_sti (ls' := [_, _, _, _, _, _, _, _, _]) dX0_inWindow_96 (by decide) rfl ?_
              refine ab_nincR (ls' := [_, _, _, _, _, _, _, _, _]) dX0_inWindow_98 rfl rfl ?_
              refine ab_goto 6 dX0_inWindow_101 (by decide) ?_
              exact ih (i + 1) _ _ (by omega)
            · skip
              refine ab_iload dX0_inWindow_85 rfl ?_
              refine ab_nif_eq 94 dX0_inWindow_87 (by decide) (by omega) (fun c_87 => ?_) (fun c_87 => ?_)
              · skip
                refine ab_iconst (v := nI 0) dX0_inWindow_94 (by decide) ?_
                refine ab_naddR dX0_inWindow_95 ?_
                refine ab_topI (y := nI (bd_num (fun i => bd_win x1.toInt x2.toInt y1.toInt y2.toInt (bd_P n hx hy i)) (i + 1))) (by first | (exfalso; omega) | exact congrArg nI (bd_num_yes (P := (fun i => bd_win x1.toInt x2.toInt y1.toInt y2.toInt (bd_P n hx hy i))) (by unfold bd_win; omega)).symm | exact congrArg nI (bd_num_no (P := (fun i => bd_win x1.toInt x2.toInt y1.toInt y2.toInt (bd_P n hx hy i))) (by unfold bd_win; omega)).symm) ?_
                refine ab_sti (ls' := [_, _, _, _, _, _, _, _, _]) dX0_inWindow_96 (by decide) rfl ?_
                refine ab_nincR (ls' := [_, _, _, _, _, _, _, _, _]) dX0_inWindow_98 rfl rfl ?_
                refine ab_goto 6 dX0_inWindow_101 (by decide) ?_
                exact ih (i + 1) _ _ (by omega)
              · skip
                refine ab_iconst (v := nI 1) dX0_inWindow_90 (by decide) ?_
                refine ab_goto 95 dX0_inWindow_91 (by decide) ?_
                refine ab_naddR dX0_inWindow_95 ?_
                refine ab_topI (y := nI (bd_num (fun i => bd_win x1.toInt x2.toInt y1.toInt y2.toInt (bd_P n hx hy i)) (i + 1))) (by first | (exfalso; omega) | exact congrArg nI (bd_num_yes (P := (fun i => bd_win x1.toInt x2.toInt y1.toInt y2.toInt (bd_P n hx hy i))) (by unfold bd_win; omega)).symm | exact congrArg nI (bd_num_no (P := (fun i => bd_win x1.toInt x2.toInt y1.toInt y2.toInt (bd_P n hx hy i))) (by unfold bd_win; omega)).symm) ?_
                refine ab_sti (ls' := [_, _, _, _, _, _, _, _, _]) dX0_inWindow_96 (by decide) rfl ?_
                refine ab_nincR (ls' := [_, _, _, _, _, _, _, _, _]) dX0_inWindow_98 rfl rfl ?_
                refine ab_goto 6 dX0_inWindow_101 (by decide) ?_
                exact ih (i + 1) _ _ (by omega)
          · replace c_54 := mt (ab_ltN (by omega)).mpr c_54
            refine ab_aload_n dX0_inWindow_57 rfl ?_
            refine ab_getR dX0_inWindow_58 fl_X0_24 hB.1 hB.2.2.2.2.2.2.2.2.2.1 ?_
            refine ab_iload dX0_inWindow_61 rfl ?_
            refine ab_iald dX0_inWindow_63 hB.2.2.2.2.2.2.2.2.2.2.1 rfl (by omega) (hD.top (by omega)) ?_
            refine ab_iconst (v := nI 1) dX0_inWindow_64 (by decide) ?_
            refine ab_naddR dX0_inWindow_65 ?_
            refine ab_iload dX0_inWindow_66 rfl ?_
            refine ab_icmp_gt 75 dX0_inWindow_68 (by decide) (fun c_68 => ?_) (fun c_68 => ?_)
            · replace c_68 := (ab_Nlt (by omega)).mp c_68
              refine ab_iconst (v := nI 0) dX0_inWindow_75 (by decide) ?_
              refine ab_sti (ls' := [_, _, _, _, _, _, _, _, _]) dX0_inWindow_76 (by decide) rfl ?_
              refine ab_iload dX0_inWindow_78 rfl ?_
              refine ab_iload dX0_inWindow_80 rfl ?_
              refine ab_nif_eq 94 dX0_inWindow_82 (by decide) (by omega) (fun c_82 => ?_) (fun c_82 => ?_)
              · skip
                refine ab_iconst (v := nI 0) dX0_inWindow_94 (by decide) ?_
                refine ab_naddR dX0_inWindow_95 ?_
                refine ab_topI (y := nI (bd_num (fun i => bd_win x1.toInt x2.toInt y1.toInt y2.toInt (bd_P n hx hy i)) (i + 1))) (by first | (exfalso; omega) | exact congrArg nI (bd_num_yes (P := (fun i => bd_win x1.toInt x2.toInt y1.toInt y2.toInt (bd_P n hx hy i))) (by unfold bd_win; omega)).symm | exact congrArg nI (bd_num_no (P := (fun i => bd_win x1.toInt x2.toInt y1.toInt y2.toInt (bd_P n hx hy i))) (by unfold bd_win; omega)).symm) ?_
                refine ab_sti (ls' := [_, _, _, _, _, _, _, _, _]) dX0_inWindow_96 (by decide) rfl ?_
                refine ab_nincR (ls' := [_, _, _, _, _, _, _, _, _]) dX0_inWindow_98 rfl rfl ?_
                refine ab_goto 6 dX0_inWindow_101 (by decide) ?_
                exact ih (i + 1) _ _ (by omega)
              · skip
                refine ab_iload dX0_inWindow_85 rfl ?_
                refine ab_nif_eq 94 dX0_inWindow_87 (by decide) (by omega) (fun c_87 => ?_) (fun c_87 => ?_)
                · skip
                  refine ab_iconst (v := nI 0) dX0_inWindow_94 (by decide) ?_
                  refine ab_naddR dX0_inWindow_95 ?_
                  refine ab_topI (y := nI (bd_num (fun i => bd_win x1.toInt x2.toInt y1.toInt y2.toInt (bd_P n hx hy i)) (i + 1))) (by first | (exfalso; omega) | exact congrArg nI (bd_num_yes (P := (fun i => bd_win x1.toInt x2.toInt y1.toInt y2.toInt (bd_P n hx hy i))) (by unfold bd_win; omega)).symm | exact congrArg nI (bd_num_no (P := (fun i => bd_win x1.toInt x2.toInt y1.toInt y2.toInt (bd_P n hx hy i))) (by unfold bd_win; omega)).symm) ?_
                  refine ab_sti (ls' := [_, _, _, _, _, _, _, _, _]) dX0_inWindow_96 (by decide) rfl ?_
                  refine ab_nincR (ls' := [_, _, _, _, _, _, _, _, _]) dX0_inWindow_98 rfl rfl ?_
                  refine ab_goto 6 dX0_inWindow_101 (by decide) ?_
                  exact ih (i + 1) _ _ (by omega)
                · skip
                  refine ab_iconst (v := nI 1) dX0_inWindow_90 (by decide) ?_
                  refine ab_goto 95 dX0_inWindow_91 (by decide) ?_
                  refine ab_naddR dX0_inWindow_95 ?_
                  refine ab_topI (y := nI (bd_num (fun i => bd_win x1.toInt x2.toInt y1.toInt y2.toInt (bd_P n hx hy i)) (i + 1))) (by first | (exfalso; omega) | exact congrArg nI (bd_num_yes (P := (fun i => bd_win x1.toInt x2.toInt y1.toInt y2.toInt (bd_P n hx hy i))) (by unfold bd_win; omega)).symm | exact congrArg nI (bd_num_no (P := (fun i => bd_win x1.toInt x2.toInt y1.toInt y2.toInt (bd_P n hx hy i))) (by unfold bd_win; omega)).symm) ?_
                  refine ab_sti (ls' := [_, _, _, _, _, _, _, _, _]) dX0_inWindow_96 (by decide) rfl ?_
                  refine ab_nincR (ls' := [_, _, _, _, _, _, _, _, _]) dX0_inWindow_98 rfl rfl ?_
                  refine ab_goto 6 dX0_inWindow_101 (by decide) ?_
                  exact ih (i + 1) _ _ (by omega)
            · replace c_68 := mt (ab_Nlt (by omega)).mpr c_68
              refine ab_iconst (v := nI 1) dX0_inWindow_71 (by decide) ?_
              refine ab_goto 76 dX0_inWindow_72 (by decide) ?_
              refine ab_sti (ls' := [_, _, _, _, _, _, _, _, _]) dX0_inWindow_76 (by decide) rfl ?_
              refine ab_iload dX0_inWindow_78 rfl ?_
              refine ab_iload dX0_inWindow_80 rfl ?_
              refine ab_nif_eq 94 dX0_inWindow_82 (by decide) (by omega) (fun c_82 => ?_) (fun c_82 => ?_)
              · skip
                refine ab_iconst (v := nI 0) dX0_inWindow_94 (by decide) ?_
                refine ab_naddR dX0_inWindow_95 ?_
                refine ab_topI (y := nI (bd_num (fun i => bd_win x1.toInt x2.toInt y1.toInt y2.toInt (bd_P n hx hy i)) (i + 1))) (by first | (exfalso; omega) | exact congrArg nI (bd_num_yes (P := (fun i => bd_win x1.toInt x2.toInt y1.toInt y2.toInt (bd_P n hx hy i))) (by unfold bd_win; omega)).symm | exact congrArg nI (bd_num_no (P := (fun i => bd_win x1.toInt x2.toInt y1.toInt y2.toInt (bd_P n hx hy i))) (by unfold bd_win; omega)).symm) ?_
                refine ab_sti (ls' := [_, _, _, _, _, _, _, _, _]) dX0_inWindow_96 (by decide) rfl ?_
                refine ab_nincR (ls' := [_, _, _, _, _, _, _, _, _]) dX0_inWindow_98 rfl rfl ?_
                refine ab_goto 6 dX0_inWindow_101 (by decide) ?_
                exact ih (i + 1) _ _ (by omega)
              · skip
                refine ab_iload dX0_inWindow_85 rfl ?_
                refine ab_nif_eq 94 dX0_inWindow_87 (by decide) (by omega) (fun c_87 => ?_) (fun c_87 => ?_)
                · skip
                  refine ab_iconst (v := nI 0) dX0_inWindow_94 (by decide) ?_
                  refine ab_naddR dX0_inWindow_95 ?_
                  refine ab_topI (y := nI (bd_num (fun i => bd_win x1.toInt x2.toInt y1.toInt y2.toInt (bd_P n hx hy i)) (i + 1))) (by first | (exfalso; omega) | exact congrArg nI (bd_num_yes (P := (fun i => bd_win x1.toInt x2.toInt y1.toInt y2.toInt (bd_P n hx hy i))) (by unfold bd_win; omega)).symm | exact congrArg nI (bd_num_no (P := (fun i => bd_win x1.toInt x2.toInt y1.toInt y2.toInt (bd_P n hx hy i))) (by unfold bd_win; omega)).symm) ?_
                  refine ab_sti (ls' := [_, _, _, _, _, _, _, _, _]) dX0_inWindow_96 (by decide) rfl ?_
                  refine ab_nincR (ls' := [_, _, _, _, _, _, _, _, _]) dX0_inWindow_98 rfl rfl ?_
                  refine ab_goto 6 dX0_inWindow_101 (by decide) ?_
                  exact ih (i + 1) _ _ (by omega)
                · skip
                  refine ab_iconst (v := nI 1) dX0_inWindow_90 (by decide) ?_
                  refine ab_goto 95 dX0_inWindow_91 (by decide) ?_
                  refine ab_naddR dX0_inWindow_95 ?_
                  refine ab_topI (y := nI (bd_num (fun i => bd_win x1.toInt x2.toInt y1.toInt y2.toInt (bd_P n hx hy i)) (i + 1))) (by first | (exfalso; omega) | exact congrArg nI (bd_num_yes (P := (fun i => bd_win x1.toInt x2.toInt y1.toInt y2.toInt (bd_P n hx hy i))) (by unfold bd_win; omega)).symm | exact congrArg nI (bd_num_no (P := (fun i => bd_win x1.toInt x2.toInt y1.toInt y2.toInt (bd_P n hx hy i))) (by unfold bd_win; omega)).symm) ?_
                  refine ab_sti (ls' := [_, _, _, _, _, _, _, _, _]) dX0_inWindow_96 (by decide) rfl ?_
                  refine ab_nincR (ls' := [_, _, _, _, _, _, _, _, _]) dX0_inWindow_98 rfl rfl ?_
                  refine ab_goto 6 dX0_inWindow_101 (by decide) ?_
                  exact ih (i + 1) _ _ (by omega)
set_option maxRecDepth 100000 in
set_option maxHeartbeats 4000000 in
theorem c_inWindow {k b r n hx hy : Nat} {h : ab_H} {x1 x2 y1 y2 : Int32} (hB : at_Board (ab_sh h) (ab_r h) r) (hD : bd_C n hx hy r h) : ab_M k b mX0_inWindow [.ref r, .int x1, .int x2, .int y1, .int y2] h (ab_pn (fun v h' => h' = h ∧ v = bd_num (fun i => bd_win x1.toInt x2.toInt y1.toInt y2.toInt (bd_P n hx hy i)) (bd_n n))) := by
  refine ab_enter ?_
  refine ab_iconst (v := nI 0) dX0_inWindow_0 (by decide) ?_
  refine ab_sti (ls' := [_, _, _, _, _, _, _, _, _]) dX0_inWindow_1 (by decide) rfl ?_
  refine ab_iconst (v := nI 0) dX0_inWindow_3 (by decide) ?_
  refine ab_sti (ls' := [_, _, _, _, _, _, _, _, _]) dX0_inWindow_4 (by decide) rfl ?_
  exact lp_inWindow hB hD (bd_n n) 0 none none (by omega)
def bd_at (n hx hy : Nat) (x y : Int32) : Int32 := if bd_isc n x y = true then bd_v n hx hy x.toNatClampNeg y.toNatClampNeg else -9
set_option maxRecDepth 100000 in
set_option maxHeartbeats 4000000 in
theorem c_pieceAt {k b r n hx hy : Nat} {h : ab_H} {x y : Int32} (hk : 2 ≤ k) (hB : at_Board (ab_sh h) (ab_r h) r) (hD : bd_C n hx hy r h) : ab_M k b mX0_pieceAt [.ref r, .int x, .int y] h (ab_pi (fun v h' => h' = h ∧ v = bd_at n hx hy x y)) := by
  have hpw := bd_pow4 hD.n4
  refine ab_enter ?_
  refine ab_aload_n dX0_pieceAt_0 rfl ?_
  refine ab_iload_n dX0_pieceAt_1 rfl ?_
  refine ab_iload_n dX0_pieceAt_2 rfl ?_
  refine ab_callVb [_, _] dX0_pieceAt_3 ml_X0_55 mk_X0_has hB.1 (c_has (k := 1) (b := 0) (by omega) hB hD.f0 hD.n4) (fun t1 hh1 hq => ?_)
  obtain ⟨hhe, hte⟩ := hq
  rw [hhe]
  refine ab_bif_eq 23 dX0_pieceAt_6 (by decide) (fun c_6 => ?_) (fun c_6 => ?_)
  · skip
    refine ab_bipush (v := -9) dX0_pieceAt_23 (by decide) ?_
    refine ab_reti dX0_pieceAt_25 ?_
    exact ⟨rfl, by unfold bd_at; rw [if_neg (fun q => ab_tf q (hte.symm.trans c_6))]⟩
  · obtain ⟨X, Y, rfl, rfl, hX, hY, hX1, hY1⟩ := bd_isc_nat (hte.symm.trans c_6)
    refine ab_aload_n dX0_pieceAt_9 rfl ?_
    refine ab_getR dX0_pieceAt_10 fl_X0_11 hB.1 hB.2.1 ?_
    refine ab_iload_n dX0_pieceAt_13 rfl ?_
    refine ab_bipush (v := nI 16) dX0_pieceAt_14 (by decide) ?_
    refine ab_nmulR dX0_pieceAt_16 ?_
    refine ab_iload_n dX0_pieceAt_17 rfl ?_
    refine ab_naddR dX0_pieceAt_18 ?_
    refine ab_iald dX0_pieceAt_19 hB.2.2.1 rfl (by omega) (hD.cells hX hY) ?_
    refine ab_goto 25 dX0_pieceAt_20 (by decide) ?_
    refine ab_reti dX0_pieceAt_25 ?_
    exact ⟨rfl, by unfold bd_at; rw [if_pos (hte.symm.trans c_6), nI_clamp hX1, nI_clamp hY1]⟩
