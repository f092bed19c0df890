/-! ===== the model's board: counts ===== -/
set_option maxRecDepth 100000 in
set_option maxHeartbeats 4000000 in
theorem lp_mInWay {k b n hx hy w : Nat} {h : ab_H} (hM : at_M (ab_sh h) (ab_r h)) (hD : bd_Mo n hx hy h) (hw : w < 4) : ∀ (j i : Nat), i + j = bd_n n → ab_R k b mX12_inWay 4 [some (.ref 50), some (.int (nI w)), some (.int (nI (bd_num (fun i => (bd_P n hx hy i).1 = w) i))), some (.int (nI i))] [] h (ab_pn (fun v h' => h' = h ∧ v = bd_num (fun i => (bd_P n hx hy i).1 = w) (bd_n n))) := by
  intro j
  induction j with
  | zero =>
    intro i hi
    have hb85 := bd_n_le n hD.n4
    have hpw := bd_pow4 hD.n4
    have hpo := bd_pos n
    obtain rfl : i = bd_n n := by omega
    refine ab_iload_n dX12_inWay_4 rfl ?_
    refine ab_aload_n dX12_inWay_5 rfl ?_
    refine ab_getI dX12_inWay_6 fl_X12_133 hM.hs hD.f4 ?_
    refine ab_nicmp_ge 36 dX12_inWay_9 (by decide) (by omega) (by omega) (fun c_9 => ?_) (fun c_9 => ?_)
    · skip
      refine ab_iload_n dX12_inWay_36 rfl ?_
      refine ab_retn dX12_inWay_37 ?_
      exact ⟨rfl, rfl⟩
    · skip
      exact absurd (Nat.le_refl _) c_9
  | succ j ih =>
    intro i hi
    have hb85 := bd_n_le n hD.n4
    have hpw := bd_pow4 hD.n4
    have hpo := bd_pos n
    have hP := bd_P_in (hx := hx) (hy := hy) (show i < bd_n n by omega)
    refine ab_iload_n dX12_inWay_4 rfl ?_
    refine ab_aload_n dX12_inWay_5 rfl ?_
    refine ab_getI dX12_inWay_6 fl_X12_133 hM.hs hD.f4 ?_
    refine ab_nicmp_ge 36 dX12_inWay_9 (by decide) (by omega) (by omega) (fun c_9 => ?_) (fun c_9 => ?_)
    · skip
      exact absurd c_9 (by omega)
    · skip
      refine ab_iload_n dX12_inWay_12 rfl ?_
      refine ab_aload_n dX12_inWay_13 rfl ?_
      refine ab_getR dX12_inWay_14 fl_X12_36 hM.hs hM.p50_6 ?_
      refine ab_iload_n dX12_inWay_17 rfl ?_
      refine ab_iald dX12_inWay_18 hM.s53 rfl (by omega) (hD.way (by omega)) ?_
      refine ab_iload_n dX12_inWay_19 rfl ?_
      refine ab_nicmp_ne 27 dX12_inWay_20 (by decide) (by omega) (by omega) (fun c_20 => ?_) (fun c_20 => ?_)
      · skip
        refine ab_iconst (v := nI 0) dX12_inWay_27 (by decide) ?_
        refine ab_naddR dX12_inWay_28 ?_
        refine ab_topI (y := nI (bd_num (fun i => (bd_P n hx hy i).1 = w) (i + 1))) (by first | (exfalso; omega) | exact congrArg nI (bd_num_yes (P := (fun i => (bd_P n hx hy i).1 = w)) (c_20)).symm | exact congrArg nI (bd_num_no (P := (fun i => (bd_P n hx hy i).1 = w)) (c_20)).symm) ?_
        refine ab_sti_n (ls' := [_, _, _, _]) dX12_inWay_29 (by decide) rfl ?_
        refine ab_nincR (ls' := [_, _, _, _]) dX12_inWay_30 rfl rfl ?_
        refine ab_goto 4 dX12_inWay_33 (by decide) ?_
        exact ih (i + 1) (by omega)
      · skip
        refine ab_iconst (v := nI 1) dX12_inWay_23 (by decide) ?_
        refine ab_goto 28 dX12_inWay_24 (by decide) ?_
        refine ab_naddR dX12_inWay_28 ?_
        refine ab_topI (y := nI (bd_num (fun i => (bd_P n hx hy i).1 = w) (i + 1))) (by first | (exfalso; omega) | exact congrArg nI (bd_num_yes (P := (fun i => (bd_P n hx hy i).1 = w)) (c_20)).symm | exact congrArg nI (bd_num_no (P := (fun i => (bd_P n hx hy i).1 = w)) (c_20)).symm) ?_
        refine ab_sti_n (ls' := [_, _, _, _]) dX12_inWay_29 (by decide) rfl ?_
        refine ab_nincR (ls' := [_, _, _, _]) dX12_inWay_30 rfl rfl ?_
        refine ab_goto 4 dX12_inWay_33 (by decide) ?_
        exact ih (i + 1) (by omega)
set_option maxRecDepth 100000 in
set_option maxHeartbeats 4000000 in
theorem m_inWay {k b n hx hy w : Nat} {h : ab_H} (hM : at_M (ab_sh h) (ab_r h)) (hD : bd_Mo n hx hy h) (hw : w < 4) : ab_M k b mX12_inWay [.ref 50, .int (nI w)] h (ab_pn (fun v h' => h' = h ∧ v = bd_num (fun i => (bd_P n hx hy i).1 = w) (bd_n n))) := by
  refine ab_enter ?_
  refine ab_iconst (v := nI 0) dX12_inWay_0 (by decide) ?_
  refine ab_sti_n (ls' := [_, _, _, _]) dX12_inWay_1 (by decide) rfl ?_
  refine ab_iconst (v := nI 0) dX12_inWay_2 (by decide) ?_
  refine ab_sti_n (ls' := [_, _, _, _]) dX12_inWay_3 (by decide) rfl ?_
  exact lp_mInWay hM hD hw (bd_n n) 0 (by omega)
set_option maxRecDepth 100000 in
set_option maxHeartbeats 4000000 in
theorem lp_mTouching {k b n hx hy i : Nat} {h : ab_H} (hk : 4 ≤ k) (hM : at_M (ab_sh h) (ab_r h)) (hD : bd_Mo n hx hy h) (hi : i < bd_n n) : ∀ (j c : Nat), c + j = bd_n n → ab_R k b mX12_touching 4 [some (.ref 50), some (.int (nI i)), some (.int (nI (bd_num (fun c => c ≠ i ∧ bd_adj n hx hy i c) c))), some (.int (nI c))] [] h (ab_pn (fun v h' => h' = h ∧ v = bd_num (fun c => c ≠ i ∧ bd_adj n hx hy i c) (bd_n n))) := by
  intro j
  induction j with
  | zero =>
    intro c hc
    have hb85 := bd_n_le n hD.n4
    have hpw := bd_pow4 hD.n4
    have hpo := bd_pos n
    obtain rfl : c = bd_n n := by omega
    refine ab_iload_n dX12_touching_4 rfl ?_
    refine ab_aload_n dX12_touching_5 rfl ?_
    refine ab_getI dX12_touching_6 fl_X12_133 hM.hs hD.f4 ?_
    refine ab_nicmp_ge 40 dX12_touching_9 (by decide) (by omega) (by omega) (fun c_9 => ?_) (fun c_9 => ?_)
    · skip
      refine ab_iload_n dX12_touching_40 rfl ?_
      refine ab_retn dX12_touching_41 ?_
      exact ⟨rfl, rfl⟩
    · skip
      exact absurd (Nat.le_refl _) c_9
  | succ j ih =>
    intro c hc
    have hb85 := bd_n_le n hD.n4
    have hpw := bd_pow4 hD.n4
    have hpo := bd_pos n
    refine ab_iload_n dX12_touching_4 rfl ?_
    refine ab_aload_n dX12_touching_5 rfl ?_
    refine ab_getI dX12_touching_6 fl_X12_133 hM.hs hD.f4 ?_
    refine ab_nicmp_ge 40 dX12_touching_9 (by decide) (by omega) (by omega) (fun c_9 => ?_) (fun c_9 => ?_)
    · skip
      exact absurd c_9 (by omega)
    · skip
      refine ab_iload_n dX12_touching_12 rfl ?_
      refine ab_iload_n dX12_touching_13 rfl ?_
      refine ab_iload_n dX12_touching_14 rfl ?_
      refine ab_nicmp_eq 31 dX12_touching_15 (by decide) (by omega) (by omega) (fun c_15 => ?_) (fun c_15 => ?_)
      · skip
        refine ab_iconst (v := nI 0) dX12_touching_31 (by decide) ?_
        refine ab_naddR dX12_touching_32 ?_
        refine ab_topI (y := nI (bd_num (fun c => c ≠ i ∧ bd_adj n hx hy i c) (c + 1))) (by first | exact congrArg nI (bd_num_no (P := (fun c => c ≠ i ∧ bd_adj n hx hy i c)) (fun q => q.1 c_15)).symm | exact congrArg nI (bd_num_no (P := (fun c => c ≠ i ∧ bd_adj n hx hy i c)) (fun q => ab_tf (hte.mpr q.2) c_24)).symm | exact congrArg nI (bd_num_yes (P := (fun c => c ≠ i ∧ bd_adj n hx hy i c)) ⟨c_15, hte.mp c_24⟩).symm) ?_
        refine ab_sti_n (ls' := [_, _, _, _]) dX12_touching_33 (by decide) rfl ?_
        refine ab_nincR (ls' := [_, _, _, _]) dX12_touching_34 rfl rfl ?_
        refine ab_goto 4 dX12_touching_37 (by decide) ?_
        exact ih (c + 1) (by omega)
      · skip
        refine ab_aload_n dX12_touching_18 rfl ?_
        refine ab_iload_n dX12_touching_19 rfl ?_
        refine ab_iload_n dX12_touching_20 rfl ?_
        refine ab_callVb [_, _] dX12_touching_21 ml_X12_152 mk_X12_isTouching hM.hs (m_isTouching (k := 3) (b := 0) (by omega) hM hD) (fun t1 hh1 hq => ?_)
        obtain ⟨hhe, hte⟩ := hq
        rw [hhe]
        refine ab_bif_eq 31 dX12_touching_24 (by decide) (fun c_24 => ?_) (fun c_24 => ?_)
        · skip
          refine ab_iconst (v := nI 0) dX12_touching_31 (by decide) ?_
          refine ab_naddR dX12_touching_32 ?_
          refine ab_topI (y := nI (bd_num (fun c => c ≠ i ∧ bd_adj n hx hy i c) (c + 1))) (by first | exact congrArg nI (bd_num_no (P := (fun c => c ≠ i ∧ bd_adj n hx hy i c)) (fun q => q.1 c_15)).symm | exact congrArg nI (bd_num_no (P := (fun c => c ≠ i ∧ bd_adj n hx hy i c)) (fun q => ab_tf (hte.mpr q.2) c_24)).symm | exact congrArg nI (bd_num_yes (P := (fun c => c ≠ i ∧ bd_adj n hx hy i c)) ⟨c_15, hte.mp c_24⟩).symm) ?_
          refine ab_sti_n (ls' := [_, _, _, _]) dX12_touching_33 (by decide) rfl ?_
          refine ab_nincR (ls' := [_, _, _, _]) dX12_touching_34 rfl rfl ?_
          refine ab_goto 4 dX12_touching_37 (by decide) ?_
          exact ih (c + 1) (by omega)
        · skip
          refine ab_iconst (v := nI 1) dX12_touching_27 (by decide) ?_
          refine ab_goto 32 dX12_touching_28 (by decide) ?_
          refine ab_naddR dX12_touching_32 ?_
          refine ab_topI (y := nI (bd_num (fun c => c ≠ i ∧ bd_adj n hx hy i c) (c + 1))) (by first | exact congrArg nI (bd_num_no (P := (fun c => c ≠ i ∧ bd_adj n hx hy i c)) (fun q => q.1 c_15)).symm | exact congrArg nI (bd_num_no (P := (fun c => c ≠ i ∧ bd_adj n hx hy i c)) (fun q => ab_tf (hte.mpr q.2) c_24)).symm | exact congrArg nI (bd_num_yes (P := (fun c => c ≠ i ∧ bd_adj n hx hy i c)) ⟨c_15, hte.mp c_24⟩).symm) ?_
          refine ab_sti_n (ls' := [_, _, _, _]) dX12_touching_33 (by decide) rfl ?_
          refine ab_nincR (ls' := [_, _, _, _]) dX12_touching_34 rfl rfl ?_
          refine ab_goto 4 dX12_touching_37 (by decide) ?_
          exact ih (c + 1) (by omega)
set_option maxRecDepth 100000 in
set_option maxHeartbeats 4000000 in
theorem m_touching {k b n hx hy i : Nat} {h : ab_H} (hk : 4 ≤ k) (hM : at_M (ab_sh h) (ab_r h)) (hD : bd_Mo n hx hy h) (hi : i < bd_n n) : ab_M k b mX12_touching [.ref 50, .int (nI i)] h (ab_pn (fun v h' => h' = h ∧ v = bd_num (fun c => c ≠ i ∧ bd_adj n hx hy i c) (bd_n n))) := by
  refine ab_enter ?_
  refine ab_iconst (v := nI 0) dX12_touching_0 (by decide) ?_
  refine ab_sti_n (ls' := [_, _, _, _]) dX12_touching_1 (by decide) rfl ?_
  refine ab_iconst (v := nI 0) dX12_touching_2 (by decide) ?_
  refine ab_sti_n (ls' := [_, _, _, _]) dX12_touching_3 (by decide) rfl ?_
  exact lp_mTouching hk hM hD hi (bd_n n) 0 (by omega)
def bd_onAt (n hx hy i t : Nat) : Prop := bd_v n hx hy t 0 = nI i ∨ bd_v n hx hy t (2 ^ n - 1) = nI i ∨ bd_v n hx hy 0 t = nI i ∨ bd_v n hx hy (2 ^ n - 1) t = nI i
def bd_on (n hx hy i T : Nat) : Prop := ∃ t, t < T ∧ bd_onAt n hx hy i t
theorem bd_on_step {n hx hy i T : Nat} (h : bd_on n hx hy i T ∨ bd_onAt n hx hy i T) : bd_on n hx hy i (T + 1) := h.elim (fun ⟨t, a, b⟩ => ⟨t, by omega, b⟩) (fun b => ⟨T, by omega, b⟩)
theorem bd_on_not {n hx hy i T : Nat} (h : ¬ bd_on n hx hy i T) (h2 : ¬ bd_onAt n hx hy i T) : ¬ bd_on n hx hy i (T + 1) := fun ⟨t, a, b⟩ => by
  by_cases e : t = T
  · subst e; exact h2 b
  · exact h ⟨t, by omega, b⟩
/-- a piece has a cell at the border where it does not lie inside -/
theorem bd_on_inside {n hx hy i : Nat} (hn : n ≤ 4) (ax : hx < 2 ^ n) (ay : hy < 2 ^ n) (hi : i < bd_n n) : bd_on n hx hy i (2 ^ n) ↔ ¬ bd_inside n hx hy i := by
  have hpo := bd_pos n
  have hP := bd_P_in (hx := hx) (hy := hy) hi
  have hv : ∀ X Y, X < 2 ^ n → Y < 2 ^ n → (bd_v n hx hy X Y = nI i ↔ bd_own (bd_P n hx hy i) X Y) := fun X Y a b => bd_v_own hn ax ay a b hi
  have hin : ∀ q, q < 4 → q ≠ (bd_P n hx hy i).1 → bd_v n hx hy ((bd_P n hx hy i).2.2.1 + q % 2) ((bd_P n hx hy i).2.2.2 + q / 2) = nI i := fun q h1 h2 => (hv _ _ (by omega) (by omega)).mpr ⟨q, h1, h2, rfl, rfl⟩
  unfold bd_inside bd_win
  constructor
  · rintro ⟨t, ht, h | h | h | h⟩ ⟨a, b, c, d⟩
    · obtain ⟨q, hq4, -, e1, e2⟩ := (hv _ _ ht hpo).mp h; omega
    · obtain ⟨q, hq4, -, e1, e2⟩ := (hv _ _ ht (by omega)).mp h; omega
    · obtain ⟨q, hq4, -, e1, e2⟩ := (hv _ _ hpo ht).mp h; omega
    · obtain ⟨q, hq4, -, e1, e2⟩ := (hv _ _ (by omega) ht).mp h; omega
  · intro h
    generalize hl : (bd_P n hx hy i).2.2.1 = l at *
    generalize htt : (bd_P n hx hy i).2.2.2 = t at *
    generalize hw : (bd_P n hx hy i).1 = w at *
    have h2 : l = 0 ∨ l + 2 = 2 ^ n ∨ t = 0 ∨ t + 2 = 2 ^ n := by omega
    rcases h2 with rfl | h2 | rfl | h2
    · by_cases e : w = 0
      · exact ⟨t + 1, by omega, Or.inr (Or.inr (Or.inl (hin 2 (by decide) (by omega))))⟩
      · exact ⟨t, by omega, Or.inr (Or.inr (Or.inl (hin 0 (by decide) (by omega))))⟩
    · have e1 : l + 1 = 2 ^ n - 1 := by omega
      by_cases e : w = 1
      · have := hin 3 (by decide) (by omega); rw [show l + 3 % 2 = 2 ^ n - 1 from e1] at this
        exact ⟨t + 1, by omega, Or.inr (Or.inr (Or.inr this))⟩
      · have := hin 1 (by decide) (by omega); rw [show l + 1 % 2 = 2 ^ n - 1 from e1] at this
        exact ⟨t, by omega, Or.inr (Or.inr (Or.inr this))⟩
    · by_cases e : w = 0
      · exact ⟨l + 1, by omega, Or.inl (hin 1 (by decide) (by omega))⟩
      · exact ⟨l, by omega, Or.inl (hin 0 (by decide) (by omega))⟩
    · have e1 : t + 1 = 2 ^ n - 1 := by omega
      by_cases e : w = 2
      · have := hin 3 (by decide) (by omega); rw [show t + 3 / 2 = 2 ^ n - 1 from e1] at this
        exact ⟨l + 1, by omega, Or.inr (Or.inl this)⟩
      · have := hin 2 (by decide) (by omega); rw [show t + 2 / 2 = 2 ^ n - 1 from e1] at this
        exact ⟨l, by omega, Or.inr (Or.inl this)⟩
theorem bd_num_not {P : Nat → Prop} : ∀ n, bd_num (fun i => ¬ P i) n = n - bd_num P n
  | 0 => rfl
  | n + 1 => by
    have h1 := bd_num_not (P := P) n
    have h2 := bd_num_le P n
    by_cases h : P n
    · rw [bd_num_yes h, bd_num_no (P := fun i => ¬ P i) (fun q => q h), h1]; omega
    · rw [bd_num_no h, bd_num_yes (P := fun i => ¬ P i) h, h1]; omega
theorem bd_edge {n hx hy : Nat} (hn : n ≤ 4) (ax : hx < 2 ^ n) (ay : hy < 2 ^ n) : bd_num (fun i => bd_on n hx hy i (2 ^ n)) (bd_n n) = bd_n n - bd_num (bd_inside n hx hy) (bd_n n) := by
  rw [← bd_num_not]
  exact bd_num_congr (fun i hi => bd_on_inside hn ax ay hi)
