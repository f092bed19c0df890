/-! ===== the class reads a text: where statements begin; digits ===== -/
theorem tx_fw_some {e : eS} : ∀ (j q w : Nat), tx_fw e j q = some w → w ≤ q + j := by
  intro j
  induction j with
  | zero =>
    intro q w h
    unfold tx_fw at h
    by_cases c : eL e q = 59
    · rw [if_pos c] at h; cases h
    · rw [if_neg c] at h; injection h with h; omega
  | succ j ih =>
    intro q w h
    unfold tx_fw at h
    by_cases c : eI e q
    · rw [if_pos c] at h; have := ih _ _ h; omega
    · rw [if_neg c] at h; injection h with h; omega
theorem tx_wr_some {e : eS} {p w : Nat} (h : tx_wr e p = some w) : w ≤ p + 9 := by
  unfold tx_wr at h
  by_cases c : eG (eL e p) = 0
  · rw [if_pos c] at h; injection h with h; omega
  · rw [if_neg c] at h; have := tx_fw_some _ _ _ h; have := eG_le (eL e p); omega
theorem tx_wr_0 {e : eS} (h : e.1 = 0) : tx_wr e 0 = some 0 := by
  have q : eL e 0 = 0 := if_neg (by omega)
  unfold tx_wr
  rw [q]
  exact if_pos (by decide)
theorem oW_9 {w : Nat} (hw : w < 2147483648) : nI w ≠ -9 := fun q => by
  have q := congrArg Int32.toInt q
  rw [nI_toInt hw] at q
  have q2 : (-9 : Int32).toInt = -9 := by decide
  omega
def eD (e : eS) (q : Nat) : Nat := eL e q - 48
def eT (e : eS) (q : Nat) : Nat := eD e q * 10 + eD e (q + 1)
def eF (e : eS) (q : Nat) : Nat := eT e q * 100 + eT e (q + 2)
theorem eD_lt {e : eS} {q : Nat} (h : eI e q) : eD e q < 10 := by have h1 := h.1; have h2 := h.2; unfold eD; omega
theorem eT_lt {e : eS} {q : Nat} (h : eI e q) (h1 : eI e (q + 1)) : eT e q < 100 := by have := eD_lt h; have := eD_lt h1; unfold eT; omega
theorem eF_lt {e : eS} {q : Nat} (h : eI e q) (h1 : eI e (q + 1)) (h2 : eI e (q + 2)) (h3 : eI e (q + 3)) : eF e q < 10000 := by have := eT_lt h h1; have := eT_lt h2 h3; unfold eF; omega
set_option maxRecDepth 100000 in
set_option maxHeartbeats 4000000 in
theorem lp_rd {k b : Nat} {h : ab_H} {e : eS} (hk : 2 ≤ k) (hL : at_Letters (ab_sh h) (ab_r h) 22) (hE : le_C e h) : ∀ (j t p : Nat) (h1 : ab_H), t + j = 11 → 6 * t ≤ p → p < e.1 → ab_fr [22, 23] h h1 → at_Letters (ab_sh h1) (ab_r h1) 22 → le_C e h1 → ab_i h1 22 1 = nI t → ab_R k b mX4_read 44 [some (.ref 22), some (.int (nI p)), some (.int (-9))] [] h1 (ab_pi (fun v h' => v = oW (tx_rd e (j + 1) p).2 ∧ ab_fr [22, 23] h h' ∧ le_C e h' ∧ (∀ i, i < t → ab_i h' 23 i = ab_i h1 23 i) ∧ ((tx_rd e (j + 1) p).2 = none → ab_i h' 22 1 = nI (t + (tx_rd e (j + 1) p).1) ∧ ∀ i, i < (tx_rd e (j + 1) p).1 → ab_i h' 23 (t + i) = nI (tx_p e i p)))) := by
  intro j
  induction j with
  | zero =>
    intro t p h1 ht hp hpm f hL1 hE1 e1
    have h72 := hE.1
    cases hw : tx_wr e p with
    | some w =>
      have hw9 := tx_wr_some hw
      have nx9 : tx_nx e p ≤ p + 10 := by (have := eG_le (eL e p); unfold tx_nx; omega)
      refine ab_aload_n dX4_read_44 rfl ?_
      refine ab_iload_n dX4_read_45 rfl ?_
      refine ab_callVi [_] dX4_read_46 ml_X4_26 mk_X4_firstWrongFrom hL1.1 (c_firstWrong (k := 1) (b := 0) (Nat.le_refl _) hL1 hE1 (by omega)) (fun x hh hq => ?_)
      obtain ⟨hx, hhe⟩ := hq
      rw [hhe]
      rw [hw] at hx
      have hx : x = nI w := hx
      rw [hx]
      refine ab_sti_n (ls' := [_, _, _]) dX4_read_49 (by decide) rfl ?_
      refine ab_aload_n dX4_read_50 rfl ?_
      refine ab_getR dX4_read_51 fl_X4_11 hL1.1 hL1.2.1 ?_
      refine ab_aload_n dX4_read_54 rfl ?_
      refine ab_getI dX4_read_55 fl_X4_23 hL1.1 e1 ?_
      refine ab_iload_n dX4_read_58 rfl ?_
      refine ab_iast dX4_read_59 hL1.2.2.1 rfl (by omega) ?_
      refine ab_aload_n dX4_read_60 rfl ?_
      refine ab_dup dX4_read_61 rfl ?_
      refine ab_getI dX4_read_62 fl_X4_23 hL1.1 (show _ = nI t by rw [ab_i_off (by decide)]; exact e1) ?_
      refine ab_iconst (v := nI 1) dX4_read_65 (by decide) ?_
      refine ab_naddR dX4_read_66 ?_
      refine ab_putI dX4_read_67 fl_X4_23 hL1.1 ?_
      obtain ⟨h2, eh⟩ : ∃ h2, h2 = ab_si (ab_si h1 23 t (nI p)) 22 1 (nI (t + 1)) := ⟨_, rfl⟩
      rw [← eh]
      have f2 : ab_fr [22, 23] h h2 := by rw [eh]; exact (f.si _ _ _ (by simp)).si _ _ _ (by simp)
      have hL2 : at_Letters (ab_sh h2) (ab_r h2) 22 := by rw [f2.2.1, f2.2.2.1]; exact hL
      have hE2 : le_C e h2 := by rw [eh]; exact ⟨hE1.1, hE1.2.1, by rw [ab_i_si_same, if_neg (by decide), ab_i_off (by decide)]; exact hE1.2.2.1, fun i hi => by rw [ab_i_off (by decide), ab_i_off (by decide)]; exact hE1.2.2.2 i hi⟩
      have s2 : ab_i h2 22 1 = nI (t + 1) := by rw [eh, ab_i_si_same, if_pos rfl]
      have r2 : ∀ i, ab_i h2 23 i = if i = t then nI p else ab_i h1 23 i := fun i => by rw [eh, ab_i_off (by decide), ab_i_si_same]
      refine ab_iload_n dX4_read_70 rfl ?_
      refine ab_aload_n dX4_read_71 rfl ?_
      refine ab_iload_n dX4_read_72 rfl ?_
      refine ab_callVn [_] dX4_read_73 ml_X4_30 mk_X4_letterAt hL2.1 (c_letterAt (k := 0) (b := 0) (q := p) hL2 hE2 (by omega)) (fun y hh hq => ?_)
      obtain ⟨hhe, rfl⟩ := hq
      rw [hhe]
      refine ab_callSn [_] dX4_read_76 ml_X4_34 mk_X4_digitsBehind (c_digitsBehind (k := 0) (b := 0) (eL_lt hE.2.1 p)) (fun z hh hq => ?_)
      obtain ⟨hhe, rfl⟩ := hq
      rw [hhe]
      refine ab_iconst (v := nI 2) dX4_read_79 (by decide) ?_
      refine ab_naddR dX4_read_80 ?_
      refine ab_naddR dX4_read_81 ?_
      rw [show p + (eG (eL e p) + 2) = tx_nx e p by unfold tx_nx; omega]
      refine ab_sti_n (ls' := [_, _, _]) dX4_read_82 (by decide) rfl ?_
      refine ab_goto 21 dX4_read_83 (by decide) ?_
      refine ab_iload_n dX4_read_21 rfl ?_
      refine ab_aload_n dX4_read_22 rfl ?_
      refine ab_getI dX4_read_23 fl_X4_19 hL2.1 hE2.2.2.1 ?_
      refine ab_nicmp_ge 86 dX4_read_26 (by decide) (by omega) (by omega) (fun c_26 => ?_) (fun c_26 => ?_)
      · skip
        refine ab_iload_n dX4_read_86 rfl ?_
        refine ab_reti dX4_read_87 ?_
        rw [tx_rd_some hw]
        exact ⟨rfl, f2, hE2, fun i hi => by rw [r2, if_neg (by omega)], fun q => absurd q (by simp)⟩
      · skip
        refine ab_iload_n dX4_read_29 rfl ?_
        refine ab_bipush (v := -9) dX4_read_30 (by decide) ?_
        refine ab_icmp_ne 86 dX4_read_32 (by decide) (fun c_32 => ?_) (fun c_32 => ?_)
        · skip
          refine ab_iload_n dX4_read_86 rfl ?_
          refine ab_reti dX4_read_87 ?_
          rw [tx_rd_some hw]
          exact ⟨rfl, f2, hE2, fun i hi => by rw [r2, if_neg (by omega)], fun q => absurd q (by simp)⟩
        · skip
          first | exact absurd c_32 (oW_9 (by omega)) | exact absurd (oW_9 (by omega)) c_32
    | none =>
      obtain ⟨n1, n2, n3, n4⟩ := tx_wr_none hw
      refine ab_aload_n dX4_read_44 rfl ?_
      refine ab_iload_n dX4_read_45 rfl ?_
      refine ab_callVi [_] dX4_read_46 ml_X4_26 mk_X4_firstWrongFrom hL1.1 (c_firstWrong (k := 1) (b := 0) (Nat.le_refl _) hL1 hE1 (by omega)) (fun x hh hq => ?_)
      obtain ⟨hx, hhe⟩ := hq
      rw [hhe]
      rw [hw] at hx
      have hx : x = -9 := hx
      rw [hx]
      refine ab_sti_n (ls' := [_, _, _]) dX4_read_49 (by decide) rfl ?_
      refine ab_aload_n dX4_read_50 rfl ?_
      refine ab_getR dX4_read_51 fl_X4_11 hL1.1 hL1.2.1 ?_
      refine ab_aload_n dX4_read_54 rfl ?_
      refine ab_getI dX4_read_55 fl_X4_23 hL1.1 e1 ?_
      refine ab_iload_n dX4_read_58 rfl ?_
      refine ab_iast dX4_read_59 hL1.2.2.1 rfl (by omega) ?_
      refine ab_aload_n dX4_read_60 rfl ?_
      refine ab_dup dX4_read_61 rfl ?_
      refine ab_getI dX4_read_62 fl_X4_23 hL1.1 (show _ = nI t by rw [ab_i_off (by decide)]; exact e1) ?_
      refine ab_iconst (v := nI 1) dX4_read_65 (by decide) ?_
      refine ab_naddR dX4_read_66 ?_
      refine ab_putI dX4_read_67 fl_X4_23 hL1.1 ?_
      obtain ⟨h2, eh⟩ : ∃ h2, h2 = ab_si (ab_si h1 23 t (nI p)) 22 1 (nI (t + 1)) := ⟨_, rfl⟩
      rw [← eh]
      have f2 : ab_fr [22, 23] h h2 := by rw [eh]; exact (f.si _ _ _ (by simp)).si _ _ _ (by simp)
      have hL2 : at_Letters (ab_sh h2) (ab_r h2) 22 := by rw [f2.2.1, f2.2.2.1]; exact hL
      have hE2 : le_C e h2 := by rw [eh]; exact ⟨hE1.1, hE1.2.1, by rw [ab_i_si_same, if_neg (by decide), ab_i_off (by decide)]; exact hE1.2.2.1, fun i hi => by rw [ab_i_off (by decide), ab_i_off (by decide)]; exact hE1.2.2.2 i hi⟩
      have s2 : ab_i h2 22 1 = nI (t + 1) := by rw [eh, ab_i_si_same, if_pos rfl]
      have r2 : ∀ i, ab_i h2 23 i = if i = t then nI p else ab_i h1 23 i := fun i => by rw [eh, ab_i_off (by decide), ab_i_si_same]
      refine ab_iload_n dX4_read_70 rfl ?_
      refine ab_aload_n dX4_read_71 rfl ?_
      refine ab_iload_n dX4_read_72 rfl ?_
      refine ab_callVn [_] dX4_read_73 ml_X4_30 mk_X4_letterAt hL2.1 (c_letterAt (k := 0) (b := 0) (q := p) hL2 hE2 (by omega)) (fun y hh hq => ?_)
      obtain ⟨hhe, rfl⟩ := hq
      rw [hhe]
      refine ab_callSn [_] dX4_read_76 ml_X4_34 mk_X4_digitsBehind (c_digitsBehind (k := 0) (b := 0) (eL_lt hE.2.1 p)) (fun z hh hq => ?_)
      obtain ⟨hhe, rfl⟩ := hq
      rw [hhe]
      refine ab_iconst (v := nI 2) dX4_read_79 (by decide) ?_
      refine ab_naddR dX4_read_80 ?_
      refine ab_naddR dX4_read_81 ?_
      rw [show p + (eG (eL e p) + 2) = tx_nx e p by unfold tx_nx; omega]
      refine ab_sti_n (ls' := [_, _, _]) dX4_read_82 (by decide) rfl ?_
      refine ab_goto 21 dX4_read_83 (by decide) ?_
      refine ab_iload_n dX4_read_21 rfl ?_
      refine ab_aload_n dX4_read_22 rfl ?_
      refine ab_getI dX4_read_23 fl_X4_19 hL2.1 hE2.2.2.1 ?_
      refine ab_nicmp_ge 86 dX4_read_26 (by decide) (by omega) (by omega) (fun c_26 => ?_) (fun c_26 => ?_)
      · skip
        refine ab_iload_n dX4_read_86 rfl ?_
        refine ab_reti dX4_read_87 ?_
        have c9 : ¬ tx_nx e p < e.1 := by omega
        rw [tx_rd_end hw c9]
        exact ⟨rfl, f2, hE2, fun i hi => by rw [r2, if_neg (by omega)], fun _ => ⟨s2, fun i hi => by have hi : i < 1 := hi; obtain rfl : i = 0 := (by omega); show _ = nI p; rw [r2, if_pos (Nat.add_zero t)]⟩⟩
      · skip
        refine ab_iload_n dX4_read_29 rfl ?_
        refine ab_bipush (v := -9) dX4_read_30 (by decide) ?_
        refine ab_icmp_ne 86 dX4_read_32 (by decide) (fun c_32 => ?_) (fun c_32 => ?_)
        · skip
          exact absurd rfl c_32
        · skip
          refine ab_aload_n dX4_read_35 rfl ?_
          refine ab_getI dX4_read_36 fl_X4_23 hL2.1 s2 ?_
          refine ab_bipush (v := nI 12) dX4_read_39 (by decide) ?_
          refine ab_nicmp_ge 86 dX4_read_41 (by decide) (by omega) (by omega) (fun c_41 => ?_) (fun c_41 => ?_)
          · skip
            exact absurd c_41 (by omega)
          · skip
            exact absurd hp (by omega)
  | succ j ih =>
    intro t p h1 ht hp hpm f hL1 hE1 e1
    have h72 := hE.1
    cases hw : tx_wr e p with
    | some w =>
      have hw9 := tx_wr_some hw
      have nx9 : tx_nx e p ≤ p + 10 := by (have := eG_le (eL e p); unfold tx_nx; omega)
      refine ab_aload_n dX4_read_44 rfl ?_
      refine ab_iload_n dX4_read_45 rfl ?_
      refine ab_callVi [_] dX4_read_46 ml_X4_26 mk_X4_firstWrongFrom hL1.1 (c_firstWrong (k := 1) (b := 0) (Nat.le_refl _) hL1 hE1 (by omega)) (fun x hh hq => ?_)
      obtain ⟨hx, hhe⟩ := hq
      rw [hhe]
      rw [hw] at hx
      have hx : x = nI w := hx
      rw [hx]
      refine ab_sti_n (ls' := [_, _, _]) dX4_read_49 (by decide) rfl ?_
      refine ab_aload_n dX4_read_50 rfl ?_
      refine ab_getR dX4_read_51 fl_X4_11 hL1.1 hL1.2.1 ?_
      refine ab_aload_n dX4_read_54 rfl ?_
      refine ab_getI dX4_read_55 fl_X4_23 hL1.1 e1 ?_
      refine ab_iload_n dX4_read_58 rfl ?_
      refine ab_iast dX4_read_59 hL1.2.2.1 rfl (by omega) ?_
      refine ab_aload_n dX4_read_60 rfl ?_
      refine ab_dup dX4_read_61 rfl ?_
      refine ab_getI dX4_read_62 fl_X4_23 hL1.1 (show _ = nI t by rw [ab_i_off (by decide)]; exact e1) ?_
      refine ab_iconst (v := nI 1) dX4_read_65 (by decide) ?_
      refine ab_naddR dX4_read_66 ?_
      refine ab_putI dX4_read_67 fl_X4_23 hL1.1 ?_
      obtain ⟨h2, eh⟩ : ∃ h2, h2 = ab_si (ab_si h1 23 t (nI p)) 22 1 (nI (t + 1)) := ⟨_, rfl⟩
      rw [← eh]
      have f2 : ab_fr [22, 23] h h2 := by rw [eh]; exact (f.si _ _ _ (by simp)).si _ _ _ (by simp)
      have hL2 : at_Letters (ab_sh h2) (ab_r h2) 22 := by rw [f2.2.1, f2.2.2.1]; exact hL
      have hE2 : le_C e h2 := by rw [eh]; exact ⟨hE1.1, hE1.2.1, by rw [ab_i_si_same, if_neg (by decide), ab_i_off (by decide)]; exact hE1.2.2.1, fun i hi => by rw [ab_i_off (by decide), ab_i_off (by decide)]; exact hE1.2.2.2 i hi⟩
      have s2 : ab_i h2 22 1 = nI (t + 1) := by rw [eh, ab_i_si_same, if_pos rfl]
      have r2 : ∀ i, ab_i h2 23 i = if i = t then nI p else ab_i h1 23 i := fun i => by rw [eh, ab_i_off (by decide), ab_i_si_same]
      refine ab_iload_n dX4_read_70 rfl ?_
      refine ab_aload_n dX4_read_71 rfl ?_
      refine ab_iload_n dX4_read_72 rfl ?_
      refine ab_callVn [_] dX4_read_73 ml_X4_30 mk_X4_letterAt hL2.1 (c_letterAt (k := 0) (b := 0) (q := p) hL2 hE2 (by omega)) (fun y hh hq => ?_)
      obtain ⟨hhe, rfl⟩ := hq
      rw [hhe]
      refine ab_callSn [_] dX4_read_76 ml_X4_34 mk_X4_digitsBehind (c_digitsBehind (k := 0) (b := 0) (eL_lt hE.2.1 p)) (fun z hh hq => ?_)
      obtain ⟨hhe, rfl⟩ := hq
      rw [hhe]
      refine ab_iconst (v := nI 2) dX4_read_79 (by decide) ?_
      refine ab_naddR dX4_read_80 ?_
      refine ab_naddR dX4_read_81 ?_
      rw [show p + (eG (eL e p) + 2) = tx_nx e p by unfold tx_nx; omega]
      refine ab_sti_n (ls' := [_, _, _]) dX4_read_82 (by decide) rfl ?_
      refine ab_goto 21 dX4_read_83 (by decide) ?_
      refine ab_iload_n dX4_read_21 rfl ?_
      refine ab_aload_n dX4_read_22 rfl ?_
      refine ab_getI dX4_read_23 fl_X4_19 hL2.1 hE2.2.2.1 ?_
      refine ab_nicmp_ge 86 dX4_read_26 (by decide) (by omega) (by omega) (fun c_26 => ?_) (fun c_26 => ?_)
      · skip
        refine ab_iload_n dX4_read_86 rfl ?_
        refine ab_reti dX4_read_87 ?_
        rw [tx_rd_some hw]
        exact ⟨rfl, f2, hE2, fun i hi => by rw [r2, if_neg (by omega)], fun q => absurd q (by simp)⟩
      · skip
        refine ab_iload_n dX4_read_29 rfl ?_
        refine ab_bipush (v := -9) dX4_read_30 (by decide) ?_
        refine ab_icmp_ne 86 dX4_read_32 (by decide) (fun c_32 => ?_) (fun c_32 => ?_)
        · skip
          refine ab_iload_n dX4_read_86 rfl ?_
          refine ab_reti dX4_read_87 ?_
          rw [tx_rd_some hw]
          exact ⟨rfl, f2, hE2, fun i hi => by rw [r2, if_neg (by omega)], fun q => absurd q (by simp)⟩
        · skip
          first | exact absurd c_32 (oW_9 (by omega)) | exact absurd (oW_9 (by omega)) c_32
    | none =>
      obtain ⟨n1, n2, n3, n4⟩ := tx_wr_none hw
      refine ab_aload_n dX4_read_44 rfl ?_
      refine ab_iload_n dX4_read_45 rfl ?_
      refine ab_callVi [_] dX4_read_46 ml_X4_26 mk_X4_firstWrongFrom hL1.1 (c_firstWrong (k := 1) (b := 0) (Nat.le_refl _) hL1 hE1 (by omega)) (fun x hh hq => ?_)
      obtain ⟨hx, hhe⟩ := hq
      rw [hhe]
      rw [hw] at hx
      have hx : x = -9 := hx
      rw [hx]
      refine ab_sti_n (ls' := [_, _, _]) dX4_read_49 (by decide) rfl ?_
      refine ab_aload_n dX4_read_50 rfl ?_
      refine ab_getR dX4_read_51 fl_X4_11 hL1.1 hL1.2.1 ?_
      refine ab_aload_n dX4_read_54 rfl ?_
      refine ab_getI dX4_read_55 fl_X4_23 hL1.1 e1 ?_
      refine ab_iload_n dX4_read_58 rfl ?_
      refine ab_iast dX4_read_59 hL1.2.2.1 rfl (by omega) ?_
      refine ab_aload_n dX4_read_60 rfl ?_
      refine ab_dup dX4_read_61 rfl ?_
      refine ab_getI dX4_read_62 fl_X4_23 hL1.1 (show _ = nI t by rw [ab_i_off (by decide)]; exact e1) ?_
      refine ab_iconst (v := nI 1) dX4_read_65 (by decide) ?_
      refine ab_naddR dX4_read_66 ?_
      refine ab_putI dX4_read_67 fl_X4_23 hL1.1 ?_
      obtain ⟨h2, eh⟩ : ∃ h2, h2 = ab_si (ab_si h1 23 t (nI p)) 22 1 (nI (t + 1)) := ⟨_, rfl⟩
      rw [← eh]
      have f2 : ab_fr [22, 23] h h2 := by rw [eh]; exact (f.si _ _ _ (by simp)).si _ _ _ (by simp)
      have hL2 : at_Letters (ab_sh h2) (ab_r h2) 22 := by rw [f2.2.1, f2.2.2.1]; exact hL
      have hE2 : le_C e h2 := by rw [eh]; exact ⟨hE1.1, hE1.2.1, by rw [ab_i_si_same, if_neg (by decide), ab_i_off (by decide)]; exact hE1.2.2.1, fun i hi => by rw [ab_i_off (by decide), ab_i_off (by decide)]; exact hE1.2.2.2 i hi⟩
      have s2 : ab_i h2 22 1 = nI (t + 1) := by rw [eh, ab_i_si_same, if_pos rfl]
      have r2 : ∀ i, ab_i h2 23 i = if i = t then nI p else ab_i h1 23 i := fun i => by rw [eh, ab_i_off (by decide), ab_i_si_same]
      refine ab_iload_n dX4_read_70 rfl ?_
      refine ab_aload_n dX4_read_71 rfl ?_
      refine ab_iload_n dX4_read_72 rfl ?_
      refine ab_callVn [_] dX4_read_73 ml_X4_30 mk_X4_letterAt hL2.1 (c_letterAt (k := 0) (b := 0) (q := p) hL2 hE2 (by omega)) (fun y hh hq => ?_)
      obtain ⟨hhe, rfl⟩ := hq
      rw [hhe]
      refine ab_callSn [_] dX4_read_76 ml_X4_34 mk_X4_digitsBehind (c_digitsBehind (k := 0) (b := 0) (eL_lt hE.2.1 p)) (fun z hh hq => ?_)
      obtain ⟨hhe, rfl⟩ := hq
      rw [hhe]
      refine ab_iconst (v := nI 2) dX4_read_79 (by decide) ?_
      refine ab_naddR dX4_read_80 ?_
      refine ab_naddR dX4_read_81 ?_
      rw [show p + (eG (eL e p) + 2) = tx_nx e p by unfold tx_nx; omega]
      refine ab_sti_n (ls' := [_, _, _]) dX4_read_82 (by decide) rfl ?_
      refine ab_goto 21 dX4_read_83 (by decide) ?_
      refine ab_iload_n dX4_read_21 rfl ?_
      refine ab_aload_n dX4_read_22 rfl ?_
      refine ab_getI dX4_read_23 fl_X4_19 hL2.1 hE2.2.2.1 ?_
      refine ab_nicmp_ge 86 dX4_read_26 (by decide) (by omega) (by omega) (fun c_26 => ?_) (fun c_26 => ?_)
      · skip
        refine ab_iload_n dX4_read_86 rfl ?_
        refine ab_reti dX4_read_87 ?_
        have c9 : ¬ tx_nx e p < e.1 := by omega
        rw [tx_rd_end hw c9]
        exact ⟨rfl, f2, hE2, fun i hi => by rw [r2, if_neg (by omega)], fun _ => ⟨s2, fun i hi => by have hi : i < 1 := hi; obtain rfl : i = 0 := (by omega); show _ = nI p; rw [r2, if_pos (Nat.add_zero t)]⟩⟩
      · skip
        refine ab_iload_n dX4_read_29 rfl ?_
        refine ab_bipush (v := -9) dX4_read_30 (by decide) ?_
        refine ab_icmp_ne 86 dX4_read_32 (by decide) (fun c_32 => ?_) (fun c_32 => ?_)
        · skip
          exact absurd rfl c_32
        · skip
          refine ab_aload_n dX4_read_35 rfl ?_
          refine ab_getI dX4_read_36 fl_X4_23 hL2.1 s2 ?_
          refine ab_bipush (v := nI 12) dX4_read_39 (by decide) ?_
          refine ab_nicmp_ge 86 dX4_read_41 (by decide) (by omega) (by omega) (fun c_41 => ?_) (fun c_41 => ?_)
          · skip
            exact absurd c_41 (by omega)
          · skip
            have c9 : tx_nx e p < e.1 := by omega
            rw [tx_rd_go hw c9]
            refine ab_mono ?_ (ih (t + 1) (tx_nx e p) h2 (by omega) (by omega) c9 f2 hL2 hE2 s2)
            rintro v h9 ⟨x9, hx9, g1, g2, g3, g4, g5⟩
            refine ⟨x9, hx9, g1, g2, g3, fun i hi => by rw [g4 i (by omega), r2, if_neg (by omega)], fun q => ?_⟩
            obtain ⟨g6, g7⟩ := g5 q
            refine ⟨by rw [g6]; congr 1; omega, fun i hi => ?_⟩
            cases i with
            | zero => show _ = nI p; rw [Nat.add_zero, g4 t (by omega), r2, if_pos rfl]
            | succ i => rw [show t + (i + 1) = t + 1 + i by omega]; exact g7 i (Nat.lt_of_succ_lt_succ hi)
set_option maxRecDepth 100000 in
set_option maxHeartbeats 4000000 in
theorem c_read {k b : Nat} {h : ab_H} {e : eS} (hk : 2 ≤ k) (hL : at_Letters (ab_sh h) (ab_r h) 22) (hE : le_C e h) : ab_M k b mX4_read [.ref 22] h (ab_pi (fun v h' => v = oW (tx_rd e 12 0).2 ∧ ab_fr [22, 23] h h' ∧ le_C e h' ∧ ((tx_rd e 12 0).2 = none → ab_i h' 22 1 = nI (tx_rd e 12 0).1 ∧ ∀ i, i < (tx_rd e 12 0).1 → ab_i h' 23 i = nI (tx_p e i 0)))) := by
  have h72 := hE.1
  by_cases e0 : e.1 = 0
  · refine ab_enter ?_
    refine ab_iconst (v := nI 0) dX4_read_0 (by decide) ?_
    refine ab_sti_n (ls' := [_, _, _]) dX4_read_1 (by decide) rfl ?_
    refine ab_aload_n dX4_read_2 rfl ?_
    refine ab_getI dX4_read_3 fl_X4_19 hL.1 hE.2.2.1 ?_
    refine ab_nif_ne 13 dX4_read_6 (by decide) (by omega) (fun c_6 => ?_) (fun c_6 => ?_)
    · skip
      exact absurd e0 c_6
    · skip
      refine ab_iconst (v := nI 0) dX4_read_9 (by decide) ?_
      refine ab_goto 15 dX4_read_10 (by decide) ?_
      refine ab_sti_n (ls' := [_, _, _]) dX4_read_15 (by decide) rfl ?_
      refine ab_aload_n dX4_read_16 rfl ?_
      refine ab_iconst (v := nI 0) dX4_read_17 (by decide) ?_
      refine ab_putI dX4_read_18 fl_X4_23 hL.1 ?_
      have f1 : ab_fr [22, 23] h (ab_si h 22 1 (nI 0)) := (ab_fr.rf h).si _ _ _ (by simp)
      have hE1 : le_C e (ab_si h 22 1 (nI 0)) := ⟨hE.1, hE.2.1, show ab_i (ab_si h 22 1 (nI 0)) 22 0 = nI e.1 by rw [ab_i_si_same, if_neg (by decide)]; exact hE.2.2.1, fun i hi => by rw [ab_i_off (by decide)]; exact hE.2.2.2 i hi⟩
      refine ab_iload_n dX4_read_21 rfl ?_
      refine ab_aload_n dX4_read_22 rfl ?_
      refine ab_getI dX4_read_23 fl_X4_19 hL.1 (show ab_i (ab_si h 22 1 (nI 0)) 22 0 = nI e.1 by rw [ab_i_si_same, if_neg (by decide)]; exact hE.2.2.1) ?_
      refine ab_nicmp_ge 86 dX4_read_26 (by decide) (by omega) (by omega) (fun c_26 => ?_) (fun c_26 => ?_)
      · skip
        refine ab_iload_n dX4_read_86 rfl ?_
        refine ab_reti dX4_read_87 ?_
        rw [tx_rd_some (tx_wr_0 e0)]
        exact ⟨rfl, f1, hE1, fun q => absurd q (by simp)⟩
      · skip
        exact absurd (by omega) c_26
  · refine ab_enter ?_
    refine ab_iconst (v := nI 0) dX4_read_0 (by decide) ?_
    refine ab_sti_n (ls' := [_, _, _]) dX4_read_1 (by decide) rfl ?_
    refine ab_aload_n dX4_read_2 rfl ?_
    refine ab_getI dX4_read_3 fl_X4_19 hL.1 hE.2.2.1 ?_
    refine ab_nif_ne 13 dX4_read_6 (by decide) (by omega) (fun c_6 => ?_) (fun c_6 => ?_)
    · skip
      refine ab_bipush (v := -9) dX4_read_13 (by decide) ?_
      refine ab_sti_n (ls' := [_, _, _]) dX4_read_15 (by decide) rfl ?_
      refine ab_aload_n dX4_read_16 rfl ?_
      refine ab_iconst (v := nI 0) dX4_read_17 (by decide) ?_
      refine ab_putI dX4_read_18 fl_X4_23 hL.1 ?_
      have f1 : ab_fr [22, 23] h (ab_si h 22 1 (nI 0)) := (ab_fr.rf h).si _ _ _ (by simp)
      have hE1 : le_C e (ab_si h 22 1 (nI 0)) := ⟨hE.1, hE.2.1, show ab_i (ab_si h 22 1 (nI 0)) 22 0 = nI e.1 by rw [ab_i_si_same, if_neg (by decide)]; exact hE.2.2.1, fun i hi => by rw [ab_i_off (by decide)]; exact hE.2.2.2 i hi⟩
      refine ab_iload_n dX4_read_21 rfl ?_
      refine ab_aload_n dX4_read_22 rfl ?_
      refine ab_getI dX4_read_23 fl_X4_19 hL.1 (show ab_i (ab_si h 22 1 (nI 0)) 22 0 = nI e.1 by rw [ab_i_si_same, if_neg (by decide)]; exact hE.2.2.1) ?_
      refine ab_nicmp_ge 86 dX4_read_26 (by decide) (by omega) (by omega) (fun c_26 => ?_) (fun c_26 => ?_)
      · skip
        exact absurd c_26 (by omega)
      · skip
        refine ab_iload_n dX4_read_29 rfl ?_
        refine ab_bipush (v := -9) dX4_read_30 (by decide) ?_
        refine ab_icmp_ne 86 dX4_read_32 (by decide) (fun c_32 => ?_) (fun c_32 => ?_)
        · skip
          exact absurd rfl c_32
        · skip
          refine ab_aload_n dX4_read_35 rfl ?_
          refine ab_getI dX4_read_36 fl_X4_23 hL.1 (show _ = nI 0 by rw [ab_i_si_same, if_pos rfl]) ?_
          refine ab_bipush (v := nI 12) dX4_read_39 (by decide) ?_
          refine ab_nicmp_ge 86 dX4_read_41 (by decide) (by omega) (by omega) (fun c_41 => ?_) (fun c_41 => ?_)
          · skip
            exact absurd c_41 (by omega)
          · skip
            refine ab_mono ?_ (lp_rd hk hL hE 11 0 0 (ab_si h 22 1 (nI 0)) rfl (by omega) (by omega) f1 hL hE1 (by rw [ab_i_si_same, if_pos rfl]))
            rintro v h9 ⟨x9, hx9, g1, g2, g3, _, g5⟩
            refine ⟨x9, hx9, g1, g2, g3, fun q => ?_⟩
            obtain ⟨g6, g7⟩ := g5 q
            exact ⟨by rw [g6, Nat.zero_add], fun i hi => by have := g7 i hi; rw [Nat.zero_add] at this; exact this⟩
    · skip
      first | exact absurd c_6 e0 | exact e0 (by omega)
set_option maxRecDepth 100000 in
set_option maxHeartbeats 4000000 in
theorem c_digit {k b q : Nat} {h : ab_H} {e : eS} (hk : 1 ≤ k) (hL : at_Letters (ab_sh h) (ab_r h) 22) (hE : le_C e h) (hq : q < 2147400009) (hI : eI e q) : ab_M k b mX4_digit [.ref 22, .int (nI q)] h (ab_pn (fun v h' => h' = h ∧ v = eD e q)) := by
  have hI1 := hI.1
  have hq0 := hq
  refine ab_enter ?_
  refine ab_aload_n dX4_digit_0 rfl ?_
  refine ab_iload_n dX4_digit_1 rfl ?_
  refine ab_callVn [_] dX4_digit_2 ml_X4_30 mk_X4_letterAt hL.1 (c_letterAt (k := 0) (b := 0) (q := q) hL hE (by omega)) (fun x hh hq => ?_)
  obtain ⟨hhe, rfl⟩ := hq
  rw [hhe]
  refine ab_bipush (v := nI 48) dX4_digit_5 (by decide) ?_
  refine ab_nsubR dX4_digit_7 (by omega) ?_
  refine ab_retn dX4_digit_8 ?_
  exact ⟨rfl, rfl⟩
set_option maxRecDepth 100000 in
set_option maxHeartbeats 4000000 in
theorem c_twoDigits {k b q : Nat} {h : ab_H} {e : eS} (hk : 2 ≤ k) (hL : at_Letters (ab_sh h) (ab_r h) 22) (hE : le_C e h) (hq : q < 2147400005) (hI : eI e q) (hJ : eI e (q + 1)) : ab_M k b mX4_twoDigits [.ref 22, .int (nI q)] h (ab_pn (fun v h' => h' = h ∧ v = eT e q)) := by
  have hq0 := hq
  refine ab_enter ?_
  refine ab_aload_n dX4_twoDigits_0 rfl ?_
  refine ab_iload_n dX4_twoDigits_1 rfl ?_
  refine ab_callVn [_] dX4_twoDigits_2 ml_X4_38 mk_X4_digit hL.1 (c_digit (k := 1) (b := 0) (q := q) (Nat.le_refl _) hL hE (by omega) hI) (fun x hh hq => ?_)
  obtain ⟨hhe, rfl⟩ := hq
  rw [hhe]
  refine ab_bipush (v := nI 10) dX4_twoDigits_5 (by decide) ?_
  refine ab_nmulR dX4_twoDigits_7 ?_
  refine ab_aload_n dX4_twoDigits_8 rfl ?_
  refine ab_iload_n dX4_twoDigits_9 rfl ?_
  refine ab_iconst (v := nI 1) dX4_twoDigits_10 (by decide) ?_
  refine ab_naddR dX4_twoDigits_11 ?_
  refine ab_callVn [_] dX4_twoDigits_12 ml_X4_38 mk_X4_digit hL.1 (c_digit (k := 1) (b := 0) (q := q + 1) (Nat.le_refl _) hL hE (by omega) hJ) (fun x hh hq => ?_)
  obtain ⟨hhe, rfl⟩ := hq
  rw [hhe]
  refine ab_naddR dX4_twoDigits_15 ?_
  refine ab_retn dX4_twoDigits_16 ?_
  exact ⟨rfl, rfl⟩
set_option maxRecDepth 100000 in
set_option maxHeartbeats 4000000 in
theorem c_fourDigits {k b q : Nat} {h : ab_H} {e : eS} (hk : 3 ≤ k) (hL : at_Letters (ab_sh h) (ab_r h) 22) (hE : le_C e h) (hq : q < 2147400000) (h0 : eI e q) (h1 : eI e (q + 1)) (h2 : eI e (q + 2)) (h3 : eI e (q + 3)) : ab_M k b mX4_fourDigits [.ref 22, .int (nI q)] h (ab_pn (fun v h' => h' = h ∧ v = eF e q)) := by
  have hq0 := hq
  refine ab_enter ?_
  refine ab_aload_n dX4_fourDigits_0 rfl ?_
  refine ab_iload_n dX4_fourDigits_1 rfl ?_
  refine ab_callVn [_] dX4_fourDigits_2 ml_X4_41 mk_X4_twoDigits hL.1 (c_twoDigits (k := 2) (b := 0) (q := q) (Nat.le_refl _) hL hE (by omega) h0 h1) (fun x hh hq => ?_)
  obtain ⟨hhe, rfl⟩ := hq
  rw [hhe]
  refine ab_bipush (v := nI 100) dX4_fourDigits_5 (by decide) ?_
  refine ab_nmulR dX4_fourDigits_7 ?_
  refine ab_aload_n dX4_fourDigits_8 rfl ?_
  refine ab_iload_n dX4_fourDigits_9 rfl ?_
  refine ab_iconst (v := nI 2) dX4_fourDigits_10 (by decide) ?_
  refine ab_naddR dX4_fourDigits_11 ?_
  refine ab_callVn [_] dX4_fourDigits_12 ml_X4_41 mk_X4_twoDigits hL.1 (c_twoDigits (k := 2) (b := 0) (q := q + 2) (Nat.le_refl _) hL hE (by omega) h2 h3) (fun x hh hq => ?_)
  obtain ⟨hhe, rfl⟩ := hq
  rw [hhe]
  refine ab_naddR dX4_fourDigits_15 ?_
  refine ab_retn dX4_fourDigits_16 ?_
  exact ⟨rfl, rfl⟩
