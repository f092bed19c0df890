/-! ===== the class's Board: cutting ===== -/
def bd_cut (n x y mx my p r : Nat) (h h' : ab_H) : Prop := ab_fr [r, r + 1, r + 2, r + 3, r + 4, r + 5] h h' ∧ (∀ j, j ≠ 3 → ab_i h' r j = ab_i h r j) ∧ ab_i h' r 3 = nI (p + bd_n n) ∧ bd_cellsTo n x y mx my p (ab_i h (r + 1)) (ab_i h' (r + 1)) ∧ bd_rowTo (fun P => P.1) n x y mx my p (ab_i h (r + 2)) (ab_i h' (r + 2)) ∧ bd_rowTo (fun P => P.2.1) n x y mx my p (ab_i h (r + 3)) (ab_i h' (r + 3)) ∧ bd_rowTo (fun P => P.2.2.1) n x y mx my p (ab_i h (r + 4)) (ab_i h' (r + 4)) ∧ bd_rowTo (fun P => P.2.2.2) n x y mx my p (ab_i h (r + 5)) (ab_i h' (r + 5))
def bd_cutI (n x y mx my p q r : Nat) (h h' : ab_H) : Prop := ab_fr [r, r + 1, r + 2, r + 3, r + 4, r + 5] h h' ∧ (∀ j, j ≠ 3 → ab_i h' r j = ab_i h r j) ∧ ab_i h' r 3 = nI (p + 1 + q * bd_n n) ∧ bd_cellsI n x y mx my p q (ab_i h (r + 1)) (ab_i h' (r + 1)) ∧ bd_rowI (fun P => P.1) n x y mx my p q (ab_i h (r + 2)) (ab_i h' (r + 2)) ∧ bd_rowI (fun P => P.2.1) n x y mx my p q (ab_i h (r + 3)) (ab_i h' (r + 3)) ∧ bd_rowI (fun P => P.2.2.1) n x y mx my p q (ab_i h (r + 4)) (ab_i h' (r + 4)) ∧ bd_rowI (fun P => P.2.2.2) n x y mx my p q (ab_i h (r + 5)) (ab_i h' (r + 5))
theorem bd_cut_0 {x y mx my p r : Nat} {h : ab_H} (hm : bd_in (2 ^ 0) x y mx my) (hP : ab_i h r 3 = nI p) : bd_cut 0 x y mx my p r h h := by
  refine ⟨ab_fr.rf h, fun _ _ => rfl, hP, ⟨fun X Y _ _ hb hne => ?_, fun _ _ _ _ _ => rfl⟩, ⟨fun i hi => absurd hi (Nat.not_lt_zero i), fun _ _ => rfl⟩, ⟨fun i hi => absurd hi (Nat.not_lt_zero i), fun _ _ => rfl⟩, ⟨fun i hi => absurd hi (Nat.not_lt_zero i), fun _ _ => rfl⟩, ⟨fun i hi => absurd hi (Nat.not_lt_zero i), fun _ _ => rfl⟩⟩
  unfold bd_in at hm hb
  simp at hm hb
  omega
theorem bd_cutI_0 {n x y mx my p r : Nat} {h h2 : ab_H} (hm : bd_in (2 * 2 ^ n) x y mx my) (H : bd_lay r (bd_q (2 ^ n) x y mx my) (2 * 2 ^ n) (x + 2 ^ n - 1) (y + 2 ^ n - 1) p 4 h h2) : bd_cutI n x y mx my p 0 r h (ab_si h2 r 3 (nI (p + 1))) := by
  obtain ⟨f, a0, a1, a2, a3, a4, a5, a6⟩ := H
  refine ⟨f.si _ _ _ (by simp), fun j hj => ?_, ?_, ?_, ?_, ?_, ?_, ?_⟩
  · rw [ab_i_si, if_pos rfl, ab_up_ne _ _ hj, a0]
  · rw [ab_i_si, if_pos rfl, ab_up_self, Nat.zero_mul]
  · rw [ab_i_si, if_neg (by omega)]
    exact bd_cellsI_0 hm (fun X Y hX hY ho => a5 X Y hX hY (bd_own0.mp ho)) (fun X Y hX hY ho => a6 X Y hX hY (fun z => ho (bd_own0.mpr z)))
  · rw [ab_i_si, if_neg (by omega), a1]; exact bd_rowI_0 rfl
  · rw [ab_i_si, if_neg (by omega), a2]; exact bd_rowI_0 rfl
  · rw [ab_i_si, if_neg (by omega), a3]; exact bd_rowI_0 rfl
  · rw [ab_i_si, if_neg (by omega), a4]; exact bd_rowI_0 rfl
theorem bd_cutI_step {n x y mx my p q r : Nat} {h h1 h2 : ab_H} (hm : bd_in (2 * 2 ^ n) x y mx my) (hq : q < 4) (H : bd_cutI n x y mx my p q r h h1) (H2 : bd_cut n (x + q % 2 * 2 ^ n) (y + q / 2 * 2 ^ n) (bd_mx (2 ^ n) x y mx my q) (bd_my (2 ^ n) x y mx my q) (p + 1 + q * bd_n n) r h1 h2) : bd_cutI n x y mx my p (q + 1) r h h2 := by
  obtain ⟨f, a0, a1, a2, a3, a4, a5, a6⟩ := H
  obtain ⟨g, b0, b1, b2, b3, b4, b5, b6⟩ := H2
  exact ⟨f.trans g (fun _ q => q), fun j hj => (b0 j hj).trans (a0 j hj), by rw [b1, Nat.succ_mul, Nat.add_assoc (p + 1)], bd_cellsI_step hm hq a2 b2, bd_rowI_step hq a3 b3, bd_rowI_step hq a4 b4, bd_rowI_step hq a5 b5, bd_rowI_step hq a6 b6⟩
theorem bd_cutI_end {n x y mx my p r : Nat} {h h1 : ab_H} (H : bd_cutI n x y mx my p 4 r h h1) : bd_cut (n + 1) x y mx my p r h h1 := by
  obtain ⟨f, a0, a1, a2, a3, a4, a5, a6⟩ := H
  exact ⟨f, a0, by rw [a1]; show nI (p + 1 + 4 * bd_n n) = nI (p + (1 + 4 * bd_n n)); rw [Nat.add_assoc], bd_cellsI_end a2, a3, a4, a5, a6⟩
def bd_cutP (r N n : Nat) : Prop := ∀ {k b x y mx my p : Nat} {h : ab_H} (hk : n + 2 ≤ k) (hB : at_Board (ab_sh h) (ab_r h) r) (hN : ab_i h r 0 = nI N) (hP : ab_i h r 3 = nI p) (hnN : n ≤ N) (hx : x + 2 ^ n ≤ 2 ^ N) (hy : y + 2 ^ n ≤ 2 ^ N) (hm : bd_in (2 ^ n) x y mx my) (hp : p + bd_n n ≤ 85), ab_M k b mX0_cutBlock [.ref r, .int (nI n), .int (nI x), .int (nI y), .int (nI mx), .int (nI my)] h (ab_pv (bd_cut n x y mx my p r h))
set_option maxRecDepth 100000 in
set_option maxHeartbeats 4000000 in
theorem lp_cut {r N n : Nat} (hn : N ≤ 4) (ih : bd_cutP r N n) {k b x y mx my p : Nat} {h : ab_H} (hk : (n + 1) + 2 ≤ k) (hB : at_Board (ab_sh h) (ab_r h) r) (hN : ab_i h r 0 = nI N) (hP : ab_i h r 3 = nI p) (hnN : (n + 1) ≤ N) (hx : x + 2 ^ (n + 1) ≤ 2 ^ N) (hy : y + 2 ^ (n + 1) ≤ 2 ^ N) (hm : bd_in (2 ^ (n + 1)) x y mx my) (hp : p + bd_n (n + 1) ≤ 85) : ∀ (j q : Nat) (h1 : ab_H), q + j = 4 → bd_cutI n x y mx my p q r h h1 → ab_R k b mX0_cutBlock 74 [some (.ref r), some (.int (nI (n + 1))), some (.int (nI x)), some (.int (nI y)), some (.int (nI mx)), some (.int (nI my)), some (.int (nI (2 ^ n))), some (.int (nI (bd_q (2 ^ n) x y mx my))), some (.int (nI q)), none, none, none, none] [] h1 (ab_pv (bd_cut (n + 1) x y mx my p r h)) := by
  intro j
  induction j with
  | zero =>
    intro q h1 hq H
    obtain rfl : q = 4 := by omega
    have hB1 := at_Board.fr H.1 hB
    have hN1 : ab_i h1 r 0 = nI N := by rw [H.2.1 0 (by decide)]; exact hN
    have hpw := bd_pow4 hn
    have hps := bd_pow_succ n
    have hpo := bd_pos n
    have hbn : bd_n (n + 1) = 1 + 4 * bd_n n := rfl
    have hq4 := bd_q_lt (2 ^ n) x y mx my
    have hnn := hn
    unfold bd_in at hm
    have hmB : mx < 16 ∧ my < 16 := by omega
    refine ab_iload dX0_cutBlock_74 rfl ?_
    refine ab_iconst (v := nI 4) dX0_cutBlock_76 (by decide) ?_
    refine ab_nicmp_ge 169 dX0_cutBlock_77 (by decide) (by omega) (by omega) (fun c_77 => ?_) (fun c_77 => ?_)
    · skip
      refine ab_retv dX0_cutBlock_169 ?_
      exact bd_cutI_end H
    · skip
      exact absurd (by omega) c_77
  | succ j ih2 =>
    intro q h1 hq9 H
    have hB1 := at_Board.fr H.1 hB
    have hN1 : ab_i h1 r 0 = nI N := by rw [H.2.1 0 (by decide)]; exact hN
    have hpw := bd_pow4 hn
    have hps := bd_pow_succ n
    have hpo := bd_pos n
    have hbn : bd_n (n + 1) = 1 + 4 * bd_n n := rfl
    have hq4 := bd_q_lt (2 ^ n) x y mx my
    have hnn := hn
    unfold bd_in at hm
    have hmB : mx < 16 ∧ my < 16 := by omega
    have m1 : q % 2 * 2 ^ n ≤ 1 * 2 ^ n := Nat.mul_le_mul_right _ (by omega)
    have m2 : q / 2 * 2 ^ n ≤ 1 * 2 ^ n := Nat.mul_le_mul_right _ (by omega)
    have m3 : q * bd_n n ≤ 3 * bd_n n := Nat.mul_le_mul_right _ (by omega)
    refine ab_iload dX0_cutBlock_74 rfl ?_
    refine ab_iconst (v := nI 4) dX0_cutBlock_76 (by decide) ?_
    refine ab_nicmp_ge 169 dX0_cutBlock_77 (by decide) (by omega) (by omega) (fun c_77 => ?_) (fun c_77 => ?_)
    · skip
      exact absurd c_77 (by omega)
    · skip
      refine ab_iload dX0_cutBlock_80 rfl ?_
      refine ab_iconst (v := nI 1) dX0_cutBlock_82 (by decide) ?_
      refine ab_nandR dX0_cutBlock_83 ?_
      rw [ab_and1]
      refine ab_sti (ls' := [_, _, _, _, _, _, _, _, _, _, _, _, _]) dX0_cutBlock_84 (by decide) rfl ?_
      refine ab_iload dX0_cutBlock_86 rfl ?_
      refine ab_iconst (v := nI 1) dX0_cutBlock_88 (by decide) ?_
      refine ab_nshrR dX0_cutBlock_89 (by omega) (by decide) ?_
      rw [ab_shr1]
      refine ab_sti (ls' := [_, _, _, _, _, _, _, _, _, _, _, _, _]) dX0_cutBlock_90 (by decide) rfl ?_
      refine ab_iload dX0_cutBlock_92 rfl ?_
      refine ab_iload dX0_cutBlock_94 rfl ?_
      refine ab_nicmp_ne 104 dX0_cutBlock_96 (by decide) (by omega) (by omega) (fun c_96 => ?_) (fun c_96 => ?_)
      · skip
        refine ab_iload_n dX0_cutBlock_104 rfl ?_
        refine ab_iload dX0_cutBlock_105 rfl ?_
        refine ab_naddR dX0_cutBlock_107 ?_
        refine ab_iconst (v := nI 1) dX0_cutBlock_108 (by decide) ?_
        refine ab_nsubR dX0_cutBlock_109 (by omega) ?_
        refine ab_iload dX0_cutBlock_110 rfl ?_
        refine ab_naddR dX0_cutBlock_112 ?_
        refine ab_topI (y := nI (bd_mx (2 ^ n) x y mx my q)) (by unfold bd_mx; first | (exfalso; omega) | rw [if_pos (by omega)] | rw [if_neg (by omega)]) ?_
        refine ab_sti (ls' := [_, _, _, _, _, _, _, _, _, _, _, _, _]) dX0_cutBlock_113 (by decide) rfl ?_
        refine ab_iload dX0_cutBlock_115 rfl ?_
        refine ab_iload dX0_cutBlock_117 rfl ?_
        refine ab_nicmp_ne 127 dX0_cutBlock_119 (by decide) (by omega) (by omega) (fun c_119 => ?_) (fun c_119 => ?_)
        · skip
          refine ab_iload_n dX0_cutBlock_127 rfl ?_
          refine ab_iload dX0_cutBlock_128 rfl ?_
          refine ab_naddR dX0_cutBlock_130 ?_
          refine ab_iconst (v := nI 1) dX0_cutBlock_131 (by decide) ?_
          refine ab_nsubR dX0_cutBlock_132 (by omega) ?_
          refine ab_iload dX0_cutBlock_133 rfl ?_
          refine ab_naddR dX0_cutBlock_135 ?_
          refine ab_topI (y := nI (bd_my (2 ^ n) x y mx my q)) (by unfold bd_my; first | (exfalso; omega) | rw [if_pos (by omega)] | rw [if_neg (by omega)]) ?_
          refine ab_sti (ls' := [_, _, _, _, _, _, _, _, _, _, _, _, _]) dX0_cutBlock_136 (by decide) rfl ?_
          refine ab_aload_n dX0_cutBlock_138 rfl ?_
          refine ab_iload_n dX0_cutBlock_139 rfl ?_
          refine ab_iconst (v := nI 1) dX0_cutBlock_140 (by decide) ?_
          refine ab_nsubR dX0_cutBlock_141 (by omega) ?_
          refine ab_iload_n dX0_cutBlock_142 rfl ?_
          refine ab_iload dX0_cutBlock_143 rfl ?_
          refine ab_iload dX0_cutBlock_145 rfl ?_
          refine ab_nmulR dX0_cutBlock_147 ?_
          refine ab_naddR dX0_cutBlock_148 ?_
          refine ab_iload_n dX0_cutBlock_149 rfl ?_
          refine ab_iload dX0_cutBlock_150 rfl ?_
          refine ab_iload dX0_cutBlock_152 rfl ?_
          refine ab_nmulR dX0_cutBlock_154 ?_
          refine ab_naddR dX0_cutBlock_155 ?_
          refine ab_iload dX0_cutBlock_156 rfl ?_
          refine ab_iload dX0_cutBlock_158 rfl ?_
          refine ab_callSv [_, _, _, _, _, _] dX0_cutBlock_160 ml_X0_47 mk_X0_cutBlock (ih (k := n + 2) (b := 0) (p := p + 1 + q * bd_n n) (Nat.le_refl _) hB1 hN1 H.2.2.1 (by omega) (by omega) (by omega) (bd_m_in hpo (by omega) (by rw [← hps]; exact hm)) (by omega)) (fun h2 hq => ?_)
          refine ab_nincR (ls' := [_, _, _, _, _, _, _, _, _, _, _, _, _]) dX0_cutBlock_163 rfl rfl ?_
          refine ab_goto 74 dX0_cutBlock_166 (by decide) ?_
          exact ab_weak (ih2 (q + 1) _ (by omega) (bd_cutI_step (by rw [← hps]; exact hm) (by omega) H hq)) ⟨rfl, rfl, rfl, rfl, rfl, rfl, rfl, rfl, rfl, trivial⟩
        · skip
          refine ab_iload dX0_cutBlock_122 rfl ?_
          refine ab_goto 136 dX0_cutBlock_124 (by decide) ?_
          refine ab_topI (y := nI (bd_my (2 ^ n) x y mx my q)) (by unfold bd_my; first | (exfalso; omega) | rw [if_pos (by omega)] | rw [if_neg (by omega)]) ?_
          refine ab_sti (ls' := [_, _, _, _, _, _, _, _, _, _, _, _, _]) dX0_cutBlock_136 (by decide) rfl ?_
          refine ab_aload_n dX0_cutBlock_138 rfl ?_
          refine ab_iload_n dX0_cutBlock_139 rfl ?_
          refine ab_iconst (v := nI 1) dX0_cutBlock_140 (by decide) ?_
          refine ab_nsubR dX0_cutBlock_141 (by omega) ?_
          refine ab_iload_n dX0_cutBlock_142 rfl ?_
          refine ab_iload dX0_cutBlock_143 rfl ?_
          refine ab_iload dX0_cutBlock_145 rfl ?_
          refine ab_nmulR dX0_cutBlock_147 ?_
          refine ab_naddR dX0_cutBlock_148 ?_
          refine ab_iload_n dX0_cutBlock_149 rfl ?_
          refine ab_iload dX0_cutBlock_150 rfl ?_
          refine ab_iload dX0_cutBlock_152 rfl ?_
          refine ab_nmulR dX0_cutBlock_154 ?_
          refine ab_naddR dX0_cutBlock_155 ?_
          refine ab_iload dX0_cutBlock_156 rfl ?_
          refine ab_iload dX0_cutBlock_158 rfl ?_
          refine ab_callSv [_, _, _, _, _, _] dX0_cutBlock_160 ml_X0_47 mk_X0_cutBlock (ih (k := n + 2) (b := 0) (p := p + 1 + q * bd_n n) (Nat.le_refl _) hB1 hN1 H.2.2.1 (by omega) (by omega) (by omega) (bd_m_in hpo (by omega) (by rw [← hps]; exact hm)) (by omega)) (fun h2 hq => ?_)
          refine ab_nincR (ls' := [_, _, _, _, _, _, _, _, _, _, _, _, _]) dX0_cutBlock_163 rfl rfl ?_
          refine ab_goto 74 dX0_cutBlock_166 (by decide) ?_
          exact ab_weak (ih2 (q + 1) _ (by omega) (bd_cutI_step (by rw [← hps]; exact hm) (by omega) H hq)) ⟨rfl, rfl, rfl, rfl, rfl, rfl, rfl, rfl, rfl, trivial⟩
      · skip
        refine ab_iload dX0_cutBlock_99 rfl ?_
        refine ab_goto 113 dX0_cutBlock_101 (by decide) ?_
        refine ab_topI (y := nI (bd_mx (2 ^ n) x y mx my q)) (by unfold bd_mx; first | (exfalso; omega) | rw [if_pos (by omega)] | rw [if_neg (by omega)]) ?_
        refine ab_sti (ls' := [_, _, _, _, _, _, _, _, _, _, _, _, _]) dX0_cutBlock_113 (by decide) rfl ?_
        refine ab_iload dX0_cutBlock_115 rfl ?_
        refine ab_iload dX0_cutBlock_117 rfl ?_
        refine ab_nicmp_ne 127 dX0_cutBlock_119 (by decide) (by omega) (by omega) (fun c_119 => ?_) (fun c_119 => ?_)
        · skip
          refine ab_iload_n dX0_cutBlock_127 rfl ?_
          refine ab_iload dX0_cutBlock_128 rfl ?_
          refine ab_naddR dX0_cutBlock_130 ?_
          refine ab_iconst (v := nI 1) dX0_cutBlock_131 (by decide) ?_
          refine ab_nsubR dX0_cutBlock_132 (by omega) ?_
          refine ab_iload dX0_cutBlock_133 rfl ?_
          refine ab_naddR dX0_cutBlock_135 ?_
          refine ab_topI (y := nI (bd_my (2 ^ n) x y mx my q)) (by unfold bd_my; first | (exfalso; omega) | rw [if_pos (by omega)] | rw [if_neg (by omega)]) ?_
          refine ab_sti (ls' := [_, _, _, _, _, _, _, _, _, _, _, _, _]) dX0_cutBlock_136 (by decide) rfl ?_
          refine ab_aload_n dX0_cutBlock_138 rfl ?_
          refine ab_iload_n dX0_cutBlock_139 rfl ?_
          refine ab_iconst (v := nI 1) dX0_cutBlock_140 (by decide) ?_
          refine ab_nsubR dX0_cutBlock_141 (by omega) ?_
          refine ab_iload_n dX0_cutBlock_142 rfl ?_
          refine ab_iload dX0_cutBlock_143 rfl ?_
          refine ab_iload dX0_cutBlock_145 rfl ?_
          refine ab_nmulR dX0_cutBlock_147 ?_
          refine ab_naddR dX0_cutBlock_148 ?_
          refine ab_iload_n dX0_cutBlock_149 rfl ?_
          refine ab_iload dX0_cutBlock_150 rfl ?_
          refine ab_iload dX0_cutBlock_152 rfl ?_
          refine ab_nmulR dX0_cutBlock_154 ?_
          refine ab_naddR dX0_cutBlock_155 ?_
          refine ab_iload dX0_cutBlock_156 rfl ?_
          refine ab_iload dX0_cutBlock_158 rfl ?_
          refine ab_callSv [_, _, _, _, _, _] dX0_cutBlock_160 ml_X0_47 mk_X0_cutBlock (ih (k := n + 2) (b := 0) (p := p + 1 + q * bd_n n) (Nat.le_refl _) hB1 hN1 H.2.2.1 (by omega) (by omega) (by omega) (bd_m_in hpo (by omega) (by rw [← hps]; exact hm)) (by omega)) (fun h2 hq => ?_)
          refine ab_nincR (ls' := [_, _, _, _, _, _, _, _, _, _, _, _, _]) dX0_cutBlock_163 rfl rfl ?_
          refine ab_goto 74 dX0_cutBlock_166 (by decide) ?_
          exact ab_weak (ih2 (q + 1) _ (by omega) (bd_cutI_step (by rw [← hps]; exact hm) (by omega) H hq)) ⟨rfl, rfl, rfl, rfl, rfl, rfl, rfl, rfl, rfl, trivial⟩
        · skip
          refine ab_iload dX0_cutBlock_122 rfl ?_
          refine ab_goto 136 dX0_cutBlock_124 (by decide) ?_
          refine ab_topI (y := nI (bd_my (2 ^ n) x y mx my q)) (by unfold bd_my; first | (exfalso; omega) | rw [if_pos (by omega)] | rw [if_neg (by omega)]) ?_
          refine ab_sti (ls' := [_, _, _, _, _, _, _, _, _, _, _, _, _]) dX0_cutBlock_136 (by decide) rfl ?_
          refine ab_aload_n dX0_cutBlock_138 rfl ?_
          refine ab_iload_n dX0_cutBlock_139 rfl ?_
          refine ab_iconst (v := nI 1) dX0_cutBlock_140 (by decide) ?_
          refine ab_nsubR dX0_cutBlock_141 (by omega) ?_
          refine ab_iload_n dX0_cutBlock_142 rfl ?_
          refine ab_iload dX0_cutBlock_143 rfl ?_
          refine ab_iload dX0_cutBlock_145 rfl ?_
          refine ab_nmulR dX0_cutBlock_147 ?_
          refine ab_naddR dX0_cutBlock_148 ?_
          refine ab_iload_n dX0_cutBlock_149 rfl ?_
          refine ab_iload dX0_cutBlock_150 rfl ?_
          refine ab_iload dX0_cutBlock_152 rfl ?_
          refine ab_nmulR dX0_cutBlock_154 ?_
          refine ab_naddR dX0_cutBlock_155 ?_
          refine ab_iload dX0_cutBlock_156 rfl ?_
          refine ab_iload dX0_cutBlock_158 rfl ?_
          refine ab_callSv [_, _, _, _, _, _] dX0_cutBlock_160 ml_X0_47 mk_X0_cutBlock (ih (k := n + 2) (b := 0) (p := p + 1 + q * bd_n n) (Nat.le_refl _) hB1 hN1 H.2.2.1 (by omega) (by omega) (by omega) (bd_m_in hpo (by omega) (by rw [← hps]; exact hm)) (by omega)) (fun h2 hq => ?_)
          refine ab_nincR (ls' := [_, _, _, _, _, _, _, _, _, _, _, _, _]) dX0_cutBlock_163 rfl rfl ?_
          refine ab_goto 74 dX0_cutBlock_166 (by decide) ?_
          exact ab_weak (ih2 (q + 1) _ (by omega) (bd_cutI_step (by rw [← hps]; exact hm) (by omega) H hq)) ⟨rfl, rfl, rfl, rfl, rfl, rfl, rfl, rfl, rfl, trivial⟩
set_option maxRecDepth 100000 in
set_option maxHeartbeats 4000000 in
theorem c_cutBlock {r N : Nat} (hn : N ≤ 4) : ∀ n, bd_cutP r N n := by
  intro n
  induction n with
  | zero =>
    intro k b x y mx my p h hk hB hN hP hnN hx hy hm hp
    refine ab_enter ?_
    refine ab_iload_n dX0_cutBlock_0 rfl ?_
    refine ab_iconst (v := nI 1) dX0_cutBlock_1 (by decide) ?_
    refine ab_nicmp_lt 10 dX0_cutBlock_2 (by decide) (by omega) (by omega) (fun c_2 => ?_) (fun c_2 => ?_)
    · skip
      refine ab_retv dX0_cutBlock_10 ?_
      exact bd_cut_0 hm hP
    · skip
      exact absurd (by omega) c_2
  | succ n ih =>
    intro k b x y mx my p h hk hB hN hP hnN hx hy hm hp
    have hpw := bd_pow4 hn
    have hps := bd_pow_succ n
    have hpo := bd_pos n
    have hbn : bd_n (n + 1) = 1 + 4 * bd_n n := rfl
    have hq4 := bd_q_lt (2 ^ n) x y mx my
    have hmm := hm
    unfold bd_in at hmm
    refine ab_enter ?_
    refine ab_iload_n dX0_cutBlock_0 rfl ?_
    refine ab_iconst (v := nI 1) dX0_cutBlock_1 (by decide) ?_
    refine ab_nicmp_lt 10 dX0_cutBlock_2 (by decide) (by omega) (by omega) (fun c_2 => ?_) (fun c_2 => ?_)
    · skip
      exact absurd c_2 (by omega)
    · skip
      refine ab_iload_n dX0_cutBlock_5 rfl ?_
      refine ab_iconst (v := nI 4) dX0_cutBlock_6 (by decide) ?_
      refine ab_nicmp_le 11 dX0_cutBlock_7 (by decide) (by omega) (by omega) (fun c_7 => ?_) (fun c_7 => ?_)
      · skip
        refine ab_iconst (v := nI 1) dX0_cutBlock_11 (by decide) ?_
        refine ab_iload_n dX0_cutBlock_12 rfl ?_
        refine ab_iconst (v := nI 1) dX0_cutBlock_13 (by decide) ?_
        refine ab_nsubR dX0_cutBlock_14 (by omega) ?_
        rw [Nat.add_sub_cancel]
        refine ab_nshlR dX0_cutBlock_15 (by omega) ?_
        rw [ab_1shl]
        refine ab_sti (ls' := [_, _, _, _, _, _, _, _, _, _, _, _, _]) dX0_cutBlock_16 (by decide) rfl ?_
        refine ab_iload dX0_cutBlock_18 rfl ?_
        refine ab_iload_n dX0_cutBlock_20 rfl ?_
        refine ab_iload dX0_cutBlock_21 rfl ?_
        refine ab_naddR dX0_cutBlock_23 ?_
        refine ab_nicmp_lt 31 dX0_cutBlock_24 (by decide) (by omega) (by omega) (fun c_24 => ?_) (fun c_24 => ?_)
        · skip
          refine ab_iconst (v := nI 0) dX0_cutBlock_31 (by decide) ?_
          refine ab_iload dX0_cutBlock_32 rfl ?_
          refine ab_iload_n dX0_cutBlock_34 rfl ?_
          refine ab_iload dX0_cutBlock_35 rfl ?_
          refine ab_naddR dX0_cutBlock_37 ?_
          refine ab_nicmp_lt 45 dX0_cutBlock_38 (by decide) (by omega) (by omega) (fun c_38 => ?_) (fun c_38 => ?_)
          · skip
            refine ab_iconst (v := nI 0) dX0_cutBlock_45 (by decide) ?_
            refine ab_naddR dX0_cutBlock_46 ?_
            refine ab_topI (y := nI (bd_q (2 ^ n) x y mx my)) (by unfold bd_q; first | rw [if_pos (by omega), if_pos (by omega)] | rw [if_pos (by omega), if_neg (by omega)] | rw [if_neg (by omega), if_pos (by omega)] | rw [if_neg (by omega), if_neg (by omega)]) ?_
            refine ab_sti (ls' := [_, _, _, _, _, _, _, _, _, _, _, _, _]) dX0_cutBlock_47 (by decide) rfl ?_
            refine ab_aload_n dX0_cutBlock_49 rfl ?_
            refine ab_iload dX0_cutBlock_50 rfl ?_
            refine ab_iconst (v := nI 2) dX0_cutBlock_52 (by decide) ?_
            refine ab_iload dX0_cutBlock_53 rfl ?_
            refine ab_nmulR dX0_cutBlock_55 ?_
            refine ab_iload_n dX0_cutBlock_56 rfl ?_
            refine ab_iload dX0_cutBlock_57 rfl ?_
            refine ab_naddR dX0_cutBlock_59 ?_
            refine ab_iconst (v := nI 1) dX0_cutBlock_60 (by decide) ?_
            refine ab_nsubR dX0_cutBlock_61 (by omega) ?_
            refine ab_iload_n dX0_cutBlock_62 rfl ?_
            refine ab_iload dX0_cutBlock_63 rfl ?_
            refine ab_naddR dX0_cutBlock_65 ?_
            refine ab_iconst (v := nI 1) dX0_cutBlock_66 (by decide) ?_
            refine ab_nsubR dX0_cutBlock_67 (by omega) ?_
            refine ab_callVv [_, _, _, _] dX0_cutBlock_68 ml_X0_51 mk_X0_lay hB.1 (c_lay (k := 2) (b := 0) (N := N) (p := p) (by omega) hB hN hn hP (by omega) hq4 (by omega) (by omega)) (fun h1 hq => ?_)
            obtain ⟨h2, hl, rfl⟩ := hq
            refine ab_iconst (v := nI 0) dX0_cutBlock_71 (by decide) ?_
            refine ab_sti (ls' := [_, _, _, _, _, _, _, _, _, _, _, _, _]) dX0_cutBlock_72 (by decide) rfl ?_
            exact ab_weak (lp_cut hn ih hk hB hN hP hnN hx hy hm hp 4 0 _ rfl (bd_cutI_0 (by rw [← hps]; exact hm) hl)) ⟨rfl, rfl, rfl, rfl, rfl, rfl, rfl, rfl, rfl, trivial⟩
          · skip
            refine ab_iconst (v := nI 2) dX0_cutBlock_41 (by decide) ?_
            refine ab_goto 46 dX0_cutBlock_42 (by decide) ?_
            refine ab_naddR dX0_cutBlock_46 ?_
            refine ab_topI (y := nI (bd_q (2 ^ n) x y mx my)) (by unfold bd_q; first | rw [if_pos (by omega), if_pos (by omega)] | rw [if_pos (by omega), if_neg (by omega)] | rw [if_neg (by omega), if_pos (by omega)] | rw [if_neg (by omega), if_neg (by omega)]) ?_
            refine ab_sti (ls' := [_, _, _, _, _, _, _, _, _, _, _, _, _]) dX0_cutBlock_47 (by decide) rfl ?_
            refine ab_aload_n dX0_cutBlock_49 rfl ?_
            refine ab_iload dX0_cutBlock_50 rfl ?_
            refine ab_iconst (v := nI 2) dX0_cutBlock_52 (by decide) ?_
            refine ab_iload dX0_cutBlock_53 rfl ?_
            refine ab_nmulR dX0_cutBlock_55 ?_
            refine ab_iload_n dX0_cutBlock_56 rfl ?_
            refine ab_iload dX0_cutBlock_57 rfl ?_
            refine ab_naddR dX0_cutBlock_59 ?_
            refine ab_iconst (v := nI 1) dX0_cutBlock_60 (by decide) ?_
            refine ab_nsubR dX0_cutBlock_61 (by omega) ?_
            refine ab_iload_n dX0_cutBlock_62 rfl ?_
            refine ab_iload dX0_cutBlock_63 rfl ?_
            refine ab_naddR dX0_cutBlock_65 ?_
            refine ab_iconst (v := nI 1) dX0_cutBlock_66 (by decide) ?_
            refine ab_nsubR dX0_cutBlock_67 (by omega) ?_
            refine ab_callVv [_, _, _, _] dX0_cutBlock_68 ml_X0_51 mk_X0_lay hB.1 (c_lay (k := 2) (b := 0) (N := N) (p := p) (by omega) hB hN hn hP (by omega) hq4 (by omega) (by omega)) (fun h1 hq => ?_)
            obtain ⟨h2, hl, rfl⟩ := hq
            refine ab_iconst (v := nI 0) dX0_cutBlock_71 (by decide) ?_
            refine ab_sti (ls' := [_, _, _, _, _, _, _, _, _, _, _, _, _]) dX0_cutBlock_72 (by decide) rfl ?_
            exact ab_weak (lp_cut hn ih hk hB hN hP hnN hx hy hm hp 4 0 _ rfl (bd_cutI_0 (by rw [← hps]; exact hm) hl)) ⟨rfl, rfl, rfl, rfl, rfl, rfl, rfl, rfl, rfl, trivial⟩
        · skip
          refine ab_iconst (v := nI 1) dX0_cutBlock_27 (by decide) ?_
          refine ab_goto 32 dX0_cutBlock_28 (by decide) ?_
          refine ab_iload dX0_cutBlock_32 rfl ?_
          refine ab_iload_n dX0_cutBlock_34 rfl ?_
          refine ab_iload dX0_cutBlock_35 rfl ?_
          refine ab_naddR dX0_cutBlock_37 ?_
          refine ab_nicmp_lt 45 dX0_cutBlock_38 (by decide) (by omega) (by omega) (fun c_38 => ?_) (fun c_38 => ?_)
          · skip
            refine ab_iconst (v := nI 0) dX0_cutBlock_45 (by decide) ?_
            refine ab_naddR dX0_cutBlock_46 ?_
            refine ab_topI (y := nI (bd_q (2 ^ n) x y mx my)) (by unfold bd_q; first | rw [if_pos (by omega), if_pos (by omega)] | rw [if_pos (by omega), if_neg (by omega)] | rw [if_neg (by omega), if_pos (by omega)] | rw [if_neg (by omega), if_neg (by omega)]) ?_
            refine ab_sti (ls' := [_, _, _, _, _, _, _, _, _, _, _, _, _]) dX0_cutBlock_47 (by decide) rfl ?_
            refine ab_aload_n dX0_cutBlock_49 rfl ?_
            refine ab_iload dX0_cutBlock_50 rfl ?_
            refine ab_iconst (v := nI 2) dX0_cutBlock_52 (by decide) ?_
            refine ab_iload dX0_cutBlock_53 rfl ?_
            refine ab_nmulR dX0_cutBlock_55 ?_
            refine ab_iload_n dX0_cutBlock_56 rfl ?_
            refine ab_iload dX0_cutBlock_57 rfl ?_
            refine ab_naddR dX0_cutBlock_59 ?_
            refine ab_iconst (v := nI 1) dX0_cutBlock_60 (by decide) ?_
            refine ab_nsubR dX0_cutBlock_61 (by omega) ?_
            refine ab_iload_n dX0_cutBlock_62 rfl ?_
            refine ab_iload dX0_cutBlock_63 rfl ?_
            refine ab_naddR dX0_cutBlock_65 ?_
            refine ab_iconst (v := nI 1) dX0_cutBlock_66 (by decide) ?_
            refine ab_nsubR dX0_cutBlock_67 (by omega) ?_
            refine ab_callVv [_, _, _, _] dX0_cutBlock_68 ml_X0_51 mk_X0_lay hB.1 (c_lay (k := 2) (b := 0) (N := N) (p := p) (by omega) hB hN hn hP (by omega) hq4 (by omega) (by omega)) (fun h1 hq => ?_)
            obtain ⟨h2, hl, rfl⟩ := hq
            refine ab_iconst (v := nI 0) dX0_cutBlock_71 (by decide) ?_
            refine ab_sti (ls' := [_, _, _, _, _, _, _, _, _, _, _, _, _]) dX0_cutBlock_72 (by decide) rfl ?_
            exact ab_weak (lp_cut hn ih hk hB hN hP hnN hx hy hm hp 4 0 _ rfl (bd_cutI_0 (by rw [← hps]; exact hm) hl)) ⟨rfl, rfl, rfl, rfl, rfl, rfl, rfl, rfl, rfl, trivial⟩
          · skip
            refine ab_iconst (v := nI 2) dX0_cutBlock_41 (by decide) ?_
            refine ab_goto 46 dX0_cutBlock_42 (by decide) ?_
            refine ab_naddR dX0_cutBlock_46 ?_
            refine ab_topI (y := nI (bd_q (2 ^ n) x y mx my)) (by unfold bd_q; first | rw [if_pos (by omega), if_pos (by omega)] | rw [if_pos (by omega), if_neg (by omega)] | rw [if_neg (by omega), if_pos (by omega)] | rw [if_neg (by omega), if_neg (by omega)]) ?_
            refine ab_sti (ls' := [_, _, _, _, _, _, _, _, _, _, _, _, _]) dX0_cutBlock_47 (by decide) rfl ?_
            refine ab_aload_n dX0_cutBlock_49 rfl ?_
            refine ab_iload dX0_cutBlock_50 rfl ?_
            refine ab_iconst (v := nI 2) dX0_cutBlock_52 (by decide) ?_
            refine ab_iload dX0_cutBlock_53 rfl ?_
            refine ab_nmulR dX0_cutBlock_55 ?_
            refine ab_iload_n dX0_cutBlock_56 rfl ?_
            refine ab_iload dX0_cutBlock_57 rfl ?_
            refine ab_naddR dX0_cutBlock_59 ?_
            refine ab_iconst (v := nI 1) dX0_cutBlock_60 (by decide) ?_
            refine ab_nsubR dX0_cutBlock_61 (by omega) ?_
            refine ab_iload_n dX0_cutBlock_62 rfl ?_
            refine ab_iload dX0_cutBlock_63 rfl ?_
            refine ab_naddR dX0_cutBlock_65 ?_
            refine ab_iconst (v := nI 1) dX0_cutBlock_66 (by decide) ?_
            refine ab_nsubR dX0_cutBlock_67 (by omega) ?_
            refine ab_callVv [_, _, _, _] dX0_cutBlock_68 ml_X0_51 mk_X0_lay hB.1 (c_lay (k := 2) (b := 0) (N := N) (p := p) (by omega) hB hN hn hP (by omega) hq4 (by omega) (by omega)) (fun h1 hq => ?_)
            obtain ⟨h2, hl, rfl⟩ := hq
            refine ab_iconst (v := nI 0) dX0_cutBlock_71 (by decide) ?_
            refine ab_sti (ls' := [_, _, _, _, _, _, _, _, _, _, _, _, _]) dX0_cutBlock_72 (by decide) rfl ?_
            exact ab_weak (lp_cut hn ih hk hB hN hP hnN hx hy hm hp 4 0 _ rfl (bd_cutI_0 (by rw [← hps]; exact hm) hl)) ⟨rfl, rfl, rfl, rfl, rfl, rfl, rfl, rfl, rfl, trivial⟩
      · skip
        exact absurd (by omega) c_7
