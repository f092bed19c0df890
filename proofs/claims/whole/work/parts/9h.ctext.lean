/-! ===== the class: a text is run ===== -/
set_option maxRecDepth 100000 in
set_option maxHeartbeats 4000000 in
theorem lp_rr {k b p : Nat} {h : ab_H} {e : eS} {X : xS} (hk : 2 ≤ k) (hb : ab_bs h) (hC : at_C (ab_sh h) (ab_r h)) (hE : le_C e h) (hp : p < 2147000000) (hG : gp_C X h) (e114 : eL e p = 114) (D : ∀ i, 1 ≤ i → i ≤ 5 → eI e (p + i)) (hok : ∀ i, i < 5 → eD e (p + 1 + i) < 4) : ∀ (j i : Nat) (h1 : ab_H), i + j = 4 → ab_fr [14] h h1 → (∀ t, ab_i h1 14 t = if 4 * eD e (p + 1) ≤ t ∧ t < 4 * eD e (p + 1) + i then nI (eD e (p + 2 + (t - 4 * eD e (p + 1)))) else ab_i h 14 t) → ab_R k b mX11_runStatement 86 [some (.ref 5), some (.int (nI p)), some (.int (nI i))] [] h1 (ab_pv (fun h' => ab_gr [6, 7, 8, 9, 10, 11, 14, 19] [20, 21] h h' ∧ gp_C (tx_do e p X) h')) := by
  intro j
  induction j with
  | zero =>
    intro i h1 hi f hr
    refine ab_iload_n dX11_runStatement_86 rfl ?_
    refine ab_iconst (v := nI 4) dX11_runStatement_87 (by decide) ?_
    refine ab_nicmp_ge 127 dX11_runStatement_88 (by decide) (by omega) (by omega) (fun c_88 => ?_) (fun c_88 => ?_)
    · skip
      refine ab_goto 207 dX11_runStatement_127 (by decide) ?_
      refine ab_retv dX11_runStatement_207 ?_
      have hi4 : i = 4 := by omega
      subst hi4
      rw [tx_do_r e114]
      exact ⟨(ab_gr.of f).mono (by simp) (fun _ q => by cases q), hG.1.gr (ab_gr.of f) hb (by decide) (by intro a q1 q2; simp; omega), rU_ok (F := ab_i h 14) (G := ab_i h1 14) (ρ := X.2.2.2.1) (d := eD e (p + 1)) (f := fun i => eD e (p + 2 + i)) hG.2.1 (fun i hi => by have := hok (i + 1) (by omega); rw [show p + 1 + (i + 1) = p + 2 + i by omega] at this; exact this) hr, hG.2.2.gr (ab_gr.of f) (mem78 (by decide)) nil78 hb (by decide) (by simp) (by simp) (by simp)⟩
    · skip
      exact absurd (by omega) c_88
  | succ j ih =>
    intro i h1 hi f hr
    have hC1 := hC.fr f
    have hE1 := hE.gr (ab_gr.of f) hb (by simp) (by simp)
    refine ab_iload_n dX11_runStatement_86 rfl ?_
    refine ab_iconst (v := nI 4) dX11_runStatement_87 (by decide) ?_
    refine ab_nicmp_ge 127 dX11_runStatement_88 (by decide) (by omega) (by omega) (fun c_88 => ?_) (fun c_88 => ?_)
    · skip
      exact absurd c_88 (by omega)
    · skip
      refine ab_aload_n dX11_runStatement_91 rfl ?_
      refine ab_getR dX11_runStatement_92 fl_X11_19 hC1.hs hC1.p5_1 ?_
      refine ab_aload_n dX11_runStatement_95 rfl ?_
      refine ab_getR dX11_runStatement_96 fl_X11_33 hC1.hs hC1.p5_3 ?_
      refine ab_iload_n dX11_runStatement_99 rfl ?_
      refine ab_iconst (v := nI 1) dX11_runStatement_100 (by decide) ?_
      refine ab_naddR dX11_runStatement_101 ?_
      refine ab_callVn [_] dX11_runStatement_102 ml_X11_369 mk_X4_digit hC1.letters.1 (c_digit (k := 1) (b := 0) (q := p + 1) (Nat.le_refl _) hC1.letters hE1 (by omega) (D 1 (by omega) (by omega))) (fun x hh hq => ?_)
      obtain ⟨hhe, rfl⟩ := hq
      rw [hhe]
      refine ab_iload_n dX11_runStatement_105 rfl ?_
      refine ab_aload_n dX11_runStatement_106 rfl ?_
      refine ab_getR dX11_runStatement_107 fl_X11_33 hC1.hs hC1.p5_3 ?_
      refine ab_iload_n dX11_runStatement_110 rfl ?_
      refine ab_iconst (v := nI 2) dX11_runStatement_111 (by decide) ?_
      refine ab_naddR dX11_runStatement_112 ?_
      refine ab_iload_n dX11_runStatement_113 rfl ?_
      refine ab_naddR dX11_runStatement_114 ?_
      refine ab_callVn [_] dX11_runStatement_115 ml_X11_369 mk_X4_digit hC1.letters.1 (c_digit (k := 1) (b := 0) (q := p + 2 + i) (Nat.le_refl _) hC1.letters hE1 (by omega) (by rw [show p + 2 + i = p + (2 + i) by omega]; exact D _ (by omega) (by omega))) (fun x hh hq => ?_)
      obtain ⟨hhe, rfl⟩ := hq
      rw [hhe]
      refine ab_callVv [_, _, _] dX11_runStatement_118 ml_X11_164 mk_X8_become hC1.rule.1 (c_become (k := 0) (b := 0) (r := 13) hC1.rule (by have := hok 0 (by omega); exact this) (by omega)) (fun h2 hq => ?_)
      replace hq : h2 = ab_si h1 14 (eD e (p + 1) * 4 + i) (nI (eD e (p + 2 + i))) := hq
      rw [hq]
      refine ab_nincR (ls' := [_, _, _]) dX11_runStatement_121 rfl rfl ?_
      refine ab_goto 86 dX11_runStatement_124 (by decide) ?_
      exact ih (i + 1) _ (by omega) (f.si _ _ _ (by simp)) (rU_st (f := fun i => eD e (p + 2 + i)) hr (fun t => ab_i_si_same _ _ _ _ _))
set_option maxRecDepth 100000 in
set_option maxHeartbeats 4000000 in
theorem c_run {k b p : Nat} {h : ab_H} {e : eS} {X : xS} (hk : 8 ≤ k) (hb1 : 9 ≤ b) (hb : ab_bs h) (hE9 : ab_cs h) (hC : at_C (ab_sh h) (ab_r h)) (hE : le_C e h) (hp : p < 2147000000) (hG : gp_C X h) (hw : tx_wr e p = none) (ok : tx_ok e p (xp X) (xt X)) : ab_M k b mX11_runStatement [.ref 5, .int (nI p)] h (ab_pv (fun h' => ab_gr [6, 7, 8, 9, 10, 11, 14, 19] [20, 21] h h' ∧ gp_C (tx_do e p X) h')) := by
  rcases tx_let hw with ⟨e98, D⟩ | ⟨e114, D⟩ | ⟨e112, D⟩ | ⟨e116, D⟩
  · refine ab_enter ?_
    refine ab_aload_n dX11_runStatement_0 rfl ?_
    refine ab_getR dX11_runStatement_1 fl_X11_33 hC.hs hC.p5_3 ?_
    refine ab_iload_n dX11_runStatement_4 rfl ?_
    refine ab_callVn [_] dX11_runStatement_5 ml_X11_365 mk_X4_letterAt hC.letters.1 (c_letterAt (k := 0) (b := 0) (q := p) hC.letters hE (by omega)) (fun x hh hq => ?_)
    obtain ⟨hhe, rfl⟩ := hq
    rw [hhe]
    refine ab_lookup (off := 36) 44 dX11_runStatement_8 (by decide) (by rw [e98]; decide) (by decide) ?_
    obtain ⟨o1, o2, o3⟩ := (tx_ok_b e98).mp ok
    refine ab_aload_n dX11_runStatement_44 rfl ?_
    refine ab_getR dX11_runStatement_45 fl_X11_10 hC.hs hC.p5_0 ?_
    refine ab_aload_n dX11_runStatement_48 rfl ?_
    refine ab_getR dX11_runStatement_49 fl_X11_33 hC.hs hC.p5_3 ?_
    refine ab_iload_n dX11_runStatement_52 rfl ?_
    refine ab_iconst (v := nI 1) dX11_runStatement_53 (by decide) ?_
    refine ab_naddR dX11_runStatement_54 ?_
    refine ab_callVn [_] dX11_runStatement_55 ml_X11_369 mk_X4_digit hC.letters.1 (c_digit (k := 1) (b := 0) (q := p + 1) (Nat.le_refl _) hC.letters hE (by omega) (D 1 (by omega) (by omega))) (fun x hh hq => ?_)
    obtain ⟨hhe, rfl⟩ := hq
    rw [hhe]
    refine ab_aload_n dX11_runStatement_58 rfl ?_
    refine ab_getR dX11_runStatement_59 fl_X11_33 hC.hs hC.p5_3 ?_
    refine ab_iload_n dX11_runStatement_62 rfl ?_
    refine ab_iconst (v := nI 2) dX11_runStatement_63 (by decide) ?_
    refine ab_naddR dX11_runStatement_64 ?_
    refine ab_callVn [_] dX11_runStatement_65 ml_X11_372 mk_X4_twoDigits hC.letters.1 (c_twoDigits (k := 2) (b := 0) (q := p + 2) (Nat.le_refl _) hC.letters hE (by omega) (D 2 (by omega) (by omega)) (D 3 (by omega) (by omega))) (fun x hh hq => ?_)
    obtain ⟨hhe, rfl⟩ := hq
    rw [hhe]
    refine ab_aload_n dX11_runStatement_68 rfl ?_
    refine ab_getR dX11_runStatement_69 fl_X11_33 hC.hs hC.p5_3 ?_
    refine ab_iload_n dX11_runStatement_72 rfl ?_
    refine ab_iconst (v := nI 4) dX11_runStatement_73 (by decide) ?_
    refine ab_naddR dX11_runStatement_74 ?_
    refine ab_callVn [_] dX11_runStatement_75 ml_X11_372 mk_X4_twoDigits hC.letters.1 (c_twoDigits (k := 2) (b := 0) (q := p + 4) (Nat.le_refl _) hC.letters hE (by omega) (D 4 (by omega) (by omega)) (D 5 (by omega) (by omega))) (fun x hh hq => ?_)
    obtain ⟨hhe, rfl⟩ := hq
    rw [hhe]
    refine ab_callVv [_, _, _] dX11_runStatement_78 ml_X11_62 mk_X0_cutAnew hC.board.1 (c_cutAnew (k := 7) (b := 0) (r := 6) (Nat.le_refl _) hC.board o1 o2 o3) (fun h1 hq => ?_)
    obtain ⟨f1, hB1⟩ := hq
    have g1 := ab_gr.of f1
    refine ab_goto 207 dX11_runStatement_81 (by decide) ?_
    refine ab_retv dX11_runStatement_207 ?_
    rw [tx_do_b e98]
    exact ⟨g1.mono (by simp) (fun _ q => by cases q), hB1, hG.2.1.gr g1 hb (by decide) (by simp), hG.2.2.gr g1 (mem78 (by decide)) nil78 hb (by decide) (by simp) (by simp) (by simp)⟩
  · refine ab_enter ?_
    refine ab_aload_n dX11_runStatement_0 rfl ?_
    refine ab_getR dX11_runStatement_1 fl_X11_33 hC.hs hC.p5_3 ?_
    refine ab_iload_n dX11_runStatement_4 rfl ?_
    refine ab_callVn [_] dX11_runStatement_5 ml_X11_365 mk_X4_letterAt hC.letters.1 (c_letterAt (k := 0) (b := 0) (q := p) hC.letters hE (by omega)) (fun x hh hq => ?_)
    obtain ⟨hhe, rfl⟩ := hq
    rw [hhe]
    refine ab_lookup (off := 76) 84 dX11_runStatement_8 (by decide) (by rw [e114]; decide) (by decide) ?_
    refine ab_iconst (v := nI 0) dX11_runStatement_84 (by decide) ?_
    refine ab_sti_n (ls' := [_, _, _]) dX11_runStatement_85 (by decide) rfl ?_
    exact lp_rr (by omega) hb hC hE hp hG e114 D ((tx_ok_r e114).mp ok) 4 0 h rfl (ab_fr.rf h) (fun t => by rw [if_neg (by omega)])
  · refine ab_enter ?_
    refine ab_aload_n dX11_runStatement_0 rfl ?_
    refine ab_getR dX11_runStatement_1 fl_X11_33 hC.hs hC.p5_3 ?_
    refine ab_iload_n dX11_runStatement_4 rfl ?_
    refine ab_callVn [_] dX11_runStatement_5 ml_X11_365 mk_X4_letterAt hC.letters.1 (c_letterAt (k := 0) (b := 0) (q := p) hC.letters hE (by omega)) (fun x hh hq => ?_)
    obtain ⟨hhe, rfl⟩ := hq
    rw [hhe]
    refine ab_lookup (off := 122) 130 dX11_runStatement_8 (by decide) (by rw [e112]; decide) (by decide) ?_
    obtain ⟨o1, o2, o3⟩ := (tx_ok_p e112).mp ok
    refine ab_aload_n dX11_runStatement_130 rfl ?_
    refine ab_getR dX11_runStatement_131 fl_X11_26 hC.hs hC.p5_2 ?_
    refine ab_aload_n dX11_runStatement_134 rfl ?_
    refine ab_getR dX11_runStatement_135 fl_X11_33 hC.hs hC.p5_3 ?_
    refine ab_iload_n dX11_runStatement_138 rfl ?_
    refine ab_iconst (v := nI 1) dX11_runStatement_139 (by decide) ?_
    refine ab_naddR dX11_runStatement_140 ?_
    refine ab_callVn [_] dX11_runStatement_141 ml_X11_378 mk_X4_fourDigits hC.letters.1 (c_fourDigits (k := 3) (b := 0) (q := p + 1) (Nat.le_refl _) hC.letters hE (by omega) (D 1 (by omega) (by omega)) (D 2 (by omega) (by omega)) (D 3 (by omega) (by omega)) (D 4 (by omega) (by omega))) (fun x hh hq => ?_)
    obtain ⟨hhe, rfl⟩ := hq
    rw [hhe]
    refine ab_aload_n dX11_runStatement_144 rfl ?_
    refine ab_getR dX11_runStatement_145 fl_X11_33 hC.hs hC.p5_3 ?_
    refine ab_iload_n dX11_runStatement_148 rfl ?_
    refine ab_iconst (v := nI 5) dX11_runStatement_149 (by decide) ?_
    refine ab_naddR dX11_runStatement_150 ?_
    refine ab_callVn [_] dX11_runStatement_151 ml_X11_378 mk_X4_fourDigits hC.letters.1 (c_fourDigits (k := 3) (b := 0) (q := p + 5) (Nat.le_refl _) hC.letters hE (by omega) (D 5 (by omega) (by omega)) (D 6 (by omega) (by omega)) (D 7 (by omega) (by omega)) (D 8 (by omega) (by omega))) (fun x hh hq => ?_)
    obtain ⟨hhe, rfl⟩ := hq
    rw [hhe]
    refine ab_callVv [_, _] dX11_runStatement_154 ml_X11_192 mk_X9_addPoint hC.shapes.1 (c_addPoint (k := 4) (b := 3) (Nat.le_refl _) (Nat.le_refl _) hb (by decide) hC.shapes hG.2.2 o3 ⟨eF_lt (D 1 (by omega) (by omega)) (D 2 (by omega) (by omega)) (D 3 (by omega) (by omega)) (D 4 (by omega) (by omega)), by rw [(eF_mod (q := p + 1) (D 3 (by omega) (by omega)) (D 4 (by omega) (by omega))).1]; exact Nat.ne_of_gt o1⟩ ⟨eF_lt (D 5 (by omega) (by omega)) (D 6 (by omega) (by omega)) (D 7 (by omega) (by omega)) (D 8 (by omega) (by omega)), by rw [(eF_mod (q := p + 5) (D 7 (by omega) (by omega)) (D 8 (by omega) (by omega))).1]; exact Nat.ne_of_gt o2⟩) (fun h1 hq => ?_)
    obtain ⟨g1, hS1⟩ := hq
    refine ab_goto 207 dX11_runStatement_157 (by decide) ?_
    refine ab_retv dX11_runStatement_207 ?_
    rw [tx_do_p e112]
    exact ⟨g1.mono (by simp) (by simp), hG.1.gr g1 hb (by decide) (by intro a q1 q2; simp; omega), hG.2.1.gr g1 hb (by decide) (by simp), hS1⟩
  · refine ab_enter ?_
    refine ab_aload_n dX11_runStatement_0 rfl ?_
    refine ab_getR dX11_runStatement_1 fl_X11_33 hC.hs hC.p5_3 ?_
    refine ab_iload_n dX11_runStatement_4 rfl ?_
    refine ab_callVn [_] dX11_runStatement_5 ml_X11_365 mk_X4_letterAt hC.letters.1 (c_letterAt (k := 0) (b := 0) (q := p) hC.letters hE (by omega)) (fun x hh hq => ?_)
    obtain ⟨hhe, rfl⟩ := hq
    rw [hhe]
    refine ab_lookup (off := 152) 160 dX11_runStatement_8 (by decide) (by rw [e116]; decide) (by decide) ?_
    obtain ⟨o1, o2, o3⟩ := (tx_ok_t e116).mp ok
    have l2 := eD_lt (D 2 (by omega) (by omega))
    have l3 := eD_lt (D 3 (by omega) (by omega))
    have l4 := eD_lt (D 4 (by omega) (by omega))
    have a1 := (of_decide_eq_true o2.1).2
    have a2 := (of_decide_eq_true o2.2.1).2
    have a3 := (of_decide_eq_true o2.2.2.1).2
    rw [nI_toInt (by omega)] at a1 a2 a3
    refine ab_aload_n dX11_runStatement_160 rfl ?_
    refine ab_getR dX11_runStatement_161 fl_X11_26 hC.hs hC.p5_2 ?_
    refine ab_aload_n dX11_runStatement_164 rfl ?_
    refine ab_getR dX11_runStatement_165 fl_X11_33 hC.hs hC.p5_3 ?_
    refine ab_iload_n dX11_runStatement_168 rfl ?_
    refine ab_iconst (v := nI 1) dX11_runStatement_169 (by decide) ?_
    refine ab_naddR dX11_runStatement_170 ?_
    refine ab_callVn [_] dX11_runStatement_171 ml_X11_369 mk_X4_digit hC.letters.1 (c_digit (k := 1) (b := 0) (q := p + 1) (Nat.le_refl _) hC.letters hE (by omega) (D 1 (by omega) (by omega))) (fun x hh hq => ?_)
    obtain ⟨hhe, rfl⟩ := hq
    rw [hhe]
    refine ab_aload_n dX11_runStatement_174 rfl ?_
    refine ab_getR dX11_runStatement_175 fl_X11_33 hC.hs hC.p5_3 ?_
    refine ab_iload_n dX11_runStatement_178 rfl ?_
    refine ab_iconst (v := nI 2) dX11_runStatement_179 (by decide) ?_
    refine ab_naddR dX11_runStatement_180 ?_
    refine ab_callVn [_] dX11_runStatement_181 ml_X11_369 mk_X4_digit hC.letters.1 (c_digit (k := 1) (b := 0) (q := p + 2) (Nat.le_refl _) hC.letters hE (by omega) (D 2 (by omega) (by omega))) (fun x hh hq => ?_)
    obtain ⟨hhe, rfl⟩ := hq
    rw [hhe]
    refine ab_aload_n dX11_runStatement_184 rfl ?_
    refine ab_getR dX11_runStatement_185 fl_X11_33 hC.hs hC.p5_3 ?_
    refine ab_iload_n dX11_runStatement_188 rfl ?_
    refine ab_iconst (v := nI 3) dX11_runStatement_189 (by decide) ?_
    refine ab_naddR dX11_runStatement_190 ?_
    refine ab_callVn [_] dX11_runStatement_191 ml_X11_369 mk_X4_digit hC.letters.1 (c_digit (k := 1) (b := 0) (q := p + 3) (Nat.le_refl _) hC.letters hE (by omega) (D 3 (by omega) (by omega))) (fun x hh hq => ?_)
    obtain ⟨hhe, rfl⟩ := hq
    rw [hhe]
    refine ab_aload_n dX11_runStatement_194 rfl ?_
    refine ab_getR dX11_runStatement_195 fl_X11_33 hC.hs hC.p5_3 ?_
    refine ab_iload_n dX11_runStatement_198 rfl ?_
    refine ab_iconst (v := nI 4) dX11_runStatement_199 (by decide) ?_
    refine ab_naddR dX11_runStatement_200 ?_
    refine ab_callVn [_] dX11_runStatement_201 ml_X11_369 mk_X4_digit hC.letters.1 (c_digit (k := 1) (b := 0) (q := p + 4) (Nat.le_refl _) hC.letters hE (by omega) (D 4 (by omega) (by omega))) (fun x hh hq => ?_)
    obtain ⟨hhe, rfl⟩ := hq
    rw [hhe]
    refine ab_callVv [_, _, _, _] dX11_runStatement_204 ml_X11_231 mk_X9_addTriangle hC.shapes.1 (c_addTriangle (k := 5) (b := 9) (Nat.le_refl _) (Nat.le_refl _) hb hE9 (by decide) hC.shapes hG.2.2 o3 o1 (show _ < xp X by omega) (show _ < xp X by omega) (show _ < xp X by omega) o2) (fun h1 hq => ?_)
    obtain ⟨g1, hS1⟩ := hq
    refine ab_retv dX11_runStatement_207 ?_
    rw [tx_do_t e116]
    exact ⟨g1.mono (by simp) (by simp), hG.1.gr g1 hb (by decide) (by intro a q1 q2; simp; omega), hG.2.1.gr g1 hb (by decide) (by simp), hS1⟩
set_option maxRecDepth 100000 in
set_option maxHeartbeats 4000000 in
theorem c_clear {k b : Nat} {h : ab_H} (hL : at_Letters (ab_sh h) (ab_r h) 22) : ab_M k b mX4_clear [.ref 22] h (ab_pv (fun h' => h' = ab_si h 22 0 (nI 0))) := by
  refine ab_enter ?_
  refine ab_aload_n dX4_clear_0 rfl ?_
  refine ab_iconst (v := nI 0) dX4_clear_1 (by decide) ?_
  refine ab_putI dX4_clear_2 fl_X4_19 hL.1 ?_
  refine ab_retv dX4_clear_5 ?_
  exact rfl
set_option maxRecDepth 100000 in
set_option maxHeartbeats 4000000 in
theorem lp_tx {k K : Nat} {h : ab_H} {e : eS} (hk : 9 ≤ k) (hb : ab_bs h) (hE9 : ab_cs h) (hK : K ≤ 12) (hgd : ∀ i, i < K → tx_wr e (tx_p e i 0) = none) : ∀ (j i p : Nat) (X : xS) (h1 : ab_H), i + j = K → p = tx_p e i 0 → (tx_go e j p X).2 = none → ab_gr [6, 7, 8, 9, 10, 11, 14, 19, 22, 23] [20, 21] h h1 → gp_C X h1 → at_C (ab_sh h1) (ab_r h1) → le_C e h1 → ab_i h1 22 1 = nI K → (∀ i, i < K → ab_i h1 23 i = nI (tx_p e i 0)) → ab_R k (9 * j) mX11_text 19 [some (.ref 5), some (.int (nI K)), some (.int (nI i))] [] h1 (ab_pi (fun v h' => v = ((tx_go e j p X).1, nI K).2 ∧ ab_gr [6, 7, 8, 9, 10, 11, 14, 19, 22, 23] [20, 21] h h' ∧ gp_C ((tx_go e j p X).1, nI K).1 h' ∧ le_C (0, e.2) h')) := by
  intro j
  induction j with
  | zero =>
    intro i p X h1 hi hp hgo g hG1 hC1 hE1 r1 r2
    have hb1 := hb.gr g
    refine ab_iload_n dX11_text_19 rfl ?_
    refine ab_aload_n dX11_text_20 rfl ?_
    refine ab_getR dX11_text_21 fl_X11_33 hC1.hs hC1.p5_3 ?_
    refine ab_getI dX11_text_24 fl_X11_86 hC1.letters.1 r1 ?_
    refine ab_nicmp_ge 49 dX11_text_27 (by decide) (by omega) (by omega) (fun c_27 => ?_) (fun c_27 => ?_)
    · skip
      refine ab_aload_n dX11_text_49 rfl ?_
      refine ab_getR dX11_text_50 fl_X11_33 hC1.hs hC1.p5_3 ?_
      refine ab_callVv [] dX11_text_53 ml_X11_95 mk_X4_clear hC1.letters.1 (c_clear (k := 0) (b := 0) hC1.letters) (fun h2 hq => ?_)
      replace hq : h2 = _ := hq
      have g2 : ab_gr [22] [] h1 h2 := by rw [hq]; exact (ab_gr.rf h1).siN _ _ (Or.inl (by simp))
      have l2 : le_C (0, e.2) h2 := ⟨Nat.zero_le _, fun j hj => absurd hj (Nat.not_lt_zero j), by rw [hq, ab_i_si_same, if_pos rfl], fun j hj => absurd hj (Nat.not_lt_zero j)⟩
      refine ab_iload_n dX11_text_56 rfl ?_
      refine ab_reti dX11_text_57 ?_
      exact ⟨rfl, g.trans g2 (by simp) (by simp), (hG1.gr g2 hb1 (by intro a q; simp at q; omega) (by intro a q; cases q)), l2⟩
    · skip
      exact absurd (by omega) c_27
  | succ j ih =>
    intro i p X h1 hi hp hgo g hG1 hC1 hE1 r1 r2
    have hb1 := hb.gr g
    have hw : tx_wr e p = none := by rw [hp]; exact hgd i (by omega)
    obtain ⟨-, -, w1, w2⟩ := tx_wr_none hw
    have h72 := hE1.1
    have ok : tx_ok e p (xp X) (xt X) := Classical.byContradiction (fun q => by rw [tx_go_no q] at hgo; cases hgo)
    refine ab_iload_n dX11_text_19 rfl ?_
    refine ab_aload_n dX11_text_20 rfl ?_
    refine ab_getR dX11_text_21 fl_X11_33 hC1.hs hC1.p5_3 ?_
    refine ab_getI dX11_text_24 fl_X11_86 hC1.letters.1 r1 ?_
    refine ab_nicmp_ge 49 dX11_text_27 (by decide) (by omega) (by omega) (fun c_27 => ?_) (fun c_27 => ?_)
    · skip
      exact absurd c_27 (by omega)
    · skip
      refine ab_aload_n dX11_text_30 rfl ?_
      refine ab_aload_n dX11_text_31 rfl ?_
      refine ab_getR dX11_text_32 fl_X11_33 hC1.hs hC1.p5_3 ?_
      refine ab_getR dX11_text_35 fl_X11_89 hC1.letters.1 hC1.letters.2.1 ?_
      refine ab_iload_n dX11_text_38 rfl ?_
      refine ab_iald dX11_text_39 hC1.letters.2.2.1 rfl (by omega) ((r2 i (by omega)).trans (by rw [← hp])) ?_
      refine ab_callVv [_] dX11_text_40 ml_X11_92 mk_X11_runStatement hC1.hs (c_run (k := 8) (b := 9) (Nat.le_refl _) (Nat.le_refl _) hb1 (hE9.gr g) hC1 hE1 (by omega) hG1 hw ok) (fun h2 hq => ?_)
      obtain ⟨g2, hG2⟩ := hq
      have hC2 := hC1.gr g2 hb1 (by simp)
      have hb5 : 73 ≤ ab_n h1 := hb1
      refine ab_nincR (ls' := [_, _, _]) dX11_text_43 rfl rfl ?_
      refine ab_goto 19 dX11_text_46 (by decide) ?_
      rw [tx_go_ok ok] at hgo ⊢
      exact ab_less (b' := 9 * j) (by omega) (ih (i + 1) (tx_nx e p) (tx_do e p X) h2 (by omega) (by rw [tx_p_s, ← hp]) hgo (g.trans (g2.mono (S := [6, 7, 8, 9, 10, 11, 14, 19, 22, 23]) (T := [20, 21]) (by simp) (by simp)) (fun _ q => q) (fun _ q => q)) hG2 hC2 (hE1.gr g2 hb1 (by simp) (by simp)) (by rw [((g2.2.2 22 (by omega)).2.1 (by simp)).1]; exact r1) (fun u hu => by rw [((g2.2.2 23 (by omega)).2.1 (by simp)).1]; exact r2 u hu))
theorem tx_go_bb {e : eS} : ∀ (j p : Nat) (X : xS) (w : Nat), (tx_go e j p X).2 = some w → w ≤ p + 10 * j := by
  intro j
  induction j with
  | zero => intro p X w h; cases h
  | succ j ih =>
    intro p X w h
    by_cases c : tx_ok e p (xp X) (xt X)
    · rw [tx_go_ok c] at h
      have h3 := ih _ _ _ h
      have h2 : tx_nx e p ≤ p + 10 := by (have := eG_le (eL e p); unfold tx_nx; omega)
      omega
    · rw [tx_go_no c] at h; injection h with h; omega
theorem tx_go_b {e : eS} {X : xS} {w : Nat} (h : (tx_go e (tx_rd e 12 0).1 0 X).2 = some w) : w < 1000 := by
  have h1 := tx_go_bb _ _ _ _ h
  have h2 := (tx_rd_ok (e := e) 12 0).1
  omega
set_option maxRecDepth 100000 in
set_option maxHeartbeats 4000000 in
theorem c_text {k b : Nat} {h : ab_H} {e : eS} {X : xS} (hk : 9 ≤ k) (hb2 : 108 ≤ b) (hb : ab_bs h) (hE9 : ab_cs h) (hC : at_C (ab_sh h) (ab_r h)) (hE : le_C e h) (hG : gp_C X h) : ab_M k b mX11_text [.ref 5] h (ab_pi (fun v h' => v = (sp_text e X).2 ∧ ab_gr [6, 7, 8, 9, 10, 11, 14, 19, 22, 23] [20, 21] h h' ∧ gp_C (sp_text e X).1 h' ∧ le_C (0, e.2) h')) := by
  cases hw : (tx_rd e 12 0).2 with
  | some w =>
    rw [sp_text_w hw]
    refine ab_enter ?_
    refine ab_aload_n dX11_text_0 rfl ?_
    refine ab_callVi [] dX11_text_1 ml_X11_82 mk_X11_faultOfLetters hC.hs (c_fault (k := 4) (b := 0) (X := X) (Nat.le_refl _) hC hE hG.2.2) (fun x h1 hq => ?_)
    obtain ⟨f1, hE1, q1, q2⟩ := hq
    have hC1 := hC.fr f1
    have g1 := ab_gr.of f1
    have hb1 := hb.gr g1
    have hG1 := hG.gr g1 hb (by intro a q; simp at q; omega) (by intro a q; cases q)
    obtain ⟨hx, hw9⟩ := q1 w hw
    rw [hx]
    refine ab_sti_n (ls' := [_, _, _]) dX11_text_4 (by decide) rfl ?_
    refine ab_iload_n dX11_text_5 rfl ?_
    refine ab_if_ne 49 dX11_text_6 (by decide) (fun c_6 => ?_) (fun c_6 => ?_)
    · skip
      refine ab_aload_n dX11_text_49 rfl ?_
      refine ab_getR dX11_text_50 fl_X11_33 hC1.hs hC1.p5_3 ?_
      refine ab_callVv [] dX11_text_53 ml_X11_95 mk_X4_clear hC1.letters.1 (c_clear (k := 0) (b := 0) hC1.letters) (fun h2 hq => ?_)
      replace hq : h2 = _ := hq
      have g2 : ab_gr [22] [] h1 h2 := by rw [hq]; exact (ab_gr.rf h1).siN _ _ (Or.inl (by simp))
      have l2 : le_C (0, e.2) h2 := ⟨Nat.zero_le _, fun j hj => absurd hj (Nat.not_lt_zero j), by rw [hq, ab_i_si_same, if_pos rfl], fun j hj => absurd hj (Nat.not_lt_zero j)⟩
      refine ab_iload_n dX11_text_56 rfl ?_
      refine ab_reti dX11_text_57 ?_
      exact ⟨rfl, (g1.mono (by simp) (fun _ q => by cases q)).trans g2 (by simp) (by simp), (hG1.gr g2 hb1 (by intro a q; simp at q; omega) (by intro a q; cases q)), l2⟩
    · skip
      exact absurd (by first | exact c_6 | exact Decidable.not_not.mp c_6) (nI_i hw9 _ (Or.inl (by decide)))
  | none =>
    cases hg : (tx_go e (tx_rd e 12 0).1 0 X).2 with
    | some p =>
      have hp9 := tx_go_b hg
      rw [sp_text_p hw hg]
      refine ab_enter ?_
      refine ab_aload_n dX11_text_0 rfl ?_
      refine ab_callVi [] dX11_text_1 ml_X11_82 mk_X11_faultOfLetters hC.hs (c_fault (k := 4) (b := 0) (X := X) (Nat.le_refl _) hC hE hG.2.2) (fun x h1 hq => ?_)
      obtain ⟨f1, hE1, q1, q2⟩ := hq
      have hC1 := hC.fr f1
      have g1 := ab_gr.of f1
      have hb1 := hb.gr g1
      have hG1 := hG.gr g1 hb (by intro a q; simp at q; omega) (by intro a q; cases q)
      obtain ⟨hx, r1, r2⟩ := q2 hw
      rw [hg] at hx
      have hx : x = -2000 - nI p := hx
      rw [hx]
      refine ab_sti_n (ls' := [_, _, _]) dX11_text_4 (by decide) rfl ?_
      refine ab_iload_n dX11_text_5 rfl ?_
      refine ab_if_ne 49 dX11_text_6 (by decide) (fun c_6 => ?_) (fun c_6 => ?_)
      · skip
        refine ab_aload_n dX11_text_49 rfl ?_
        refine ab_getR dX11_text_50 fl_X11_33 hC1.hs hC1.p5_3 ?_
        refine ab_callVv [] dX11_text_53 ml_X11_95 mk_X4_clear hC1.letters.1 (c_clear (k := 0) (b := 0) hC1.letters) (fun h2 hq => ?_)
        replace hq : h2 = _ := hq
        have g2 : ab_gr [22] [] h1 h2 := by rw [hq]; exact (ab_gr.rf h1).siN _ _ (Or.inl (by simp))
        have l2 : le_C (0, e.2) h2 := ⟨Nat.zero_le _, fun j hj => absurd hj (Nat.not_lt_zero j), by rw [hq, ab_i_si_same, if_pos rfl], fun j hj => absurd hj (Nat.not_lt_zero j)⟩
        refine ab_iload_n dX11_text_56 rfl ?_
        refine ab_reti dX11_text_57 ?_
        exact ⟨rfl, (g1.mono (by simp) (fun _ q => by cases q)).trans g2 (by simp) (by simp), (hG1.gr g2 hb1 (by intro a q; simp at q; omega) (by intro a q; cases q)), l2⟩
      · skip
        exact absurd (by first | exact c_6 | exact Decidable.not_not.mp c_6) (nI_i hp9 _ (Or.inr (by decide)))
    | none =>
      rw [sp_text_ok hw hg]
      refine ab_enter ?_
      refine ab_aload_n dX11_text_0 rfl ?_
      refine ab_callVi [] dX11_text_1 ml_X11_82 mk_X11_faultOfLetters hC.hs (c_fault (k := 4) (b := 0) (X := X) (Nat.le_refl _) hC hE hG.2.2) (fun x h1 hq => ?_)
      obtain ⟨f1, hE1, q1, q2⟩ := hq
      have hC1 := hC.fr f1
      have g1 := ab_gr.of f1
      have hb1 := hb.gr g1
      have hG1 := hG.gr g1 hb (by intro a q; simp at q; omega) (by intro a q; cases q)
      obtain ⟨hx, r1, r2⟩ := q2 hw
      rw [hg] at hx
      have hx : x = nI 0 := hx
      rw [hx]
      refine ab_sti_n (ls' := [_, _, _]) dX11_text_4 (by decide) rfl ?_
      refine ab_iload_n dX11_text_5 rfl ?_
      refine ab_if_ne 49 dX11_text_6 (by decide) (fun c_6 => ?_) (fun c_6 => ?_)
      · skip
        exact absurd (show nI 0 = (0 : Int32) from rfl) c_6
      · skip
        refine ab_aload_n dX11_text_9 rfl ?_
        refine ab_getR dX11_text_10 fl_X11_33 hC1.hs hC1.p5_3 ?_
        refine ab_getI dX11_text_13 fl_X11_86 hC1.letters.1 r1 ?_
        refine ab_sti_n (ls' := [_, _, _]) dX11_text_16 (by decide) rfl ?_
        refine ab_iconst (v := nI 0) dX11_text_17 (by decide) ?_
        refine ab_sti_n (ls' := [_, _, _]) dX11_text_18 (by decide) rfl ?_
        obtain ⟨k1, k2⟩ := tx_rd_ok (e := e) 12 0
        exact ab_less (b' := 9 * (tx_rd e 12 0).1) (by omega) (lp_tx hk hb hE9 k1 k2 _ 0 0 X h1 (Nat.zero_add _) rfl hg (g1.mono (by simp) (fun _ q => by cases q)) hG1 hC1 hE1 r1 r2)
