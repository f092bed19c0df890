/-! ===== the model: all statements are done, or none ===== -/
def sX (s0 s : sS) : Prop := s0.1 ≤ s.1 ∧ s0.2.2.1 ≤ s.2.2.1 ∧ (∀ i, i < s0.1 → s.2.1 i = s0.2.1 i) ∧ ∀ i, i < s0.2.2.1 → s.2.2.2 i = s0.2.2.2 i
theorem sX_rf (s : sS) : sX s s := ⟨Nat.le_refl _, Nat.le_refl _, fun _ _ => rfl, fun _ _ => rfl⟩
theorem sX_P {s0 s : sS} {x y : Nat} (h : sX s0 s) : sX s0 (sP s x y) := by
  obtain ⟨h1, h2, h3, h4⟩ := h
  refine ⟨Nat.le_succ_of_le h1, h2, fun i hi => ?_, h4⟩
  show ab_up s.2.1 s.1 (x, y) i = _
  rw [ab_up_ne _ _ (by omega)]
  exact h3 i hi
theorem sX_T {s0 s : sS} {k a b c : Nat} (h : sX s0 s) : sX s0 (sT s k a b c) := by
  obtain ⟨h1, h2, h3, h4⟩ := h
  refine ⟨h1, Nat.le_succ_of_le h2, h3, fun i hi => ?_⟩
  show ab_up s.2.2.2 s.2.2.1 (k, a, b, c) i = _
  rw [ab_up_ne _ _ (by omega)]
  exact h4 i hi
theorem sX_do {e : eS} {p : Nat} {X : xS} {s0 : sS} (hw : tx_wr e p = none) (h : sX s0 X.2.2.2.2) : sX s0 (tx_do e p X).2.2.2.2 := by
  rcases tx_let hw with ⟨c, -⟩ | ⟨c, -⟩ | ⟨c, -⟩ | ⟨c, -⟩
  · rw [tx_do_b c]; exact h
  · rw [tx_do_r c]; exact h
  · rw [tx_do_p c]; exact sX_P h
  · rw [tx_do_t c]; exact sX_T h
theorem sh_M.back {s0 s : sS} {h h' : ab_H} (H : sh_M s h) (x : sX s0 s) (hW : sW s0) (r62 : ab_i h' 62 = ab_i h 62) (r63 : ab_i h' 63 = ab_i h 63) (r64 : ab_i h' 64 = ab_i h 64) (np : ab_i h' 50 15 = nI s0.1) (nt : ab_i h' 50 17 = nI s0.2.2.1) : sh_M s0 h' := by
  obtain ⟨x1, x2, x3, x4⟩ := x
  refine ⟨hW, np, nt, fun i e hi he => ?_, fun i hi => ?_⟩
  · rw [r62, ← x3 i hi]; exact H.nu (by omega) he
  · rw [r63, r64, ← x4 i hi]; exact H.tr (by omega)
set_option maxRecDepth 100000 in
set_option maxHeartbeats 4000000 in
theorem lp_dc1 {k b : Nat} {h : ab_H} {o1 o2 o3 o4 o5 o8 o9 : Option Value} {v6 : Int32} {post : Value → ab_H → Prop} (hM : at_M (ab_sh h) (ab_r h)) : ∀ (j i : Nat) (h1 : ab_H), i + j = 16 → ab_fM [73] [] h h1 → (∀ t, t < i → ab_i h1 73 t = ab_i h 57 t) → (∀ (h2 : ab_H) (o7 : Option Value), ab_fM [73] [] h h2 → (∀ u, u < 16 → ab_i h2 73 u = ab_i h 57 u) → ab_R k b mX12_done 58 [some (.ref 50), o1, o2, o3, o4, o5, some (.int v6), o7, o8, o9] [] h2 post) → ab_R k b mX12_done 31 [some (.ref 50), o1, o2, o3, o4, o5, some (.int v6), some (.int (nI i)), o8, o9] [] h1 post := by
  intro j
  induction j with
  | zero =>
    intro i h1 hi f hl cont
    obtain rfl : i = 16 := by omega
    have hM1 := at_M.fM f hM
    refine ab_iload dX12_done_31 rfl ?_
    refine ab_bipush (v := nI 16) dX12_done_33 (by decide) ?_
    refine ab_nicmp_ge 58 dX12_done_35 (by decide) (by omega) (by omega) (fun c_35 => ?_) (fun c_35 => ?_)
    · skip
      exact cont h1 _ f (fun u hu => hl u (by omega))
    · skip
      exact absurd (by omega) c_35
  | succ j ih =>
    intro i h1 hi f hl cont
    have hM1 := at_M.fM f hM
    refine ab_iload dX12_done_31 rfl ?_
    refine ab_bipush (v := nI 16) dX12_done_33 (by decide) ?_
    refine ab_nicmp_ge 58 dX12_done_35 (by decide) (by omega) (by omega) (fun c_35 => ?_) (fun c_35 => ?_)
    · skip
      exact absurd c_35 (by omega)
    · skip
      refine ab_aload_n dX12_done_38 rfl ?_
      refine ab_getR dX12_done_39 fl_X12_97 hM1.hs hM1.p50_32 ?_
      refine ab_iload dX12_done_42 rfl ?_
      refine ab_aload_n dX12_done_44 rfl ?_
      refine ab_getR dX12_done_45 fl_X12_48 hM1.hs hM1.p50_10 ?_
      refine ab_iload dX12_done_48 rfl ?_
      refine ab_iald dX12_done_50 hM1.s57 rfl (by omega) (congrFun (f.2.2.2.2.1 57 (by decide) (by decide)).1 i) ?_
      refine ab_iast dX12_done_51 hM1.s73 rfl (by omega) ?_
      refine ab_nincR (ls' := [_, _, _, _, _, _, _, _, _, _]) dX12_done_52 rfl rfl ?_
      refine ab_goto 31 dX12_done_55 (by decide) ?_
      exact ih (i + 1) _ (by omega) (f.si _ _ (by simp) (by decide)) (fun t ht => by rw [ab_i_si_same]; exact cp_row hl ht) cont
set_option maxRecDepth 100000 in
set_option maxHeartbeats 4000000 in
theorem lp_drb {k b p : Nat} {h : ab_H} {o1 o2 o3 o4 o5 o6 o7 : Option Value} (hM : at_M (ab_sh h) (ab_r h)) : ∀ (j i : Nat) (h1 : ab_H), i + j = 16 → ab_fM [57] [] h h1 → (∀ t, t < i → ab_i h1 57 t = ab_i h 73 t) → ab_R k b mX12_done 112 [some (.ref 50), o1, o2, o3, o4, o5, o6, o7, some (.int (nI p)), some (.int (nI i))] [] h1 (ab_pi (fun v h' => v = -2000 - nI p ∧ ab_fM [57] [] h h' ∧ ∀ u, u < 16 → ab_i h' 57 u = ab_i h 73 u)) := by
  intro j
  induction j with
  | zero =>
    intro i h1 hi f hl
    obtain rfl : i = 16 := by omega
    have hM1 := at_M.fM f hM
    refine ab_iload dX12_done_112 rfl ?_
    refine ab_bipush (v := nI 16) dX12_done_114 (by decide) ?_
    refine ab_nicmp_ge 139 dX12_done_116 (by decide) (by omega) (by omega) (fun c_116 => ?_) (fun c_116 => ?_)
    · skip
      refine ab_sipush (v := -2000) dX12_done_139 (by decide) ?_
      refine ab_iload dX12_done_142 rfl ?_
      refine ab_isub dX12_done_144 ?_
      refine ab_reti dX12_done_145 ?_
      exact ⟨rfl, f, hl⟩
    · skip
      exact absurd (by omega) c_116
  | succ j ih =>
    intro i h1 hi f hl
    have hM1 := at_M.fM f hM
    refine ab_iload dX12_done_112 rfl ?_
    refine ab_bipush (v := nI 16) dX12_done_114 (by decide) ?_
    refine ab_nicmp_ge 139 dX12_done_116 (by decide) (by omega) (by omega) (fun c_116 => ?_) (fun c_116 => ?_)
    · skip
      exact absurd c_116 (by omega)
    · skip
      refine ab_aload_n dX12_done_119 rfl ?_
      refine ab_getR dX12_done_120 fl_X12_48 hM1.hs hM1.p50_10 ?_
      refine ab_iload dX12_done_123 rfl ?_
      refine ab_aload_n dX12_done_125 rfl ?_
      refine ab_getR dX12_done_126 fl_X12_97 hM1.hs hM1.p50_32 ?_
      refine ab_iload dX12_done_129 rfl ?_
      refine ab_iald dX12_done_131 hM1.s73 rfl (by omega) (congrFun (f.2.2.2.2.1 73 (by decide) (by decide)).1 i) ?_
      refine ab_iast dX12_done_132 hM1.s57 rfl (by omega) ?_
      refine ab_nincR (ls' := [_, _, _, _, _, _, _, _, _, _]) dX12_done_133 rfl rfl ?_
      refine ab_goto 112 dX12_done_136 (by decide) ?_
      exact ih (i + 1) _ (by omega) (f.si _ _ (by simp) (by decide)) (fun t ht => by rw [ab_i_si_same]; exact cp_row hl ht)
set_option maxRecDepth 100000 in
set_option maxHeartbeats 4000000 in
theorem lp_dn {k b K : Nat} {h : ab_H} {e : eS} {X0 : xS} (hk : 7 ≤ k) (hM : at_M (ab_sh h) (ab_r h)) (hE : le_M e h) (hK : K ≤ 12) (hgd : ∀ i, i < K → tx_wr e (tx_p e i 0) = none) (h0 : X0.1 ≤ 4 ∧ X0.2.1 < 2 ^ X0.1 ∧ X0.2.2.1 < 2 ^ X0.1) (hW0 : sW X0.2.2.2.2) : ∀ (j i p : Nat) (X : xS) (h1 : ab_H) (o8 o9 : Option Value), i + j = K → p = tx_p e i 0 → ab_fM [52, 53, 54, 55, 56, 57, 62, 63, 64, 72, 73] [1, 2, 3, 4, 15, 17, 30] h h1 → gp_M X h1 → ab_i h1 50 30 = nI p → ab_rho h1 73 X0.2.2.2.1 → sX X0.2.2.2.2 X.2.2.2.2 → ab_R k b mX12_done 66 [some (.ref 50), some (.int (nI K)), some (.int (nI X0.1)), some (.int (nI X0.2.1)), some (.int (nI X0.2.2.1)), some (.int (nI (xp X0))), some (.int (nI (xt X0))), some (.int (nI i)), o8, o9] [] h1 (ab_pi (fun v h' => v = oF (tx_go e j p X).2 ∧ ab_fM [52, 53, 54, 55, 56, 57, 62, 63, 64, 72, 73] [1, 2, 3, 4, 15, 17, 30] h h' ∧ ((tx_go e j p X).2 = none → gp_M (tx_go e j p X).1 h') ∧ ((tx_go e j p X).2 ≠ none → gp_M X0 h'))) := by
  intro j
  induction j with
  | zero =>
    intro i p X h1 o8 o9 hi hp f hG1 hp9 h73 hx0
    have hM1 := at_M.fM f hM
    refine ab_iload dX12_done_66 rfl ?_
    refine ab_iload_n dX12_done_68 rfl ?_
    refine ab_nicmp_ge 152 dX12_done_69 (by decide) (by omega) (by omega) (fun c_69 => ?_) (fun c_69 => ?_)
    · skip
      refine ab_iconst (v := nI 0) dX12_done_152 (by decide) ?_
      refine ab_reti dX12_done_153 ?_
      exact ⟨rfl, f, fun _ => hG1, fun q9 => absurd rfl q9⟩
    · skip
      exact absurd (by omega) c_69
  | succ j ih =>
    intro i p X h1 o8 o9 hi hp f hG1 hp9 h73 hx0
    have hM1 := at_M.fM f hM
    have hE1 := hE.fM f (by simp) (by simp)
    have hw : tx_wr e p = none := by rw [hp]; exact hgd i (by omega)
    obtain ⟨-, -, w1, w2⟩ := tx_wr_none hw
    have h72 := hE.1
    refine ab_iload dX12_done_66 rfl ?_
    refine ab_iload_n dX12_done_68 rfl ?_
    refine ab_nicmp_ge 152 dX12_done_69 (by decide) (by omega) (by omega) (fun c_69 => ?_) (fun c_69 => ?_)
    · skip
      exact absurd c_69 (by omega)
    · skip
      refine ab_aload_n dX12_done_72 rfl ?_
      refine ab_getI dX12_done_73 fl_X12_342 hM1.hs hp9 ?_
      refine ab_sti (ls' := [_, _, _, _, _, _, _, _, _, _]) dX12_done_76 (by decide) rfl ?_
      refine ab_aload_n dX12_done_78 rfl ?_
      refine ab_aload_n dX12_done_79 rfl ?_
      refine ab_callVn [] dX12_done_80 ml_X12_358 mk_X12_statement hM1.hs (m_statement (k := 1) (b := 0) (Nat.le_refl _) hM1 hE1 hp9 (by omega)) (fun v h2 hq => ?_)
      obtain ⟨f2, -, q2⟩ := hq
      obtain ⟨rfl, hat, told⟩ := q2 hw
      have hM2 := at_M.fM f2 hM1
      have hE2 := hE1.fM f2 (by simp) (by simp)
      have hG2 := hG1.fM f2 (by intro a q; simp at q; omega) (by intro a q; simp at q; omega)
      refine ab_callVb [_] dX12_done_83 ml_X12_364 mk_X12_isDone hM2.hs (m_isDone (k := 6) (b := 0) (Nat.le_refl _) hM2 hG2 hw told) (fun t h3 hq => ?_)
      obtain ⟨q3, q4, q5⟩ := hq
      refine ab_bif_ne 146 dX12_done_86 (by decide) (fun c_86 => ?_) (fun c_86 => ?_)
      · obtain ⟨f3, hG3⟩ := q5 c_86
        refine ab_nincR (ls' := [_, _, _, _, _, _, _, _, _, _]) dX12_done_146 rfl rfl ?_
        refine ab_goto 66 dX12_done_149 (by decide) ?_
        have hok := q3.mp c_86
        rw [tx_go_ok hok]
        exact ih (i + 1) (tx_nx e p) (tx_do e p X) h3 _ _ (by omega) (by rw [tx_p_s, ← hp]) ((f.trans f2 (by simp) (by simp)).trans f3 (by simp) (by simp)) hG3 (by rw [f3.2.2.2.2.2 30 (by simp)]; exact hat) (fun u hu => by rw [(f3.2.2.2.2.1 73 (by decide) (by decide)).1, (f2.2.2.2.2.1 73 (by decide) (by decide)).1]; exact h73 u hu) (sX_do hw hx0)
      · obtain rfl := q4 c_86
        refine ab_aload_n dX12_done_89 rfl ?_
        refine ab_iload_n dX12_done_90 rfl ?_
        refine ab_iload_n dX12_done_91 rfl ?_
        refine ab_iload dX12_done_92 rfl ?_
        refine ab_callVv [_, _, _] dX12_done_94 ml_X12_112 mk_X12_lays hM2.hs (m_lays2 (k := 5) (b := 0) (Nat.le_refl _) hM2 h0.1 h0.2.1 h0.2.2) (fun h4 hq => ?_)
        obtain ⟨f4, hB4⟩ := hq
        have hM4 := at_M.fM f4 hM2
        refine ab_aload_n dX12_done_97 rfl ?_
        refine ab_iload dX12_done_98 rfl ?_
        refine ab_putI dX12_done_100 fl_X12_207 hM4.hs ?_
        refine ab_aload_n dX12_done_103 rfl ?_
        refine ab_iload dX12_done_104 rfl ?_
        refine ab_putI dX12_done_106 fl_X12_238 hM4.hs ?_
        refine ab_iconst (v := nI 0) dX12_done_109 (by decide) ?_
        refine ab_sti (ls' := [_, _, _, _, _, _, _, _, _, _]) dX12_done_110 (by decide) rfl ?_
        have hM5 : at_M (ab_sh (ab_si (ab_si h4 50 15 (nI (xp X0))) 50 17 (nI (xt X0)))) (ab_r (ab_si (ab_si h4 50 15 (nI (xp X0))) 50 17 (nI (xt X0)))) := hM4
        obtain ⟨h5, e5⟩ : ∃ h5, h5 = ab_si (ab_si h4 50 15 (nI (xp X0))) 50 17 (nI (xt X0)) := ⟨_, rfl⟩
        rw [← e5] at hM5 ⊢
        have f5 : ab_fM [] [15, 17] h4 h5 := by rw [e5]; exact ((ab_fM.rf h4).s50 _ (by simp)).s50 _ (by simp)
        refine ab_mono ?_ (lp_drb hM5 16 0 h5 rfl (ab_fM.rf h5) (fun t ht => absurd ht (Nat.not_lt_zero t)))
        rintro v9 h9 ⟨x9, hx9, g1, g2, g3⟩
        have hno : ¬ tx_ok e p (xp X) (xt X) := fun q9 => ab_tf (q3.mpr q9) c_86
        rw [tx_go_no hno]
        refine ⟨x9, hx9, g1, (((f.trans f2 (by simp) (by simp)).trans f4 (by simp) (by simp)).trans f5 (by simp) (by simp)).trans g2 (by simp) (by simp), fun q9 => absurd q9 (by simp), fun _ => ⟨?_, ?_, ?_⟩⟩
        · exact (hB4.fM f5 (by simp) (by intro k q1 q2; simp; omega)).fM g2 (by intro a q1 q2; simp; omega) (by simp)
        · intro u hu; rw [g3 u hu, (f5.2.2.2.2.1 73 (by decide) (by decide)).1, (f4.2.2.2.2.1 73 (by decide) (by decide)).1, (f2.2.2.2.2.1 73 (by decide) (by decide)).1]; exact h73 u hu
        · have e9 : ∀ a, 62 ≤ a → a ≤ 64 → ab_i h9 a = ab_i h3 a := fun a z1 z2 => by rw [(g2.2.2.2.2.1 a (by omega) (by simp; omega)).1, (f5.2.2.2.2.1 a (by omega) (by simp)).1, (f4.2.2.2.2.1 a (by omega) (by simp; omega)).1]
          exact hG2.2.2.back hx0 hW0 (e9 62 (by decide) (by decide)) (e9 63 (by decide) (by decide)) (e9 64 (by decide) (by decide)) (by rw [g2.2.2.2.2.2 15 (by simp), e5, ab_i_at, ab_up_ne _ _ (by decide), ab_i_at, ab_up_self]) (by rw [g2.2.2.2.2.2 17 (by simp), e5, ab_i_at, ab_up_self])
set_option maxRecDepth 100000 in
set_option maxHeartbeats 4000000 in
theorem m_done {k b K : Nat} {h : ab_H} {e : eS} {X0 : xS} (hk : 7 ≤ k) (hM : at_M (ab_sh h) (ab_r h)) (hE : le_M e h) (hK : K ≤ 12) (hgd : ∀ i, i < K → tx_wr e (tx_p e i 0) = none) (hG : gp_M X0 h) : ab_M k b mX12_done [.ref 50, .int (nI K)] h (ab_pi (fun v h' => v = oF (tx_go e K 0 X0).2 ∧ ab_fM [52, 53, 54, 55, 56, 57, 62, 63, 64, 72, 73] [1, 2, 3, 4, 15, 17, 30] h h' ∧ ((tx_go e K 0 X0).2 = none → gp_M (tx_go e K 0 X0).1 h') ∧ ((tx_go e K 0 X0).2 ≠ none → gp_M X0 h'))) := by
  refine ab_enter ?_
  refine ab_aload_n dX12_done_0 rfl ?_
  refine ab_getI dX12_done_1 fl_X12_29 hM.hs hG.1.f1 ?_
  refine ab_sti_n (ls' := [_, _, _, _, _, _, _, _, _, _]) dX12_done_4 (by decide) rfl ?_
  refine ab_aload_n dX12_done_5 rfl ?_
  refine ab_getI dX12_done_6 fl_X12_127 hM.hs hG.1.f2 ?_
  refine ab_sti_n (ls' := [_, _, _, _, _, _, _, _, _, _]) dX12_done_9 (by decide) rfl ?_
  refine ab_aload_n dX12_done_10 rfl ?_
  refine ab_getI dX12_done_11 fl_X12_130 hM.hs hG.1.f3 ?_
  refine ab_sti (ls' := [_, _, _, _, _, _, _, _, _, _]) dX12_done_14 (by decide) rfl ?_
  refine ab_aload_n dX12_done_16 rfl ?_
  refine ab_getI dX12_done_17 fl_X12_207 hM.hs (show _ = nI (xp X0) from hG.2.2.np) ?_
  refine ab_sti (ls' := [_, _, _, _, _, _, _, _, _, _]) dX12_done_20 (by decide) rfl ?_
  refine ab_aload_n dX12_done_22 rfl ?_
  refine ab_getI dX12_done_23 fl_X12_238 hM.hs (show _ = nI (xt X0) from hG.2.2.nt) ?_
  refine ab_sti (ls' := [_, _, _, _, _, _, _, _, _, _]) dX12_done_26 (by decide) rfl ?_
  refine ab_iconst (v := nI 0) dX12_done_28 (by decide) ?_
  refine ab_sti (ls' := [_, _, _, _, _, _, _, _, _, _]) dX12_done_29 (by decide) rfl ?_
  refine lp_dc1 hM 16 0 h rfl (ab_fM.rf h) (fun t ht => absurd ht (Nat.not_lt_zero t)) (fun h2 o7 f2 r2 => ?_)
  have hM2 := at_M.fM f2 hM
  refine ab_aload_n dX12_done_58 rfl ?_
  refine ab_iconst (v := nI 0) dX12_done_59 (by decide) ?_
  refine ab_putI dX12_done_60 fl_X12_342 hM2.hs ?_
  refine ab_iconst (v := nI 0) dX12_done_63 (by decide) ?_
  refine ab_sti (ls' := [_, _, _, _, _, _, _, _, _, _]) dX12_done_64 (by decide) rfl ?_
  exact lp_dn hk hM hE hK hgd ⟨hG.1.n4, hG.1.hx, hG.1.hy⟩ hG.2.2.W K 0 0 X0 _ _ _ (Nat.zero_add _) rfl ((f2.mono (by simp) (by simp)).s50 _ (by simp)) (hG.fM (((f2.mono (S := [73]) (K := [30]) (by simp) (by simp)).s50 _ (by simp))) (by intro a q; simp at q; omega) (by intro a q; simp at q; omega)) (by rw [ab_i_at, ab_up_self]) (fun u hu => by rw [ab_i_off (by decide), r2 u hu]; exact hG.2.1 u hu) (sX_rf _)
