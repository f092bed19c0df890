/-! ===== the class's Rule ===== -/
set_option maxRecDepth 100000 in
set_option maxHeartbeats 4000000 in
theorem c_wayOfPart {k b r w p : Nat} {h : ab_H} {ρ : Nat → Nat} (hR : at_Rule (ab_sh h) (ab_r h) r) (hp : ab_rho h (r + 1) ρ) (hw : w < 4) (hq : p < 4) : ab_M k b mX8_wayOfPart [.ref r, .int (nI w), .int (nI p)] h (ab_pn (fun n h' => h' = h ∧ n = ρ (w * 4 + p))) := by
  refine ab_enter ?_
  refine ab_aload_n dX8_wayOfPart_0 rfl ?_
  refine ab_getR dX8_wayOfPart_1 fl_X8_11 hR.1 hR.2.1 ?_
  refine ab_iload_n dX8_wayOfPart_4 rfl ?_
  refine ab_iconst (v := nI 4) dX8_wayOfPart_5 (by decide) ?_
  refine ab_nmulR dX8_wayOfPart_6 ?_
  refine ab_iload_n dX8_wayOfPart_7 rfl ?_
  refine ab_naddR dX8_wayOfPart_8 ?_
  refine ab_iald dX8_wayOfPart_9 hR.2.2.1 rfl (by omega) (hp (w * 4 + p) (by omega)).1 ?_
  refine ab_retn dX8_wayOfPart_10 ?_
  exact ⟨rfl, rfl⟩
set_option maxRecDepth 100000 in
set_option maxHeartbeats 4000000 in
theorem c_become {k b r w p : Nat} {h : ab_H} {v : Int32} (hR : at_Rule (ab_sh h) (ab_r h) r) (hw : w < 4) (hq : p < 4) : ab_M k b mX8_become [.ref r, .int (nI w), .int (nI p), .int v] h (ab_pv (fun h' => h' = ab_si h (r + 1) (w * 4 + p) v)) := by
  refine ab_enter ?_
  refine ab_aload_n dX8_become_0 rfl ?_
  refine ab_getR dX8_become_1 fl_X8_11 hR.1 hR.2.1 ?_
  refine ab_iload_n dX8_become_4 rfl ?_
  refine ab_iconst (v := nI 4) dX8_become_5 (by decide) ?_
  refine ab_nmulR dX8_become_6 ?_
  refine ab_iload_n dX8_become_7 rfl ?_
  refine ab_naddR dX8_become_8 ?_
  refine ab_iload_n dX8_become_9 rfl ?_
  refine ab_iast dX8_become_10 hR.2.2.1 rfl (by omega) ?_
  refine ab_retv dX8_become_11 ?_
  exact rfl
set_option maxRecDepth 100000 in
set_option maxHeartbeats 4000000 in
theorem c_copyFrom {k b r r2 : Nat} {h : ab_H} (hk : 1 ≤ k) (hR : at_Rule (ab_sh h) (ab_r h) r) (hQ : at_Rule (ab_sh h) (ab_r h) r2) : ab_M k b mX8_copyFrom [.ref r, .ref r2] h (ab_pv (fun h' => h' = ab_sI h (r + 1) (ab_i h (r2 + 1)))) := by
  refine ab_enter ?_
  refine ab_aload_n dX8_copyFrom_0 rfl ?_
  refine ab_getR dX8_copyFrom_1 fl_X8_11 hQ.1 hQ.2.1 ?_
  refine ab_iconst (v := nI 0) dX8_copyFrom_4 (by decide) ?_
  refine ab_aload_n dX8_copyFrom_5 rfl ?_
  refine ab_getR dX8_copyFrom_6 fl_X8_11 hR.1 hR.2.1 ?_
  refine ab_iconst (v := nI 0) dX8_copyFrom_9 (by decide) ?_
  refine ab_bipush (v := nI 16) dX8_copyFrom_10 (by decide) ?_
  refine ab_copyI dX8_copyFrom_12 ml_X8_28 hQ.2.2.1 hR.2.2.1 rfl rfl rfl ?_
  refine ab_retv dX8_copyFrom_15 ?_
  exact rfl
set_option maxRecDepth 100000 in
set_option maxHeartbeats 4000000 in
theorem lp_startWith {k b r w : Nat} {h : ab_H} (hR : at_Rule (ab_sh h) (ab_r h) r) (hw : w < 4) : ∀ (j i : Nat) (h1 : ab_H), i + j = 4 → ab_fr [r + 2] h h1 → (∀ t, t < i → ab_l h1 (r + 2) t = ab_one w t) → ab_R k b mX8_startWith 2 [some (.ref r), some (.int (nI w)), some (.int (nI i))] [] h1 (ab_pv (fun h' => ab_fr [r + 2] h h' ∧ ∀ t, t < 4 → ab_l h' (r + 2) t = ab_one w t)) := by
  intro j
  induction j with
  | zero =>
    intro i h1 hi f hl
    obtain rfl : i = 4 := by omega
    have hR1 := at_Rule.fr f hR
    refine ab_iload_n dX8_startWith_2 rfl ?_
    refine ab_iconst (v := nI 4) dX8_startWith_3 (by decide) ?_
    refine ab_nicmp_ge 29 dX8_startWith_4 (by decide) (by omega) (by omega) (fun c_4 => ?_) (fun c_4 => ?_)
    · skip
      refine ab_retv dX8_startWith_29 ?_
      exact ⟨f, hl⟩
    · skip
      exact absurd (by omega) c_4
  | succ j ih =>
    intro i h1 hi f hl
    have hR1 := at_Rule.fr f hR
    refine ab_iload_n dX8_startWith_2 rfl ?_
    refine ab_iconst (v := nI 4) dX8_startWith_3 (by decide) ?_
    refine ab_nicmp_ge 29 dX8_startWith_4 (by decide) (by omega) (by omega) (fun c_4 => ?_) (fun c_4 => ?_)
    · skip
      exact absurd c_4 (by omega)
    · skip
      refine ab_aload_n dX8_startWith_7 rfl ?_
      refine ab_getR dX8_startWith_8 fl_X8_15 hR1.1 hR1.2.2.2.1 ?_
      refine ab_iload_n dX8_startWith_11 rfl ?_
      refine ab_iload_n dX8_startWith_12 rfl ?_
      refine ab_iload_n dX8_startWith_13 rfl ?_
      refine ab_nicmp_ne 21 dX8_startWith_14 (by decide) (by omega) (by omega) (fun c_14 => ?_) (fun c_14 => ?_)
      · skip
        refine ab_lconst (v := 0) dX8_startWith_21 (by decide) ?_
        refine ab_last dX8_startWith_22 hR1.2.2.2.2.1 rfl (by omega) ?_
        refine ab_nincR (ls' := [_, _, _]) dX8_startWith_23 rfl rfl ?_
        refine ab_goto 2 dX8_startWith_26 (by decide) ?_
        exact ih (i + 1) _ (by omega) (f.sl _ _ _ ab_mem1) (ab_sl_next hl (by unfold ab_one; first | rw [if_pos c_14] | rw [if_neg c_14]))
      · skip
        refine ab_lconst (v := 1) dX8_startWith_17 (by decide) ?_
        refine ab_goto 22 dX8_startWith_18 (by decide) ?_
        refine ab_last dX8_startWith_22 hR1.2.2.2.2.1 rfl (by omega) ?_
        refine ab_nincR (ls' := [_, _, _]) dX8_startWith_23 rfl rfl ?_
        refine ab_goto 2 dX8_startWith_26 (by decide) ?_
        exact ih (i + 1) _ (by omega) (f.sl _ _ _ ab_mem1) (ab_sl_next hl (by unfold ab_one; first | rw [if_pos c_14] | rw [if_neg c_14]))
set_option maxRecDepth 100000 in
set_option maxHeartbeats 4000000 in
theorem c_startWith {k b r w : Nat} {h : ab_H} (hR : at_Rule (ab_sh h) (ab_r h) r) (hw : w < 4) : ab_M k b mX8_startWith [.ref r, .int (nI w)] h (ab_pv (fun h' => ab_fr [r + 2] h h' ∧ ∀ t, t < 4 → ab_l h' (r + 2) t = ab_one w t)) := by
  refine ab_enter ?_
  refine ab_iconst (v := nI 0) dX8_startWith_0 (by decide) ?_
  refine ab_sti_n (ls' := [_, _, _]) dX8_startWith_1 (by decide) rfl ?_
  exact lp_startWith hR hw 4 0 h rfl (ab_fr.rf h) (fun t ht => absurd ht (Nat.not_lt_zero t))
set_option maxRecDepth 100000 in
set_option maxHeartbeats 4000000 in
theorem lp_cutC {k b r w : Nat} {h : ab_H} {ρ : Nat → Nat} {post : Value → ab_H → Prop} (hk : 1 ≤ k) (hR : at_Rule (ab_sh h) (ab_r h) r) (hp : ab_rho h (r + 1) ρ) (hw : w < 4) (cont : ∀ h1, ab_fr [r + 3] h h1 → (∀ t, t < 4 → ab_l h1 (r + 3) t = ab_cut ρ (ab_l h (r + 2)) (w * 4 + 4) t) → ab_R k b mX8_cutOnce 60 [some (.ref r), some (.int (nI w)), none] [] h1 post) : ∀ (j i : Nat) (h1 : ab_H), i + j = 4 → ab_fr [r + 3] h h1 → (∀ t, t < 4 → ab_l h1 (r + 3) t = ab_cut ρ (ab_l h (r + 2)) (w * 4 + i) t) → ab_R k b mX8_cutOnce 29 [some (.ref r), some (.int (nI w)), some (.int (nI i))] [] h1 post := by
  intro j
  induction j with
  | zero =>
    intro i h1 hi f hl
    obtain rfl : i = 4 := by omega
    have hR1 := at_Rule.fr f hR
    have hp1 := hp.fr f (by simp)
    refine ab_iload_n dX8_cutOnce_29 rfl ?_
    refine ab_iconst (v := nI 4) dX8_cutOnce_30 (by decide) ?_
    refine ab_nicmp_ge 60 dX8_cutOnce_31 (by decide) (by omega) (by omega) (fun c_31 => ?_) (fun c_31 => ?_)
    · skip
      exact ab_weak (cont h1 f hl) ⟨rfl, rfl, trivial⟩
    · skip
      exact absurd (by omega) c_31
  | succ j ih =>
    intro i h1 hi f hl
    have hR1 := at_Rule.fr f hR
    have hp1 := hp.fr f (by simp)
    refine ab_iload_n dX8_cutOnce_29 rfl ?_
    refine ab_iconst (v := nI 4) dX8_cutOnce_30 (by decide) ?_
    refine ab_nicmp_ge 60 dX8_cutOnce_31 (by decide) (by omega) (by omega) (fun c_31 => ?_) (fun c_31 => ?_)
    · skip
      exact absurd c_31 (by omega)
    · skip
      refine ab_aload_n dX8_cutOnce_34 rfl ?_
      refine ab_getR dX8_cutOnce_35 fl_X8_19 hR1.1 hR1.2.2.2.2.2.1 ?_
      refine ab_aload_n dX8_cutOnce_38 rfl ?_
      refine ab_iload_n dX8_cutOnce_39 rfl ?_
      refine ab_iload_n dX8_cutOnce_40 rfl ?_
      refine ab_callVn [_, _] dX8_cutOnce_41 ml_X8_41 mk_X8_wayOfPart hR1.1 (c_wayOfPart (k := 0) (b := 0) hR1 hp1 hw (by omega)) (fun x h1 hq => ?_)
      obtain ⟨rfl, rfl⟩ := hq
      refine ab_dup2 dX8_cutOnce_44 rfl rfl ?_
      refine ab_lald dX8_cutOnce_45 hR1.2.2.2.2.2.2.1 rfl (hp (w * 4 + i) (by omega)).2 rfl ?_
      refine ab_aload_n dX8_cutOnce_46 rfl ?_
      refine ab_getR dX8_cutOnce_47 fl_X8_15 hR1.1 hR1.2.2.2.1 ?_
      refine ab_iload_n dX8_cutOnce_50 rfl ?_
      refine ab_lald dX8_cutOnce_51 hR1.2.2.2.2.1 rfl (by omega) rfl ?_
      refine ab_ladd dX8_cutOnce_52 ?_
      refine ab_last dX8_cutOnce_53 hR1.2.2.2.2.2.2.1 rfl (hp (w * 4 + i) (by omega)).2 ?_
      refine ab_nincR (ls' := [_, _, _]) dX8_cutOnce_54 rfl rfl ?_
      refine ab_goto 29 dX8_cutOnce_57 (by decide) ?_
      exact ih (i + 1) _ (by omega) (f.sl _ _ _ ab_mem1) (ab_cut_step (by omega) (congrFun (ab_l_fr f (by simp)) w) (hp (w * 4 + i) (by omega)).2 hl)
set_option maxRecDepth 100000 in
set_option maxHeartbeats 4000000 in
theorem lp_cutB {k b r : Nat} {h : ab_H} {ρ : Nat → Nat} (hk : 1 ≤ k) (hR : at_Rule (ab_sh h) (ab_r h) r) (hp : ab_rho h (r + 1) ρ) : ∀ (j w : Nat) (h1 : ab_H), w + j = 4 → ab_fr [r + 3] h h1 → (∀ t, t < 4 → ab_l h1 (r + 3) t = ab_cut ρ (ab_l h (r + 2)) (w * 4) t) → ab_R k b mX8_cutOnce 22 [some (.ref r), some (.int (nI w)), none] [] h1 (ab_pv (fun h' => ab_fr [r + 2, r + 3] h h' ∧ ∀ t, t < 4 → ab_l h' (r + 2) t = ab_cut ρ (ab_l h (r + 2)) 16 t)) := by
  intro j
  induction j with
  | zero =>
    intro w h1 hi f hl
    obtain rfl : w = 4 := by omega
    have hR1 := at_Rule.fr f hR
    have hp1 := hp.fr f (by simp)
    refine ab_iload_n dX8_cutOnce_22 rfl ?_
    refine ab_iconst (v := nI 4) dX8_cutOnce_23 (by decide) ?_
    refine ab_nicmp_ge 66 dX8_cutOnce_24 (by decide) (by omega) (by omega) (fun c_24 => ?_) (fun c_24 => ?_)
    · skip
      refine ab_aload_n dX8_cutOnce_66 rfl ?_
      refine ab_getR dX8_cutOnce_67 fl_X8_19 hR1.1 hR1.2.2.2.2.2.1 ?_
      refine ab_iconst (v := nI 0) dX8_cutOnce_70 (by decide) ?_
      refine ab_aload_n dX8_cutOnce_71 rfl ?_
      refine ab_getR dX8_cutOnce_72 fl_X8_15 hR1.1 hR1.2.2.2.1 ?_
      refine ab_iconst (v := nI 0) dX8_cutOnce_75 (by decide) ?_
      refine ab_iconst (v := nI 4) dX8_cutOnce_76 (by decide) ?_
      refine ab_copyL dX8_cutOnce_77 ml_X8_28 hR1.2.2.2.2.2.2.1 hR1.2.2.2.2.1 rfl rfl rfl ?_
      refine ab_retv dX8_cutOnce_80 ?_
      refine ⟨(f.mono (by simp)).sL _ _ (by simp), fun t ht => ?_⟩
      rw [ab_l_sL, if_pos rfl]
      exact hl t ht
    · skip
      exact absurd (by omega) c_24
  | succ j ih =>
    intro w h1 hi f hl
    have hR1 := at_Rule.fr f hR
    have hp1 := hp.fr f (by simp)
    refine ab_iload_n dX8_cutOnce_22 rfl ?_
    refine ab_iconst (v := nI 4) dX8_cutOnce_23 (by decide) ?_
    refine ab_nicmp_ge 66 dX8_cutOnce_24 (by decide) (by omega) (by omega) (fun c_24 => ?_) (fun c_24 => ?_)
    · skip
      exact absurd c_24 (by omega)
    · skip
      refine ab_iconst (v := nI 0) dX8_cutOnce_27 (by decide) ?_
      refine ab_sti_n (ls' := [_, _, _]) dX8_cutOnce_28 (by decide) rfl ?_
      refine lp_cutC hk hR hp (by omega) (fun h2 f2 hl2 => ?_) 4 0 h1 rfl f hl
      refine ab_nincR (ls' := [_, _, _]) dX8_cutOnce_60 rfl rfl ?_
      refine ab_goto 22 dX8_cutOnce_63 (by decide) ?_
      exact ih (w + 1) h2 (by omega) f2 (by rw [Nat.succ_mul]; exact hl2)
set_option maxRecDepth 100000 in
set_option maxHeartbeats 4000000 in
theorem lp_cutA {k b r : Nat} {h : ab_H} {ρ : Nat → Nat} (hk : 1 ≤ k) (hR : at_Rule (ab_sh h) (ab_r h) r) (hp : ab_rho h (r + 1) ρ) : ∀ (j i : Nat) (h1 : ab_H), i + j = 4 → ab_fr [r + 3] h h1 → (∀ t, t < i → ab_l h1 (r + 3) t = (fun _ => 0 : Nat → Int64) t) → ab_R k b mX8_cutOnce 2 [some (.ref r), some (.int (nI i)), none] [] h1 (ab_pv (fun h' => ab_fr [r + 2, r + 3] h h' ∧ ∀ t, t < 4 → ab_l h' (r + 2) t = ab_cut ρ (ab_l h (r + 2)) 16 t)) := by
  intro j
  induction j with
  | zero =>
    intro i h1 hi f hl
    obtain rfl : i = 4 := by omega
    have hR1 := at_Rule.fr f hR
    refine ab_iload_n dX8_cutOnce_2 rfl ?_
    refine ab_iconst (v := nI 4) dX8_cutOnce_3 (by decide) ?_
    refine ab_nicmp_ge 20 dX8_cutOnce_4 (by decide) (by omega) (by omega) (fun c_4 => ?_) (fun c_4 => ?_)
    · skip
      refine ab_iconst (v := nI 0) dX8_cutOnce_20 (by decide) ?_
      refine ab_sti_n (ls' := [_, _, _]) dX8_cutOnce_21 (by decide) rfl ?_
      exact lp_cutB hk hR hp 4 0 h1 rfl f hl
    · skip
      exact absurd (by omega) c_4
  | succ j ih =>
    intro i h1 hi f hl
    have hR1 := at_Rule.fr f hR
    refine ab_iload_n dX8_cutOnce_2 rfl ?_
    refine ab_iconst (v := nI 4) dX8_cutOnce_3 (by decide) ?_
    refine ab_nicmp_ge 20 dX8_cutOnce_4 (by decide) (by omega) (by omega) (fun c_4 => ?_) (fun c_4 => ?_)
    · skip
      exact absurd c_4 (by omega)
    · skip
      refine ab_aload_n dX8_cutOnce_7 rfl ?_
      refine ab_getR dX8_cutOnce_8 fl_X8_19 hR1.1 hR1.2.2.2.2.2.1 ?_
      refine ab_iload_n dX8_cutOnce_11 rfl ?_
      refine ab_lconst (v := 0) dX8_cutOnce_12 (by decide) ?_
      refine ab_last dX8_cutOnce_13 hR1.2.2.2.2.2.2.1 rfl (by omega) ?_
      refine ab_nincR (ls' := [_, _, _]) dX8_cutOnce_14 rfl rfl ?_
      refine ab_goto 2 dX8_cutOnce_17 (by decide) ?_
      exact ih (i + 1) _ (by omega) (f.sl _ _ _ ab_mem1) (ab_sl_next hl rfl)
set_option maxRecDepth 100000 in
set_option maxHeartbeats 4000000 in
theorem c_cutOnce {k b r : Nat} {h : ab_H} {ρ : Nat → Nat} (hk : 1 ≤ k) (hR : at_Rule (ab_sh h) (ab_r h) r) (hp : ab_rho h (r + 1) ρ) : ab_M k b mX8_cutOnce [.ref r] h (ab_pv (fun h' => ab_fr [r + 2, r + 3] h h' ∧ ∀ t, t < 4 → ab_l h' (r + 2) t = ab_cut ρ (ab_l h (r + 2)) 16 t)) := by
  refine ab_enter ?_
  refine ab_iconst (v := nI 0) dX8_cutOnce_0 (by decide) ?_
  refine ab_sti_n (ls' := [_, _, _]) dX8_cutOnce_1 (by decide) rfl ?_
  exact lp_cutA hk hR hp 4 0 h rfl (ab_fr.rf h) (fun t ht => absurd ht (Nat.not_lt_zero t))
set_option maxRecDepth 100000 in
set_option maxHeartbeats 4000000 in
theorem lp_lying {k b r w n t : Nat} {h : ab_H} {ρ : Nat → Nat} (hk : 2 ≤ k) (hR : at_Rule (ab_sh h) (ab_r h) r) (hp : ab_rho h (r + 1) ρ) (hn : n ≤ 15) (ht : t < 4) : ∀ (j i : Nat) (h1 : ab_H), i + j = n → ab_fr [r + 2, r + 3] h h1 → (∀ t, t < 4 → ab_l h1 (r + 2) t = ab_lies ρ w i t) → ab_R k b mX8_lyingBehind 8 [some (.ref r), some (.int (nI w)), some (.int (nI n)), some (.int (nI t)), some (.int (nI i))] [] h1 (ab_pl (fun v h' => ab_fr [r + 2, r + 3] h h' ∧ v = ab_lies ρ w n t)) := by
  intro j
  induction j with
  | zero =>
    intro i h1 hi f hl
    obtain rfl : i = n := by omega
    have hR1 := at_Rule.fr f hR
    have hp1 := hp.fr f (by simp)
    refine ab_iload dX8_lyingBehind_8 rfl ?_
    refine ab_iload_n dX8_lyingBehind_10 rfl ?_
    refine ab_nicmp_ge 24 dX8_lyingBehind_11 (by decide) (by omega) (by omega) (fun c_11 => ?_) (fun c_11 => ?_)
    · skip
      refine ab_aload_n dX8_lyingBehind_24 rfl ?_
      refine ab_getR dX8_lyingBehind_25 fl_X8_15 hR1.1 hR1.2.2.2.1 ?_
      refine ab_iload_n dX8_lyingBehind_28 rfl ?_
      refine ab_lald dX8_lyingBehind_29 hR1.2.2.2.2.1 rfl ht rfl ?_
      refine ab_retl dX8_lyingBehind_30 ?_
      exact ⟨f, hl t ht⟩
    · skip
      exact absurd (Nat.le_refl _) c_11
  | succ j ih =>
    intro i h1 hi f hl
    have hR1 := at_Rule.fr f hR
    have hp1 := hp.fr f (by simp)
    refine ab_iload dX8_lyingBehind_8 rfl ?_
    refine ab_iload_n dX8_lyingBehind_10 rfl ?_
    refine ab_nicmp_ge 24 dX8_lyingBehind_11 (by decide) (by omega) (by omega) (fun c_11 => ?_) (fun c_11 => ?_)
    · skip
      exact absurd c_11 (by omega)
    · skip
      refine ab_aload_n dX8_lyingBehind_14 rfl ?_
      refine ab_callVv [] dX8_lyingBehind_15 ml_X8_38 mk_X8_cutOnce hR1.1 (c_cutOnce (k := 1) (b := 0) (by omega) hR1 hp1) (fun h2 hq => ?_)
      obtain ⟨f2, hl2⟩ := hq
      refine ab_nincR (ls' := [_, _, _, _, _]) dX8_lyingBehind_18 rfl rfl ?_
      refine ab_goto 8 dX8_lyingBehind_21 (by decide) ?_
      exact ih (i + 1) h2 (by omega) (f.trans f2 (by simp)) (fun t ht => by rw [hl2 t ht]; exact congrFun (ab_cut_congr hl 16 (Nat.le_refl _)) t)
set_option maxRecDepth 100000 in
set_option maxHeartbeats 4000000 in
theorem c_lyingBehind {k b r w n t : Nat} {h : ab_H} {ρ : Nat → Nat} (hk : 2 ≤ k) (hR : at_Rule (ab_sh h) (ab_r h) r) (hp : ab_rho h (r + 1) ρ) (hw : w < 4) (hn : n ≤ 15) (ht : t < 4) : ab_M k b mX8_lyingBehind [.ref r, .int (nI w), .int (nI n), .int (nI t)] h (ab_pl (fun v h' => ab_fr [r + 2, r + 3] h h' ∧ v = ab_lies ρ w n t)) := by
  refine ab_enter ?_
  refine ab_aload_n dX8_lyingBehind_0 rfl ?_
  refine ab_iload_n dX8_lyingBehind_1 rfl ?_
  refine ab_callVv [_] dX8_lyingBehind_2 ml_X8_34 mk_X8_startWith hR.1 (c_startWith (k := 0) (b := 0) hR hw) (fun h1 hq => ?_)
  obtain ⟨f, hl⟩ := hq
  have hR1 := at_Rule.fr f hR
  refine ab_iconst (v := nI 0) dX8_lyingBehind_5 (by decide) ?_
  refine ab_sti (ls' := [_, _, _, _, _]) dX8_lyingBehind_6 (by decide) rfl ?_
  exact lp_lying hk hR hp hn ht n 0 h1 (by omega) (f.mono (by simp)) hl
set_option maxRecDepth 100000 in
set_option maxHeartbeats 4000000 in
theorem lp_falls {k b r w : Nat} {h : ab_H} {ρ : Nat → Nat} (hk : 2 ≤ k) (hR : at_Rule (ab_sh h) (ab_r h) r) (hp : ab_rho h (r + 1) ρ) : ∀ (j i : Nat) (h1 : ab_H), i + j = 15 → ab_fr [r + 2, r + 3] h h1 → (∀ t, t < 4 → ab_l h1 (r + 2) t = ab_lies ρ w i t) → (ab_fallsFrom ρ w 15 1 = ab_fallsFrom ρ w j (i + 1)) → ab_R k b mX8_cutsToAlike 7 [some (.ref r), some (.int (nI w)), some (.int (nI (i + 1)))] [] h1 (ab_pi (fun v h' => ab_fr [r + 2, r + 3] h h' ∧ v = ab_fallsFrom ρ w 15 1)) := by
  intro j
  induction j with
  | zero =>
    intro i h1 hi f hl hv
    obtain rfl : i = 15 := by omega
    have hR1 := at_Rule.fr f hR
    have hp1 := hp.fr f (by simp)
    refine ab_iload_n dX8_cutsToAlike_7 rfl ?_
    refine ab_bipush (v := nI 15) dX8_cutsToAlike_8 (by decide) ?_
    refine ab_nicmp_gt 73 dX8_cutsToAlike_10 (by decide) (by omega) (by omega) (fun c_10 => ?_) (fun c_10 => ?_)
    · skip
      refine ab_bipush (v := -9) dX8_cutsToAlike_73 (by decide) ?_
      refine ab_reti dX8_cutsToAlike_75 ?_
      exact ⟨f, hv.symm⟩
    · skip
      exact absurd (by omega) c_10
  | succ j ih =>
    intro i h1 hi f hl hv
    have hR1 := at_Rule.fr f hR
    have hp1 := hp.fr f (by simp)
    refine ab_iload_n dX8_cutsToAlike_7 rfl ?_
    refine ab_bipush (v := nI 15) dX8_cutsToAlike_8 (by decide) ?_
    refine ab_nicmp_gt 73 dX8_cutsToAlike_10 (by decide) (by omega) (by omega) (fun c_10 => ?_) (fun c_10 => ?_)
    · skip
      exact absurd c_10 (by omega)
    · skip
      refine ab_aload_n dX8_cutsToAlike_13 rfl ?_
      refine ab_callVv [] dX8_cutsToAlike_14 ml_X8_38 mk_X8_cutOnce hR1.1 (c_cutOnce (k := 1) (b := 0) (by omega) hR1 hp1) (fun h2 hq => ?_)
      obtain ⟨f2, hl2'⟩ := hq
      have f3 := f.trans f2 (by simp)
      have hR2 := at_Rule.fr f3 hR
      have hl2 : ∀ t, t < 4 → ab_l h2 (r + 2) t = ab_lies ρ w (i + 1) t := fun t ht => by rw [hl2' t ht]; exact congrFun (ab_cut_congr hl 16 (Nat.le_refl _)) t
      refine ab_aload_n dX8_cutsToAlike_17 rfl ?_
      refine ab_getR dX8_cutsToAlike_18 fl_X8_15 hR2.1 hR2.2.2.2.1 ?_
      refine ab_iconst (v := nI 0) dX8_cutsToAlike_21 (by decide) ?_
      refine ab_lald dX8_cutsToAlike_22 hR2.2.2.2.2.1 rfl (by omega) rfl ?_
      refine ab_aload_n dX8_cutsToAlike_23 rfl ?_
      refine ab_getR dX8_cutsToAlike_24 fl_X8_15 hR2.1 hR2.2.2.2.1 ?_
      refine ab_iconst (v := nI 1) dX8_cutsToAlike_27 (by decide) ?_
      refine ab_lald dX8_cutsToAlike_28 hR2.2.2.2.2.1 rfl (by omega) rfl ?_
      refine ab_lcmp dX8_cutsToAlike_29 ?_
      refine ab_if_ne 67 dX8_cutsToAlike_30 (by decide) (fun c_30 => ?_) (fun c_30 => ?_)
      · skip
        refine ab_nincR (ls' := [_, _, _]) dX8_cutsToAlike_67 rfl rfl ?_
        refine ab_goto 7 dX8_cutsToAlike_70 (by decide) ?_
        exact ih (i + 1) h2 (by omega) f3 hl2 (hv.trans (ab_falls_neg (fun q => by have q := (ab_falls_no hl2).mpr q; exact c_30 q.1)))
      · skip
        refine ab_aload_n dX8_cutsToAlike_33 rfl ?_
        refine ab_getR dX8_cutsToAlike_34 fl_X8_15 hR2.1 hR2.2.2.2.1 ?_
        refine ab_iconst (v := nI 1) dX8_cutsToAlike_37 (by decide) ?_
        refine ab_lald dX8_cutsToAlike_38 hR2.2.2.2.2.1 rfl (by omega) rfl ?_
        refine ab_aload_n dX8_cutsToAlike_39 rfl ?_
        refine ab_getR dX8_cutsToAlike_40 fl_X8_15 hR2.1 hR2.2.2.2.1 ?_
        refine ab_iconst (v := nI 2) dX8_cutsToAlike_43 (by decide) ?_
        refine ab_lald dX8_cutsToAlike_44 hR2.2.2.2.2.1 rfl (by omega) rfl ?_
        refine ab_lcmp dX8_cutsToAlike_45 ?_
        refine ab_if_ne 67 dX8_cutsToAlike_46 (by decide) (fun c_46 => ?_) (fun c_46 => ?_)
        · skip
          refine ab_nincR (ls' := [_, _, _]) dX8_cutsToAlike_67 rfl rfl ?_
          refine ab_goto 7 dX8_cutsToAlike_70 (by decide) ?_
          exact ih (i + 1) h2 (by omega) f3 hl2 (hv.trans (ab_falls_neg (fun q => by have q := (ab_falls_no hl2).mpr q; exact c_46 q.2.1)))
        · skip
          refine ab_aload_n dX8_cutsToAlike_49 rfl ?_
          refine ab_getR dX8_cutsToAlike_50 fl_X8_15 hR2.1 hR2.2.2.2.1 ?_
          refine ab_iconst (v := nI 2) dX8_cutsToAlike_53 (by decide) ?_
          refine ab_lald dX8_cutsToAlike_54 hR2.2.2.2.2.1 rfl (by omega) rfl ?_
          refine ab_aload_n dX8_cutsToAlike_55 rfl ?_
          refine ab_getR dX8_cutsToAlike_56 fl_X8_15 hR2.1 hR2.2.2.2.1 ?_
          refine ab_iconst (v := nI 3) dX8_cutsToAlike_59 (by decide) ?_
          refine ab_lald dX8_cutsToAlike_60 hR2.2.2.2.2.1 rfl (by omega) rfl ?_
          refine ab_lcmp dX8_cutsToAlike_61 ?_
          refine ab_if_ne 67 dX8_cutsToAlike_62 (by decide) (fun c_62 => ?_) (fun c_62 => ?_)
          · skip
            refine ab_nincR (ls' := [_, _, _]) dX8_cutsToAlike_67 rfl rfl ?_
            refine ab_goto 7 dX8_cutsToAlike_70 (by decide) ?_
            exact ih (i + 1) h2 (by omega) f3 hl2 (hv.trans (ab_falls_neg (fun q => by have q := (ab_falls_no hl2).mpr q; exact c_62 q.2.2)))
          · skip
            refine ab_iload_n dX8_cutsToAlike_65 rfl ?_
            refine ab_reti dX8_cutsToAlike_66 ?_
            exact ⟨f3, (hv.trans (ab_falls_pos ((ab_falls_no hl2).mp ⟨c_30, c_46, c_62⟩))).symm⟩
set_option maxRecDepth 100000 in
set_option maxHeartbeats 4000000 in
theorem c_cutsToAlike {k b r w : Nat} {h : ab_H} {ρ : Nat → Nat} (hk : 2 ≤ k) (hR : at_Rule (ab_sh h) (ab_r h) r) (hp : ab_rho h (r + 1) ρ) (hw : w < 4) : ab_M k b mX8_cutsToAlike [.ref r, .int (nI w)] h (ab_pi (fun v h' => ab_fr [r + 2, r + 3] h h' ∧ v = ab_fallsFrom ρ w 15 1)) := by
  refine ab_enter ?_
  refine ab_aload_n dX8_cutsToAlike_0 rfl ?_
  refine ab_iload_n dX8_cutsToAlike_1 rfl ?_
  refine ab_callVv [_] dX8_cutsToAlike_2 ml_X8_34 mk_X8_startWith hR.1 (c_startWith (k := 0) (b := 0) hR hw) (fun h1 hq => ?_)
  obtain ⟨f, hl⟩ := hq
  refine ab_iconst (v := nI 1) dX8_cutsToAlike_5 (by decide) ?_
  refine ab_sti_n (ls' := [_, _, _]) dX8_cutsToAlike_6 (by decide) rfl ?_
  exact lp_falls hk hR hp 15 0 h1 rfl (f.mono (by simp)) hl rfl
set_option maxRecDepth 100000 in
set_option maxHeartbeats 4000000 in
theorem lp_wayAt {k b r w n a : Nat} {h : ab_H} {ρ : Nat → Nat} (hk : 1 ≤ k) (hR : at_Rule (ab_sh h) (ab_r h) r) (hp : ab_rho h (r + 1) ρ) (hn : n ≤ 15) : ∀ (j i t x : Nat), i + j = n → t < 4 → x < 2147483648 → ab_way ρ n w a = ab_way ρ j t x → ab_R k b mX8_wayAt 9 [some (.ref r), some (.int (nI w)), some (.int (nI a)), some (.int (nI n)), some (.int (nI t)), some (.int (nI x)), some (.int (nI i))] [] h (ab_pn (fun v h' => h' = h ∧ v = ab_way ρ n w a)) := by
  intro j
  induction j with
  | zero =>
    intro i t x hi ht hx hv
    obtain rfl : i = n := by omega
    refine ab_iload dX8_wayAt_9 rfl ?_
    refine ab_iload_n dX8_wayAt_11 rfl ?_
    refine ab_nicmp_ge 39 dX8_wayAt_12 (by decide) (by omega) (by omega) (fun c_12 => ?_) (fun c_12 => ?_)
    · skip
      refine ab_iload dX8_wayAt_39 rfl ?_
      refine ab_retn dX8_wayAt_41 ?_
      exact ⟨rfl, hv.symm⟩
    · skip
      exact absurd (Nat.le_refl _) c_12
  | succ j ih =>
    intro i t x hi ht hx hv
    refine ab_iload dX8_wayAt_9 rfl ?_
    refine ab_iload_n dX8_wayAt_11 rfl ?_
    refine ab_nicmp_ge 39 dX8_wayAt_12 (by decide) (by omega) (by omega) (fun c_12 => ?_) (fun c_12 => ?_)
    · skip
      exact absurd c_12 (by omega)
    · skip
      refine ab_aload_n dX8_wayAt_15 rfl ?_
      refine ab_iload dX8_wayAt_16 rfl ?_
      refine ab_iload dX8_wayAt_18 rfl ?_
      refine ab_iconst (v := nI 3) dX8_wayAt_20 (by decide) ?_
      refine ab_nandR dX8_wayAt_21 ?_
      rw [ab_and3]
      refine ab_callVn [_, _] dX8_wayAt_22 ml_X8_41 mk_X8_wayOfPart hR.1 (c_wayOfPart (k := 0) (b := 0) hR hp ht (Nat.mod_lt _ (by omega))) (fun x h1 hq => ?_)
      obtain ⟨rfl, rfl⟩ := hq
      refine ab_sti (ls' := [_, _, _, _, _, _, _]) dX8_wayAt_25 (by decide) rfl ?_
      refine ab_iload dX8_wayAt_27 rfl ?_
      refine ab_iconst (v := nI 2) dX8_wayAt_29 (by decide) ?_
      refine ab_nshrR dX8_wayAt_30 (by omega) (by omega) ?_
      rw [ab_shr2]
      refine ab_sti (ls' := [_, _, _, _, _, _, _]) dX8_wayAt_31 (by decide) rfl ?_
      refine ab_nincR (ls' := [_, _, _, _, _, _, _]) dX8_wayAt_33 rfl rfl ?_
      refine ab_goto 9 dX8_wayAt_36 (by decide) ?_
      exact ih (i + 1) _ _ (by omega) (hp (t * 4 + x % 4) (by omega)).2 (by omega) (by rw [hv, ab_way])
set_option maxRecDepth 100000 in
set_option maxHeartbeats 4000000 in
theorem c_wayAt {k b r w n a : Nat} {h : ab_H} {ρ : Nat → Nat} (hk : 1 ≤ k) (hR : at_Rule (ab_sh h) (ab_r h) r) (hp : ab_rho h (r + 1) ρ) (hw : w < 4) (ha : a < 2147483648) (hn : n ≤ 15) : ab_M k b mX8_wayAt [.ref r, .int (nI w), .int (nI a), .int (nI n)] h (ab_pn (fun v h' => h' = h ∧ v = ab_way ρ n w a)) := by
  refine ab_enter ?_
  refine ab_iload_n dX8_wayAt_0 rfl ?_
  refine ab_sti (ls' := [_, _, _, _, _, _, _]) dX8_wayAt_1 (by decide) rfl ?_
  refine ab_iload_n dX8_wayAt_3 rfl ?_
  refine ab_sti (ls' := [_, _, _, _, _, _, _]) dX8_wayAt_4 (by decide) rfl ?_
  refine ab_iconst (v := nI 0) dX8_wayAt_6 (by decide) ?_
  refine ab_sti (ls' := [_, _, _, _, _, _, _]) dX8_wayAt_7 (by decide) rfl ?_
  exact lp_wayAt hk hR hp hn n 0 w a (by omega) hw ha rfl
set_option maxRecDepth 100000 in
set_option maxHeartbeats 4000000 in
theorem lp_waysBehind {k b r s : Nat} {h : ab_H} {ρ : Nat → Nat} (hR : at_Rule (ab_sh h) (ab_r h) r) (hp : ab_rho h (r + 1) ρ) (hs : s < 16) : ∀ (j i : Nat), i + j = 16 → ab_R k b mX8_waysBehind 4 [some (.ref r), some (.int (nI s)), some (.int (nI (ab_wb ρ s i))), some (.int (nI i))] [] h (ab_pn (fun v h' => h' = h ∧ v = ab_wb ρ s 16)) := by
  intro j
  induction j with
  | zero =>
    intro i hi
    obtain rfl : i = 16 := by omega
    refine ab_iload_n dX8_waysBehind_4 rfl ?_
    refine ab_bipush (v := nI 16) dX8_waysBehind_5 (by decide) ?_
    refine ab_nicmp_ge 38 dX8_waysBehind_7 (by decide) (by omega) (by omega) (fun c_7 => ?_) (fun c_7 => ?_)
    · skip
      refine ab_iload_n dX8_waysBehind_38 rfl ?_
      refine ab_retn dX8_waysBehind_39 ?_
      exact ⟨rfl, rfl⟩
    · skip
      exact absurd (by omega) c_7
  | succ j ih =>
    intro i hi
    refine ab_iload_n dX8_waysBehind_4 rfl ?_
    refine ab_bipush (v := nI 16) dX8_waysBehind_5 (by decide) ?_
    refine ab_nicmp_ge 38 dX8_waysBehind_7 (by decide) (by omega) (by omega) (fun c_7 => ?_) (fun c_7 => ?_)
    · skip
      exact absurd c_7 (by omega)
    · skip
      refine ab_iload_n dX8_waysBehind_10 rfl ?_
      refine ab_iload_n dX8_waysBehind_11 rfl ?_
      refine ab_iconst (v := nI 4) dX8_waysBehind_12 (by decide) ?_
      refine ab_ndivR dX8_waysBehind_13 (by omega) (by decide) (by decide) ?_
      refine ab_nshrR dX8_waysBehind_14 (by omega) (by omega) ?_
      refine ab_iconst (v := nI 1) dX8_waysBehind_15 (by decide) ?_
      refine ab_nandR dX8_waysBehind_16 ?_
      refine ab_iconst (v := nI 1) dX8_waysBehind_17 (by decide) ?_
      refine ab_nicmp_ne 32 dX8_waysBehind_18 (by decide) (by rw [ab_and1]; omega) (by omega) (fun c_18 => ?_) (fun c_18 => ?_)
      · skip
        refine ab_nincR (ls' := [_, _, _, _]) dX8_waysBehind_32 rfl rfl ?_
        refine ab_goto 4 dX8_waysBehind_35 (by decide) ?_
        refine (fun q => ?_) (ih (i + 1) (by omega))
        rw [ab_wb] at q
        first | (rw [if_pos c_18] at q; exact q) | (rw [if_neg c_18] at q; exact q)
      · skip
        refine ab_iload_n dX8_waysBehind_21 rfl ?_
        refine ab_iconst (v := nI 1) dX8_waysBehind_22 (by decide) ?_
        refine ab_aload_n dX8_waysBehind_23 rfl ?_
        refine ab_getR dX8_waysBehind_24 fl_X8_11 hR.1 hR.2.1 ?_
        refine ab_iload_n dX8_waysBehind_27 rfl ?_
        refine ab_iald dX8_waysBehind_28 hR.2.2.1 rfl (by omega) (hp i (by omega)).1 ?_
        refine ab_nshlR dX8_waysBehind_29 (by have := (hp i (by omega)).2; omega) ?_
        refine ab_norR dX8_waysBehind_30 ?_
        refine ab_sti_n (ls' := [_, _, _, _]) dX8_waysBehind_31 (by decide) rfl ?_
        refine ab_nincR (ls' := [_, _, _, _]) dX8_waysBehind_32 rfl rfl ?_
        refine ab_goto 4 dX8_waysBehind_35 (by decide) ?_
        refine (fun q => ?_) (ih (i + 1) (by omega))
        rw [ab_wb] at q
        first | (rw [if_pos c_18] at q; exact q) | (rw [if_neg c_18] at q; exact q)
set_option maxRecDepth 100000 in
set_option maxHeartbeats 4000000 in
theorem c_waysBehind {k b r s : Nat} {h : ab_H} {ρ : Nat → Nat} (hR : at_Rule (ab_sh h) (ab_r h) r) (hp : ab_rho h (r + 1) ρ) (hs : s < 16) : ab_M k b mX8_waysBehind [.ref r, .int (nI s)] h (ab_pn (fun v h' => h' = h ∧ v = ab_wb ρ s 16)) := by
  refine ab_enter ?_
  refine ab_iconst (v := nI 0) dX8_waysBehind_0 (by decide) ?_
  refine ab_sti_n (ls' := [_, _, _, _]) dX8_waysBehind_1 (by decide) rfl ?_
  refine ab_iconst (v := nI 0) dX8_waysBehind_2 (by decide) ?_
  refine ab_sti_n (ls' := [_, _, _, _]) dX8_waysBehind_3 (by decide) rfl ?_
  exact lp_waysBehind hR hp hs 16 0 rfl
set_option maxRecDepth 100000 in
set_option maxHeartbeats 4000000 in
theorem lp_steadyWays {k b r w : Nat} {h : ab_H} {ρ : Nat → Nat} (hk : 1 ≤ k) (hR : at_Rule (ab_sh h) (ab_r h) r) (hp : ab_rho h (r + 1) ρ) (hρ : ∀ j, j < 16 → ρ j < 4) (hw : w < 4) : ∀ (j i : Nat), i + j = 15 → ab_R k b mX8_steadyWays 9 [some (.ref r), some (.int (nI w)), some (.int (nI (ab_set ρ w i))), some (.int (nI (ab_steady ρ w i))), some (.int (nI (i + 1)))] [] h (ab_pn (fun v h' => h' = h ∧ v = ab_steady ρ w 15)) := by
  intro j
  induction j with
  | zero =>
    intro i hi
    obtain rfl : i = 15 := by omega
    refine ab_iload dX8_steadyWays_9 rfl ?_
    refine ab_bipush (v := nI 15) dX8_steadyWays_11 (by decide) ?_
    refine ab_nicmp_gt 42 dX8_steadyWays_13 (by decide) (by omega) (by omega) (fun c_13 => ?_) (fun c_13 => ?_)
    · skip
      refine ab_iload_n dX8_steadyWays_42 rfl ?_
      refine ab_retn dX8_steadyWays_43 ?_
      exact ⟨rfl, rfl⟩
    · skip
      exact absurd (by omega) c_13
  | succ j ih =>
    intro i hi
    refine ab_iload dX8_steadyWays_9 rfl ?_
    refine ab_bipush (v := nI 15) dX8_steadyWays_11 (by decide) ?_
    refine ab_nicmp_gt 42 dX8_steadyWays_13 (by decide) (by omega) (by omega) (fun c_13 => ?_) (fun c_13 => ?_)
    · skip
      exact absurd c_13 (by omega)
    · skip
      refine ab_aload_n dX8_steadyWays_16 rfl ?_
      refine ab_iload_n dX8_steadyWays_17 rfl ?_
      refine ab_callVn [_] dX8_steadyWays_18 ml_X8_48 mk_X8_waysBehind hR.1 (c_waysBehind (k := 0) (b := 0) hR hp (ab_set_lt hρ hw i)) (fun x h1 hq => ?_)
      obtain ⟨rfl, rfl⟩ := hq
      refine ab_sti_n (ls' := [_, _, _, _, _]) dX8_steadyWays_21 (by decide) rfl ?_
      refine ab_iload_n dX8_steadyWays_22 rfl ?_
      refine ab_iload dX8_steadyWays_23 rfl ?_
      refine ab_iconst (v := nI 4) dX8_steadyWays_25 (by decide) ?_
      refine ab_nicmp_lt 33 dX8_steadyWays_26 (by decide) (by omega) (by omega) (fun c_26 => ?_) (fun c_26 => ?_)
      · skip
        refine ab_iconst (v := nI 0) dX8_steadyWays_33 (by decide) ?_
        refine ab_norR dX8_steadyWays_34 ?_
        refine ab_sti_n (ls' := [_, _, _, _, _]) dX8_steadyWays_35 (by decide) rfl ?_
        refine ab_nincR (ls' := [_, _, _, _, _]) dX8_steadyWays_36 rfl rfl ?_
        refine ab_goto 9 dX8_steadyWays_39 (by decide) ?_
        refine (fun q => ?_) (ih (i + 1) (by omega))
        rw [ab_steady] at q
        first | (rw [if_neg (by omega)] at q; rw [ab_or0]; exact q) | (rw [if_pos (by omega)] at q; exact q)
      · skip
        refine ab_iload_n dX8_steadyWays_29 rfl ?_
        refine ab_goto 34 dX8_steadyWays_30 (by decide) ?_
        refine ab_norR dX8_steadyWays_34 ?_
        refine ab_sti_n (ls' := [_, _, _, _, _]) dX8_steadyWays_35 (by decide) rfl ?_
        refine ab_nincR (ls' := [_, _, _, _, _]) dX8_steadyWays_36 rfl rfl ?_
        refine ab_goto 9 dX8_steadyWays_39 (by decide) ?_
        refine (fun q => ?_) (ih (i + 1) (by omega))
        rw [ab_steady] at q
        first | (rw [if_neg (by omega)] at q; rw [ab_or0]; exact q) | (rw [if_pos (by omega)] at q; exact q)
set_option maxRecDepth 100000 in
set_option maxHeartbeats 4000000 in
theorem c_steadyWays {k b r w : Nat} {h : ab_H} {ρ : Nat → Nat} (hk : 1 ≤ k) (hR : at_Rule (ab_sh h) (ab_r h) r) (hp : ab_rho h (r + 1) ρ) (hw : w < 4) : ab_M k b mX8_steadyWays [.ref r, .int (nI w)] h (ab_pn (fun v h' => h' = h ∧ v = ab_steady ρ w 15)) := by
  refine ab_enter ?_
  refine ab_iconst (v := nI 1) dX8_steadyWays_0 (by decide) ?_
  refine ab_iload_n dX8_steadyWays_1 rfl ?_
  refine ab_nshlR dX8_steadyWays_2 (by omega) ?_
  refine ab_sti_n (ls' := [_, _, _, _, _]) dX8_steadyWays_3 (by decide) rfl ?_
  refine ab_iconst (v := nI 0) dX8_steadyWays_4 (by decide) ?_
  refine ab_sti_n (ls' := [_, _, _, _, _]) dX8_steadyWays_5 (by decide) rfl ?_
  refine ab_iconst (v := nI 1) dX8_steadyWays_6 (by decide) ?_
  refine ab_sti (ls' := [_, _, _, _, _]) dX8_steadyWays_7 (by decide) rfl ?_
  exact lp_steadyWays hk hR hp (fun j hj => (hp j hj).2) hw 15 0 rfl
