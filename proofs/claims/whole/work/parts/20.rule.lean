/-! ===== the class's Rule ===== -/
/-- the parts as naturals below 4 -/
def ab_rho (h : ab_H) (a : Nat) (ρ : Nat → Nat) : Prop := ∀ j, j < 16 → ab_i h a j = nI (ρ j) ∧ ρ j < 4
theorem ab_rho.fr {S : List Nat} {h h1 : ab_H} {a : Nat} {ρ : Nat → Nat} (f : ab_fr S h h1) (ha : a ∉ S) (H : ab_rho h a ρ) : ab_rho h1 a ρ := fun j hj => by rw [ab_i_fr f ha]; exact H j hj
/-- how many lie how behind the first n of the sixteen falls of one cut -/
def ab_cut (ρ : Nat → Nat) (L : Nat → Int64) : Nat → Nat → Int64
  | 0 => fun _ => 0
  | n + 1 => fun t => if t = ρ n then ab_cut ρ L n t + L (n / 4) else ab_cut ρ L n t
def ab_one (w : Nat) (t : Nat) : Int64 := if t = w then 1 else 0
theorem ab_cut_congr {ρ : Nat → Nat} {L L' : Nat → Int64} (h : ∀ t, t < 4 → L t = L' t) : ∀ n, n ≤ 16 → ab_cut ρ L n = ab_cut ρ L' n
  | 0, _ => rfl
  | n + 1, hn => by
    funext t
    show (if t = ρ n then ab_cut ρ L n t + L (n / 4) else ab_cut ρ L n t) = (if t = ρ n then ab_cut ρ L' n t + L' (n / 4) else ab_cut ρ L' n t)
    rw [ab_cut_congr h n (by omega), h (n / 4) (by omega)]
theorem ab_cut_step {ρ : Nat → Nat} {h1 : ab_H} {r n w : Nat} {L : Nat → Int64} (hw : n / 4 = w) (hL : ab_l h1 (r + 2) w = L w) (hn : ρ n < 4) (hl : ∀ t, t < 4 → ab_l h1 (r + 3) t = ab_cut ρ L n t) : ∀ t, t < 4 → ab_l (ab_sl h1 (r + 3) (ρ n) (ab_l h1 (r + 3) (ρ n) + ab_l h1 (r + 2) w)) (r + 3) t = ab_cut ρ L (n + 1) t := by
  intro t ht
  rw [ab_l_sl, if_pos rfl, ab_up_at]
  show _ = if t = ρ n then ab_cut ρ L n t + L (n / 4) else ab_cut ρ L n t
  by_cases e : t = ρ n
  · rw [if_pos e, if_pos e, hl _ hn, hL, hw, e]
  · rw [if_neg e, if_neg e]; exact hl t ht
theorem ab_fr.mono {S S' : List Nat} {h h1 : ab_H} (f : ab_fr S h h1) (hs : ∀ a, a ∈ S → a ∈ S') : ab_fr S' h h1 := (ab_fr.rf h).trans f hs
/-- the state of the lying ones behind n cuts -/
def ab_lies (ρ : Nat → Nat) (w : Nat) : Nat → Nat → Int64
  | 0 => ab_one w
  | n + 1 => ab_cut ρ (ab_lies ρ w n) 16
set_option maxRecDepth 100000 in
set_option maxHeartbeats 4000000 in
theorem c_wayOfPart {k b r w p : Nat} {h : ab_H} {ρ : Nat → Nat} (hR : at_Rule (ab_sh h) (ab_r h) r) (hp : ab_rho h (r + 1) ρ) (hw : w < 4) (hq : p < 4) : ab_M k b mX8_wayOfPart [.ref r, .int (nI w), .int (nI p)] h (ab_pn (fun n h' => h' = h ∧ n = ρ (w * 4 + p))) := by
  refine ab_enter ?_
  refine ab_aload_n dX8_wayOfPart_0 rfl ?_
  refine ab_getR dX8_wayOfPart_1 fl_X8_11 hR.1 hR.2.1 ?_
  refine ab_iload_n dX8_wayOfPart_4 rfl ?_
  refine ab_iconst (v := nI 4) dX8_wayOfPart_5 (by decide) ?_
  refine ab_nmulR dX8_wayOfPart_6 ?_
  refine ab_iload_n dX8_wayOfPart_7 rfl ?_
  refine ab_naddR dX8_wayOfPart_8 ?_
  refine ab_iald dX8_wayOfPart_9 hR.2.2.1 rfl (by omega) (hp (w * 4 + p) (by omega)).1 ?_
  refine ab_retn dX8_wayOfPart_10 ?_
  exact ⟨rfl, rfl⟩
set_option maxRecDepth 100000 in
set_option maxHeartbeats 4000000 in
theorem c_become {k b r w p : Nat} {h : ab_H} {v : Int32} (hR : at_Rule (ab_sh h) (ab_r h) r) (hw : w < 4) (hq : p < 4) : ab_M k b mX8_become [.ref r, .int (nI w), .int (nI p), .int v] h (ab_pv (fun h' => h' = ab_si h (r + 1) (w * 4 + p) v)) := by
  refine ab_enter ?_
  refine ab_aload_n dX8_become_0 rfl ?_
  refine ab_getR dX8_become_1 fl_X8_11 hR.1 hR.2.1 ?_
  refine ab_iload_n dX8_become_4 rfl ?_
  refine ab_iconst (v := nI 4) dX8_become_5 (by decide) ?_
  refine ab_nmulR dX8_become_6 ?_
  refine ab_iload_n dX8_become_7 rfl ?_
  refine ab_naddR dX8_become_8 ?_
  refine ab_iload_n dX8_become_9 rfl ?_
  refine ab_iast dX8_become_10 hR.2.2.1 rfl (by omega) ?_
  refine ab_retv dX8_become_11 ?_
  exact rfl
set_option maxRecDepth 100000 in
set_option maxHeartbeats 4000000 in
theorem lp_startWith {k b r w : Nat} {h : ab_H} (hR : at_Rule (ab_sh h) (ab_r h) r) (hw : w < 4) : ∀ (j i : Nat) (h1 : ab_H), i + j = 4 → ab_fr [r + 2] h h1 → (∀ t, t < i → ab_l h1 (r + 2) t = ab_one w t) → ab_R k b mX8_startWith 2 [some (.ref r), some (.int (nI w)), some (.int (nI i))] [] h1 (ab_pv (fun h' => ab_fr [r + 2] h h' ∧ ∀ t, t < 4 → ab_l h' (r + 2) t = ab_one w t)) := by
  intro j
  induction j with
  | zero =>
    intro i h1 hi f hl
    obtain rfl : i = 4 := by omega
    have hR1 := at_Rule.fr f hR
    refine ab_iload_n dX8_startWith_2 rfl ?_
    refine ab_iconst (v := nI 4) dX8_startWith_3 (by decide) ?_
    refine ab_nicmp_ge 29 dX8_startWith_4 (by decide) (by omega) (by omega) (fun c_4 => ?_) (fun c_4 => ?_)
    · skip
      refine ab_retv dX8_startWith_29 ?_
      exact ⟨f, hl⟩
    · skip
      exact absurd (by omega) c_4
  | succ j ih =>
    intro i h1 hi f hl
    have hR1 := at_Rule.fr f hR
    refine ab_iload_n dX8_startWith_2 rfl ?_
    refine ab_iconst (v := nI 4) dX8_startWith_3 (by decide) ?_
    refine ab_nicmp_ge 29 dX8_startWith_4 (by decide) (by omega) (by omega) (fun c_4 => ?_) (fun c_4 => ?_)
    · skip
      exact absurd c_4 (by omega)
    · skip
      refine ab_aload_n dX8_startWith_7 rfl ?_
      refine ab_getR dX8_startWith_8 fl_X8_15 hR1.1 hR1.2.2.2.1 ?_
      refine ab_iload_n dX8_startWith_11 rfl ?_
      refine ab_iload_n dX8_startWith_12 rfl ?_
      refine ab_iload_n dX8_startWith_13 rfl ?_
      refine ab_nicmp_ne 21 dX8_startWith_14 (by decide) (by omega) (by omega) (fun c_14 => ?_) (fun c_14 => ?_)
      · skip
        refine ab_lconst (v := 0) dX8_startWith_21 (by decide) ?_
        refine ab_last dX8_startWith_22 hR1.2.2.2.2.1 rfl (by omega) ?_
        refine ab_nincR (ls' := [_, _, _]) dX8_startWith_23 rfl rfl ?_
        refine ab_goto 2 dX8_startWith_26 (by decide) ?_
        exact ih (i + 1) _ (by omega) (f.sl _ _ _ ab_mem1) (ab_sl_next hl (by unfold ab_one; first | rw [if_pos c_14] | rw [if_neg c_14]))
      · skip
        refine ab_lconst (v := 1) dX8_startWith_17 (by decide) ?_
        refine ab_goto 22 dX8_startWith_18 (by decide) ?_
        refine ab_last dX8_startWith_22 hR1.2.2.2.2.1 rfl (by omega) ?_
        refine ab_nincR (ls' := [_, _, _]) dX8_startWith_23 rfl rfl ?_
        refine ab_goto 2 dX8_startWith_26 (by decide) ?_
        exact ih (i + 1) _ (by omega) (f.sl _ _ _ ab_mem1) (ab_sl_next hl (by unfold ab_one; first | rw [if_pos c_14] | rw [if_neg c_14]))
set_option maxRecDepth 100000 in
set_option maxHeartbeats 4000000 in
theorem c_startWith {k b r w : Nat} {h : ab_H} (hR : at_Rule (ab_sh h) (ab_r h) r) (hw : w < 4) : ab_M k b mX8_startWith [.ref r, .int (nI w)] h (ab_pv (fun h' => ab_fr [r + 2] h h' ∧ ∀ t, t < 4 → ab_l h' (r + 2) t = ab_one w t)) := by
  refine ab_enter ?_
  refine ab_iconst (v := nI 0) dX8_startWith_0 (by decide) ?_
  refine ab_sti_n (ls' := [_, _, _]) dX8_startWith_1 (by decide) rfl ?_
  exact lp_startWith hR hw 4 0 h rfl (ab_fr.rf h) (fun t ht => absurd ht (Nat.not_lt_zero t))
set_option maxRecDepth 100000 in
set_option maxHeartbeats 4000000 in
theorem lp_cutC {k b r w : Nat} {h : ab_H} {ρ : Nat → Nat} {post : Value → ab_H → Prop} (hk : 1 ≤ k) (hR : at_Rule (ab_sh h) (ab_r h) r) (hp : ab_rho h (r + 1) ρ) (hw : w < 4) (cont : ∀ h1, ab_fr [r + 3] h h1 → (∀ t, t < 4 → ab_l h1 (r + 3) t = ab_cut ρ (ab_l h (r + 2)) (w * 4 + 4) t) → ab_R k b mX8_cutOnce 60 [some (.ref r), some (.int (nI w)), none] [] h1 post) : ∀ (j i : Nat) (h1 : ab_H), i + j = 4 → ab_fr [r + 3] h h1 → (∀ t, t < 4 → ab_l h1 (r + 3) t = ab_cut ρ (ab_l h (r + 2)) (w * 4 + i) t) → ab_R k b mX8_cutOnce 29 [some (.ref r), some (.int (nI w)), some (.int (nI i))] [] h1 post := by
  intro j
  induction j with
  | zero =>
    intro i h1 hi f hl
    obtain rfl : i = 4 := by omega
    have hR1 := at_Rule.fr f hR
    have hp1 := hp.fr f (by simp)
    refine ab_iload_n dX8_cutOnce_29 rfl ?_
    refine ab_iconst (v := nI 4) dX8_cutOnce_30 (by decide) ?_
    refine ab_nicmp_ge 60 dX8_cutOnce_31 (by decide) (by omega) (by omega) (fun c_31 => ?_) (fun c_31 => ?_)
    · skip
      exact ab_weak (cont h1 f hl) ⟨rfl, rfl, trivial⟩
    · skip
      exact absurd (by omega) c_31
  | succ j ih =>
    intro i h1 hi f hl
    have hR1 := at_Rule.fr f hR
    have hp1 := hp.fr f (by simp)
    refine ab_iload_n dX8_cutOnce_29 rfl ?_
    refine ab_iconst (v := nI 4) dX8_cutOnce_30 (by decide) ?_
    refine ab_nicmp_ge 60 dX8_cutOnce_31 (by decide) (by omega) (by omega) (fun c_31 => ?_) (fun c_31 => ?_)
    · skip
      exact absurd c_31 (by omega)
    · skip
      refine ab_aload_n dX8_cutOnce_34 rfl ?_
      refine ab_getR dX8_cutOnce_35 fl_X8_19 hR1.1 hR1.2.2.2.2.2.1 ?_
      refine ab_aload_n dX8_cutOnce_38 rfl ?_
      refine ab_iload_n dX8_cutOnce_39 rfl ?_
      refine ab_iload_n dX8_cutOnce_40 rfl ?_
      refine ab_callVn [_, _] dX8_cutOnce_41 ml_X8_41 mk_X8_wayOfPart hR1.1 (c_wayOfPart (k := 0) (b := 0) hR1 hp1 hw (by omega)) (fun x h1 hq => ?_)
      obtain ⟨rfl, rfl⟩ := hq
      refine ab_dup2 dX8_cutOnce_44 rfl rfl ?_
      refine ab_lald dX8_cutOnce_45 hR1.2.2.2.2.2.2.1 rfl (hp (w * 4 + i) (by omega)).2 rfl ?_
      refine ab_aload_n dX8_cutOnce_46 rfl ?_
      refine ab_getR dX8_cutOnce_47 fl_X8_15 hR1.1 hR1.2.2.2.1 ?_
      refine ab_iload_n dX8_cutOnce_50 rfl ?_
      refine ab_lald dX8_cutOnce_51 hR1.2.2.2.2.1 rfl (by omega) rfl ?_
      refine ab_ladd dX8_cutOnce_52 ?_
      refine ab_last dX8_cutOnce_53 hR1.2.2.2.2.2.2.1 rfl (hp (w * 4 + i) (by omega)).2 ?_
      refine ab_nincR (ls' := [_, _, _]) dX8_cutOnce_54 rfl rfl ?_
      refine ab_goto 29 dX8_cutOnce_57 (by decide) ?_
      exact ih (i + 1) _ (by omega) (f.sl _ _ _ ab_mem1) (ab_cut_step (by omega) (congrFun (ab_l_fr f (by simp)) w) (hp (w * 4 + i) (by omega)).2 hl)
set_option maxRecDepth 100000 in
set_option maxHeartbeats 4000000 in
theorem lp_cutB {k b r : Nat} {h : ab_H} {ρ : Nat → Nat} (hk : 1 ≤ k) (hR : at_Rule (ab_sh h) (ab_r h) r) (hp : ab_rho h (r + 1) ρ) : ∀ (j w : Nat) (h1 : ab_H), w + j = 4 → ab_fr [r + 3] h h1 → (∀ t, t < 4 → ab_l h1 (r + 3) t = ab_cut ρ (ab_l h (r + 2)) (w * 4) t) → ab_R k b mX8_cutOnce 22 [some (.ref r), some (.int (nI w)), none] [] h1 (ab_pv (fun h' => ab_fr [r + 2, r + 3] h h' ∧ ∀ t, t < 4 → ab_l h' (r + 2) t = ab_cut ρ (ab_l h (r + 2)) 16 t)) := by
  intro j
  induction j with
  | zero =>
    intro w h1 hi f hl
    obtain rfl : w = 4 := by omega
    have hR1 := at_Rule.fr f hR
    have hp1 := hp.fr f (by simp)
    refine ab_iload_n dX8_cutOnce_22 rfl ?_
    refine ab_iconst (v := nI 4) dX8_cutOnce_23 (by decide) ?_
    refine ab_nicmp_ge 66 dX8_cutOnce_24 (by decide) (by omega) (by omega) (fun c_24 => ?_) (fun c_24 => ?_)
    · skip
      refine ab_aload_n dX8_cutOnce_66 rfl ?_
      refine ab_getR dX8_cutOnce_67 fl_X8_19 hR1.1 hR1.2.2.2.2.2.1 ?_
      refine ab_iconst (v := nI 0) dX8_cutOnce_70 (by decide) ?_
      refine ab_aload_n dX8_cutOnce_71 rfl ?_
      refine ab_getR dX8_cutOnce_72 fl_X8_15 hR1.1 hR1.2.2.2.1 ?_
      refine ab_iconst (v := nI 0) dX8_cutOnce_75 (by decide) ?_
      refine ab_iconst (v := nI 4) dX8_cutOnce_76 (by decide) ?_
      refine ab_copyL dX8_cutOnce_77 ml_X8_28 hR1.2.2.2.2.2.2.1 hR1.2.2.2.2.1 rfl rfl rfl ?_
      refine ab_retv dX8_cutOnce_80 ?_
      refine ⟨(f.mono (by simp)).sL _ _ (by simp), fun t ht => ?_⟩
      rw [ab_l_sL, if_pos rfl]
      exact hl t ht
    · skip
      exact absurd (by omega) c_24
  | succ j ih =>
    intro w h1 hi f hl
    have hR1 := at_Rule.fr f hR
    have hp1 := hp.fr f (by simp)
    refine ab_iload_n dX8_cutOnce_22 rfl ?_
    refine ab_iconst (v := nI 4) dX8_cutOnce_23 (by decide) ?_
    refine ab_nicmp_ge 66 dX8_cutOnce_24 (by decide) (by omega) (by omega) (fun c_24 => ?_) (fun c_24 => ?_)
    · skip
      exact absurd c_24 (by omega)
    · skip
      refine ab_iconst (v := nI 0) dX8_cutOnce_27 (by decide) ?_
      refine ab_sti_n (ls' := [_, _, _]) dX8_cutOnce_28 (by decide) rfl ?_
      refine lp_cutC hk hR hp (by omega) (fun h2 f2 hl2 => ?_) 4 0 h1 rfl f hl
      refine ab_nincR (ls' := [_, _, _]) dX8_cutOnce_60 rfl rfl ?_
      refine ab_goto 22 dX8_cutOnce_63 (by decide) ?_
      exact ih (w + 1) h2 (by omega) f2 (by rw [Nat.succ_mul]; exact hl2)
set_option maxRecDepth 100000 in
set_option maxHeartbeats 4000000 in
theorem lp_cutA {k b r : Nat} {h : ab_H} {ρ : Nat → Nat} (hk : 1 ≤ k) (hR : at_Rule (ab_sh h) (ab_r h) r) (hp : ab_rho h (r + 1) ρ) : ∀ (j i : Nat) (h1 : ab_H), i + j = 4 → ab_fr [r + 3] h h1 → (∀ t, t < i → ab_l h1 (r + 3) t = (fun _ => 0 : Nat → Int64) t) → ab_R k b mX8_cutOnce 2 [some (.ref r), some (.int (nI i)), none] [] h1 (ab_pv (fun h' => ab_fr [r + 2, r + 3] h h' ∧ ∀ t, t < 4 → ab_l h' (r + 2) t = ab_cut ρ (ab_l h (r + 2)) 16 t)) := by
  intro j
  induction j with
  | zero =>
    intro i h1 hi f hl
    obtain rfl : i = 4 := by omega
    have hR1 := at_Rule.fr f hR
    refine ab_iload_n dX8_cutOnce_2 rfl ?_
    refine ab_iconst (v := nI 4) dX8_cutOnce_3 (by decide) ?_
    refine ab_nicmp_ge 20 dX8_cutOnce_4 (by decide) (by omega) (by omega) (fun c_4 => ?_) (fun c_4 => ?_)
    · skip
      refine ab_iconst (v := nI 0) dX8_cutOnce_20 (by decide) ?_
      refine ab_sti_n (ls' := [_, _, _]) dX8_cutOnce_21 (by decide) rfl ?_
      exact lp_cutB hk hR hp 4 0 h1 rfl f hl
    · skip
      exact absurd (by omega) c_4
  | succ j ih =>
    intro i h1 hi f hl
    have hR1 := at_Rule.fr f hR
    refine ab_iload_n dX8_cutOnce_2 rfl ?_
    refine ab_iconst (v := nI 4) dX8_cutOnce_3 (by decide) ?_
    refine ab_nicmp_ge 20 dX8_cutOnce_4 (by decide) (by omega) (by omega) (fun c_4 => ?_) (fun c_4 => ?_)
    · skip
      exact absurd c_4 (by omega)
    · skip
      refine ab_aload_n dX8_cutOnce_7 rfl ?_
      refine ab_getR dX8_cutOnce_8 fl_X8_19 hR1.1 hR1.2.2.2.2.2.1 ?_
      refine ab_iload_n dX8_cutOnce_11 rfl ?_
      refine ab_lconst (v := 0) dX8_cutOnce_12 (by decide) ?_
      refine ab_last dX8_cutOnce_13 hR1.2.2.2.2.2.2.1 rfl (by omega) ?_
      refine ab_nincR (ls' := [_, _, _]) dX8_cutOnce_14 rfl rfl ?_
      refine ab_goto 2 dX8_cutOnce_17 (by decide) ?_
      exact ih (i + 1) _ (by omega) (f.sl _ _ _ ab_mem1) (ab_sl_next hl rfl)
set_option maxRecDepth 100000 in
set_option maxHeartbeats 4000000 in
theorem c_cutOnce {k b r : Nat} {h : ab_H} {ρ : Nat → Nat} (hk : 1 ≤ k) (hR : at_Rule (ab_sh h) (ab_r h) r) (hp : ab_rho h (r + 1) ρ) : ab_M k b mX8_cutOnce [.ref r] h (ab_pv (fun h' => ab_fr [r + 2, r + 3] h h' ∧ ∀ t, t < 4 → ab_l h' (r + 2) t = ab_cut ρ (ab_l h (r + 2)) 16 t)) := by
  refine ab_enter ?_
  refine ab_iconst (v := nI 0) dX8_cutOnce_0 (by decide) ?_
  refine ab_sti_n (ls' := [_, _, _]) dX8_cutOnce_1 (by decide) rfl ?_
  exact lp_cutA hk hR hp 4 0 h rfl (ab_fr.rf h) (fun t ht => absurd ht (Nat.not_lt_zero t))
