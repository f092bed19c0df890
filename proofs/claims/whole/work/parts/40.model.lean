/-! ===== the model: refusals, ranges, the rule ===== -/
theorem ab_cmp_lt {x y : Int64} : lg_cmp x y < 0 ↔ x.toInt < y.toInt := by rw [lg_cmp_lt, Int64.lt_iff_toInt_lt]
theorem ab_cmp_gt {x y : Int64} : 0 < lg_cmp x y ↔ y.toInt < x.toInt := by rw [lg_cmp_gt, Int64.lt_iff_toInt_lt]
set_option maxRecDepth 100000 in
set_option maxHeartbeats 4000000 in
theorem m_refused {k b c : Nat} {h : ab_H} {x : Int32} (hM : at_M (ab_sh h) (ab_r h)) (hx : x = -(nI c)) (h1 : 1 ≤ c) (h6 : c ≤ 6) : ab_M k b mX12_refused [.ref 50, .int x] h (ab_pi (fun v h' => v = -(nI c) ∧ h' = ab_si h 51 c (ab_i h 51 c + 1))) := by
  subst hx
  refine ab_enter ?_
  refine ab_aload_n dX12_refused_0 rfl ?_
  refine ab_getR dX12_refused_1 fl_X12_1 hM.hs hM.p50_0 ?_
  refine ab_iload_n dX12_refused_4 rfl ?_
  refine ab_ineg dX12_refused_5 ?_
  refine ab_topI Int32.neg_neg ?_
  refine ab_dup2 dX12_refused_6 rfl rfl ?_
  refine ab_iald dX12_refused_7 hM.s51 rfl (by omega) rfl ?_
  refine ab_iconst (v := nI 1) dX12_refused_8 (by decide) ?_
  refine ab_iadd dX12_refused_9 ?_
  refine ab_iast dX12_refused_10 hM.s51 rfl (by omega) ?_
  refine ab_iload_n dX12_refused_11 rfl ?_
  refine ab_reti dX12_refused_12 ?_
  exact ⟨rfl, rfl⟩
set_option maxRecDepth 100000 in
set_option maxHeartbeats 4000000 in
theorem m_refusedFar {k b c : Nat} {h : ab_H} {x : Int32} (hk : 1 ≤ k) (hM : at_M (ab_sh h) (ab_r h)) (hx : x = -(nI c)) (h1 : 1 ≤ c) (h6 : c ≤ 6) : ab_M k b mX12_refusedFar [.ref 50, .int x] h (ab_pl (fun v h' => v = ab_far c ∧ h' = ab_si h 51 c (ab_i h 51 c + 1))) := by
  refine ab_enter ?_
  refine ab_ldc2 dX12_refusedFar_0 kc_X12_7 ?_
  refine ab_aload_n dX12_refusedFar_3 rfl ?_
  refine ab_iload_n dX12_refusedFar_4 rfl ?_
  refine ab_callVi [_] dX12_refusedFar_5 ml_X12_9 mk_X12_refused hM.hs (m_refused (k := 0) (b := 0) hM hx h1 h6) (fun x h1 hq => ?_)
  obtain ⟨rfl, rfl⟩ := hq
  refine ab_i2l dX12_refusedFar_8 ?_
  refine ab_lsub dX12_refusedFar_9 ?_
  refine ab_retl dX12_refusedFar_10 ?_
  exact ⟨rfl, rfl⟩
set_option maxRecDepth 100000 in
set_option maxHeartbeats 4000000 in
theorem m_isIn {k b : Nat} {h : ab_H} {x y z : Int64} {v lo hi : Int} (hx : x.toInt = v) (hy : y.toInt = lo) (hz : z.toInt = hi) : ab_M k b mX12_isIn [.long x, .long y, .long z] h (ab_pb (fun t h' => h' = h ∧ t = decide (lo ≤ v ∧ v ≤ hi))) := by
  refine ab_enter ?_
  refine ab_lload_n dX12_isIn_0 rfl ?_
  refine ab_lload_n dX12_isIn_1 rfl ?_
  refine ab_lcmp dX12_isIn_2 ?_
  refine ab_if_lt 17 dX12_isIn_3 (by decide) (fun c_3 => ?_) (fun c_3 => ?_)
  · skip
    refine ab_iconst (v := nI 0) dX12_isIn_17 (by decide) ?_
    refine ab_retb (x := false) dX12_isIn_18 ?_
    exact ⟨rfl, (decide_eq_false (by have := ab_cmp_lt.mp c_3; omega)).symm⟩
  · skip
    refine ab_lload_n dX12_isIn_6 rfl ?_
    refine ab_lload dX12_isIn_7 rfl ?_
    refine ab_lcmp dX12_isIn_9 ?_
    refine ab_if_gt 17 dX12_isIn_10 (by decide) (fun c_10 => ?_) (fun c_10 => ?_)
    · skip
      refine ab_iconst (v := nI 0) dX12_isIn_17 (by decide) ?_
      refine ab_retb (x := false) dX12_isIn_18 ?_
      exact ⟨rfl, (decide_eq_false (by have := ab_cmp_gt.mp c_10; omega)).symm⟩
    · skip
      refine ab_iconst (v := nI 1) dX12_isIn_13 (by decide) ?_
      refine ab_goto 18 dX12_isIn_14 (by decide) ?_
      refine ab_retb (x := true) dX12_isIn_18 ?_
      exact ⟨rfl, (decide_eq_true (by have h1 := mt ab_cmp_lt.mpr c_3; have h2 := mt ab_cmp_gt.mpr c_10; omega)).symm⟩
set_option maxRecDepth 100000 in
set_option maxHeartbeats 4000000 in
theorem m_isWay {k b : Nat} {h : ab_H} {x : Int32} (hk : 1 ≤ k) : ab_M k b mX12_isWay [.int x] h (ab_pb (fun t h' => h' = h ∧ t = ab_inr 0 3 x)) := by
  refine ab_enter ?_
  refine ab_iload_n dX12_isWay_0 rfl ?_
  refine ab_i2l dX12_isWay_1 ?_
  refine ab_lconst (v := 0) dX12_isWay_2 (by decide) ?_
  refine ab_ldc2 dX12_isWay_3 kc_X12_172 ?_
  refine ab_callSb [_, _, _] dX12_isWay_6 ml_X12_123 mk_X12_isIn (m_isIn (k := 0) (b := 0) (Int32.toInt_toInt64 _) (lo := 0) (by decide) (hi := 3) (by decide)) (fun x h1 hq => ?_)
  obtain ⟨hhe, rfl⟩ := hq
  rw [hhe]
  refine ab_retb dX12_isWay_9 ?_
  exact ⟨rfl, rfl⟩
set_option maxRecDepth 100000 in
set_option maxHeartbeats 4000000 in
theorem m_has {k b s i : Nat} {h : ab_H} (hs : s < 2147483648) (hi : i < 32) : ab_M k b mX12_has [.int (nI s), .int (nI i)] h (ab_pb (fun t h' => h' = h ∧ t = decide (s >>> i &&& 1 = 1))) := by
  refine ab_enter ?_
  refine ab_iload_n dX12_has_0 rfl ?_
  refine ab_iload_n dX12_has_1 rfl ?_
  refine ab_nshrR dX12_has_2 hs hi ?_
  refine ab_iconst (v := nI 1) dX12_has_3 (by decide) ?_
  refine ab_nandR dX12_has_4 ?_
  refine ab_iconst (v := nI 1) dX12_has_5 (by decide) ?_
  refine ab_nicmp_ne 13 dX12_has_6 (by decide) (by rw [ab_and1]; omega) (by omega) (fun c_6 => ?_) (fun c_6 => ?_)
  · skip
    refine ab_iconst (v := nI 0) dX12_has_13 (by decide) ?_
    refine ab_retb (x := false) dX12_has_14 ?_
    exact ⟨rfl, (decide_eq_false c_6).symm⟩
  · skip
    refine ab_iconst (v := nI 1) dX12_has_9 (by decide) ?_
    refine ab_goto 14 dX12_has_10 (by decide) ?_
    refine ab_retb (x := true) dX12_has_14 ?_
    exact ⟨rfl, (decide_eq_true c_6).symm⟩
set_option maxRecDepth 100000 in
set_option maxHeartbeats 4000000 in
theorem lp_begins {k b w : Nat} {h : ab_H} (hM : at_M (ab_sh h) (ab_r h)) (hw : w < 4) : ∀ (j i : Nat) (h1 : ab_H), i + j = 4 → ab_fr [58] h h1 → (∀ t, t < i → ab_l h1 58 t = ab_one w t) → ab_R k b mX12_begins 2 [some (.ref 50), some (.int (nI w)), some (.int (nI i))] [] h1 (ab_pv (fun h' => ab_fr [58] h h' ∧ ∀ t, t < 4 → ab_l h' 58 t = ab_one w t)) := by
  intro j
  induction j with
  | zero =>
    intro i h1 hi f hl
    obtain rfl : i = 4 := by omega
    have hM1 := at_M.fr f hM
    refine ab_iload_n dX12_begins_2 rfl ?_
    refine ab_iconst (v := nI 4) dX12_begins_3 (by decide) ?_
    refine ab_nicmp_ge 29 dX12_begins_4 (by decide) (by omega) (by omega) (fun c_4 => ?_) (fun c_4 => ?_)
    · skip
      refine ab_retv dX12_begins_29 ?_
      exact ⟨f, hl⟩
    · skip
      exact absurd (by omega) c_4
  | succ j ih =>
    intro i h1 hi f hl
    have hM1 := at_M.fr f hM
    refine ab_iload_n dX12_begins_2 rfl ?_
    refine ab_iconst (v := nI 4) dX12_begins_3 (by decide) ?_
    refine ab_nicmp_ge 29 dX12_begins_4 (by decide) (by omega) (by omega) (fun c_4 => ?_) (fun c_4 => ?_)
    · skip
      exact absurd c_4 (by omega)
    · skip
      refine ab_aload_n dX12_begins_7 rfl ?_
      refine ab_getR dX12_begins_8 fl_X12_51 hM1.hs hM1.p50_11 ?_
      refine ab_iload_n dX12_begins_11 rfl ?_
      refine ab_iload_n dX12_begins_12 rfl ?_
      refine ab_iload_n dX12_begins_13 rfl ?_
      refine ab_nicmp_ne 21 dX12_begins_14 (by decide) (by omega) (by omega) (fun c_14 => ?_) (fun c_14 => ?_)
      · skip
        refine ab_lconst (v := 0) dX12_begins_21 (by decide) ?_
        refine ab_last dX12_begins_22 hM1.s58 rfl (by omega) ?_
        refine ab_nincR (ls' := [_, _, _]) dX12_begins_23 rfl rfl ?_
        refine ab_goto 2 dX12_begins_26 (by decide) ?_
        exact ih (i + 1) _ (by omega) (f.sl _ _ _ ab_mem1) (ab_sl_next hl (by unfold ab_one; first | rw [if_pos c_14] | rw [if_neg c_14]))
      · skip
        refine ab_lconst (v := 1) dX12_begins_17 (by decide) ?_
        refine ab_goto 22 dX12_begins_18 (by decide) ?_
        refine ab_last dX12_begins_22 hM1.s58 rfl (by omega) ?_
        refine ab_nincR (ls' := [_, _, _]) dX12_begins_23 rfl rfl ?_
        refine ab_goto 2 dX12_begins_26 (by decide) ?_
        exact ih (i + 1) _ (by omega) (f.sl _ _ _ ab_mem1) (ab_sl_next hl (by unfold ab_one; first | rw [if_pos c_14] | rw [if_neg c_14]))
set_option maxRecDepth 100000 in
set_option maxHeartbeats 4000000 in
theorem m_begins {k b w : Nat} {h : ab_H} (hM : at_M (ab_sh h) (ab_r h)) (hw : w < 4) : ab_M k b mX12_begins [.ref 50, .int (nI w)] h (ab_pv (fun h' => ab_fr [58] h h' ∧ ∀ t, t < 4 → ab_l h' 58 t = ab_one w t)) := by
  refine ab_enter ?_
  refine ab_iconst (v := nI 0) dX12_begins_0 (by decide) ?_
  refine ab_sti_n (ls' := [_, _, _]) dX12_begins_1 (by decide) rfl ?_
  exact lp_begins hM hw 4 0 h rfl (ab_fr.rf h) (fun t ht => absurd ht (Nat.not_lt_zero t))
set_option maxRecDepth 100000 in
set_option maxHeartbeats 4000000 in
theorem lp_mfC {k b : Nat} {h : ab_H} {ρ : Nat → Nat} (hM : at_M (ab_sh h) (ab_r h)) (hU : ab_rho h 57 ρ) : ∀ (j i : Nat) (h1 : ab_H), i + j = 4 → ab_fr [58, 59] h h1 → (∀ t, t < 4 → ab_l h1 59 t = ab_cut ρ (ab_l h 58) 16 t) → (∀ t, t < i → ab_l h1 58 t = ab_cut ρ (ab_l h 58) 16 t) → ab_R k b mX12_fallsAll 58 [some (.ref 50), some (.int (nI i))] [] h1 (ab_pv (fun h' => ab_fr [58, 59] h h' ∧ ∀ t, t < 4 → ab_l h' 58 t = ab_cut ρ (ab_l h 58) 16 t)) := by
  intro j
  induction j with
  | zero =>
    intro i h1 hi f hc hl
    obtain rfl : i = 4 := by omega
    have hM1 := at_M.fr f hM
    refine ab_iload_n dX12_fallsAll_58 rfl ?_
    refine ab_iconst (v := nI 4) dX12_fallsAll_59 (by decide) ?_
    refine ab_nicmp_ge 81 dX12_fallsAll_60 (by decide) (by omega) (by omega) (fun c_60 => ?_) (fun c_60 => ?_)
    · skip
      refine ab_retv dX12_fallsAll_81 ?_
      exact ⟨f, hl⟩
    · skip
      exact absurd (by omega) c_60
  | succ j ih =>
    intro i h1 hi f hc hl
    have hM1 := at_M.fr f hM
    refine ab_iload_n dX12_fallsAll_58 rfl ?_
    refine ab_iconst (v := nI 4) dX12_fallsAll_59 (by decide) ?_
    refine ab_nicmp_ge 81 dX12_fallsAll_60 (by decide) (by omega) (by omega) (fun c_60 => ?_) (fun c_60 => ?_)
    · skip
      exact absurd c_60 (by omega)
    · skip
      refine ab_aload_n dX12_fallsAll_63 rfl ?_
      refine ab_getR dX12_fallsAll_64 fl_X12_51 hM1.hs hM1.p50_11 ?_
      refine ab_iload_n dX12_fallsAll_67 rfl ?_
      refine ab_aload_n dX12_fallsAll_68 rfl ?_
      refine ab_getR dX12_fallsAll_69 fl_X12_55 hM1.hs hM1.p50_12 ?_
      refine ab_iload_n dX12_fallsAll_72 rfl ?_
      refine ab_lald dX12_fallsAll_73 hM1.s59 rfl (by omega) rfl ?_
      refine ab_last dX12_fallsAll_74 hM1.s58 rfl (by omega) ?_
      refine ab_nincR (ls' := [_, _]) dX12_fallsAll_75 rfl rfl ?_
      refine ab_goto 58 dX12_fallsAll_78 (by decide) ?_
      exact ih (i + 1) _ (by omega) (f.sl _ _ _ (by simp)) (fun t ht => by rw [ab_l_sl, if_neg (by decide)]; exact hc t ht) (ab_sl_next hl (hc i (by omega)))
set_option maxRecDepth 100000 in
set_option maxHeartbeats 4000000 in
theorem lp_mfB {k b : Nat} {h : ab_H} {ρ : Nat → Nat} (hM : at_M (ab_sh h) (ab_r h)) (hU : ab_rho h 57 ρ) : ∀ (j i : Nat) (h1 : ab_H), i + j = 16 → ab_fr [59] h h1 → (∀ t, t < 4 → ab_l h1 59 t = ab_cut ρ (ab_l h 58) i t) → ab_R k b mX12_fallsAll 22 [some (.ref 50), some (.int (nI i))] [] h1 (ab_pv (fun h' => ab_fr [58, 59] h h' ∧ ∀ t, t < 4 → ab_l h' 58 t = ab_cut ρ (ab_l h 58) 16 t)) := by
  intro j
  induction j with
  | zero =>
    intro i h1 hi f hl
    obtain rfl : i = 16 := by omega
    have hM1 := at_M.fr f hM
    have hU1 := hU.fr f (by simp)
    refine ab_iload_n dX12_fallsAll_22 rfl ?_
    refine ab_bipush (v := nI 16) dX12_fallsAll_23 (by decide) ?_
    refine ab_nicmp_ge 56 dX12_fallsAll_25 (by decide) (by omega) (by omega) (fun c_25 => ?_) (fun c_25 => ?_)
    · skip
      refine ab_iconst (v := nI 0) dX12_fallsAll_56 (by decide) ?_
      refine ab_sti_n (ls' := [_, _]) dX12_fallsAll_57 (by decide) rfl ?_
      exact lp_mfC hM hU 4 0 h1 rfl (f.mono (by simp)) hl (fun t ht => absurd ht (Nat.not_lt_zero t))
    · skip
      exact absurd (by omega) c_25
  | succ j ih =>
    intro i h1 hi f hl
    have hM1 := at_M.fr f hM
    have hU1 := hU.fr f (by simp)
    refine ab_iload_n dX12_fallsAll_22 rfl ?_
    refine ab_bipush (v := nI 16) dX12_fallsAll_23 (by decide) ?_
    refine ab_nicmp_ge 56 dX12_fallsAll_25 (by decide) (by omega) (by omega) (fun c_25 => ?_) (fun c_25 => ?_)
    · skip
      exact absurd c_25 (by omega)
    · skip
      refine ab_aload_n dX12_fallsAll_28 rfl ?_
      refine ab_getR dX12_fallsAll_29 fl_X12_55 hM1.hs hM1.p50_12 ?_
      refine ab_aload_n dX12_fallsAll_32 rfl ?_
      refine ab_getR dX12_fallsAll_33 fl_X12_48 hM1.hs hM1.p50_10 ?_
      refine ab_iload_n dX12_fallsAll_36 rfl ?_
      refine ab_iald dX12_fallsAll_37 hM1.s57 rfl (by omega) (hU1 i (by omega)).1 ?_
      refine ab_dup2 dX12_fallsAll_38 rfl rfl ?_
      refine ab_lald dX12_fallsAll_39 hM1.s59 rfl (hU1 i (by omega)).2 rfl ?_
      refine ab_aload_n dX12_fallsAll_40 rfl ?_
      refine ab_getR dX12_fallsAll_41 fl_X12_51 hM1.hs hM1.p50_11 ?_
      refine ab_iload_n dX12_fallsAll_44 rfl ?_
      refine ab_iconst (v := nI 4) dX12_fallsAll_45 (by decide) ?_
      refine ab_ndivR dX12_fallsAll_46 (by omega) (by decide) (by decide) ?_
      refine ab_lald dX12_fallsAll_47 hM1.s58 rfl (by omega) rfl ?_
      refine ab_ladd dX12_fallsAll_48 ?_
      refine ab_last dX12_fallsAll_49 hM1.s59 rfl (hU1 i (by omega)).2 ?_
      refine ab_nincR (ls' := [_, _]) dX12_fallsAll_50 rfl rfl ?_
      refine ab_goto 22 dX12_fallsAll_53 (by decide) ?_
      exact ih (i + 1) _ (by omega) (f.sl _ _ _ ab_mem1) (ab_cut_step rfl (congrFun (ab_l_fr f (by simp)) _) (hU1 i (by omega)).2 hl)
set_option maxRecDepth 100000 in
set_option maxHeartbeats 4000000 in
theorem lp_mfA {k b : Nat} {h : ab_H} {ρ : Nat → Nat} (hM : at_M (ab_sh h) (ab_r h)) (hU : ab_rho h 57 ρ) : ∀ (j i : Nat) (h1 : ab_H), i + j = 4 → ab_fr [59] h h1 → (∀ t, t < i → ab_l h1 59 t = (fun _ => 0 : Nat → Int64) t) → ab_R k b mX12_fallsAll 2 [some (.ref 50), some (.int (nI i))] [] h1 (ab_pv (fun h' => ab_fr [58, 59] h h' ∧ ∀ t, t < 4 → ab_l h' 58 t = ab_cut ρ (ab_l h 58) 16 t)) := by
  intro j
  induction j with
  | zero =>
    intro i h1 hi f hl
    obtain rfl : i = 4 := by omega
    have hM1 := at_M.fr f hM
    refine ab_iload_n dX12_fallsAll_2 rfl ?_
    refine ab_iconst (v := nI 4) dX12_fallsAll_3 (by decide) ?_
    refine ab_nicmp_ge 20 dX12_fallsAll_4 (by decide) (by omega) (by omega) (fun c_4 => ?_) (fun c_4 => ?_)
    · skip
      refine ab_iconst (v := nI 0) dX12_fallsAll_20 (by decide) ?_
      refine ab_sti_n (ls' := [_, _]) dX12_fallsAll_21 (by decide) rfl ?_
      exact lp_mfB hM hU 16 0 h1 rfl f hl
    · skip
      exact absurd (by omega) c_4
  | succ j ih =>
    intro i h1 hi f hl
    have hM1 := at_M.fr f hM
    refine ab_iload_n dX12_fallsAll_2 rfl ?_
    refine ab_iconst (v := nI 4) dX12_fallsAll_3 (by decide) ?_
    refine ab_nicmp_ge 20 dX12_fallsAll_4 (by decide) (by omega) (by omega) (fun c_4 => ?_) (fun c_4 => ?_)
    · skip
      exact absurd c_4 (by omega)
    · skip
      refine ab_aload_n dX12_fallsAll_7 rfl ?_
      refine ab_getR dX12_fallsAll_8 fl_X12_55 hM1.hs hM1.p50_12 ?_
      refine ab_iload_n dX12_fallsAll_11 rfl ?_
      refine ab_lconst (v := 0) dX12_fallsAll_12 (by decide) ?_
      refine ab_last dX12_fallsAll_13 hM1.s59 rfl (by omega) ?_
      refine ab_nincR (ls' := [_, _]) dX12_fallsAll_14 rfl rfl ?_
      refine ab_goto 2 dX12_fallsAll_17 (by decide) ?_
      exact ih (i + 1) _ (by omega) (f.sl _ _ _ ab_mem1) (ab_sl_next hl rfl)
set_option maxRecDepth 100000 in
set_option maxHeartbeats 4000000 in
theorem m_fallsAll {k b : Nat} {h : ab_H} {ρ : Nat → Nat} (hM : at_M (ab_sh h) (ab_r h)) (hU : ab_rho h 57 ρ) : ab_M k b mX12_fallsAll [.ref 50] h (ab_pv (fun h' => ab_fr [58, 59] h h' ∧ ∀ t, t < 4 → ab_l h' 58 t = ab_cut ρ (ab_l h 58) 16 t)) := by
  refine ab_enter ?_
  refine ab_iconst (v := nI 0) dX12_fallsAll_0 (by decide) ?_
  refine ab_sti_n (ls' := [_, _]) dX12_fallsAll_1 (by decide) rfl ?_
  exact lp_mfA hM hU 4 0 h rfl (ab_fr.rf h) (fun t ht => absurd ht (Nat.not_lt_zero t))
