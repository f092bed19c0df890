/-! ===== the model: calls of the rule ===== -/
set_option maxRecDepth 100000 in
set_option maxHeartbeats 4000000 in
theorem m_rule {k b : Nat} {h : ab_H} {ρ : Nat → Nat} {x y z : Int32} (hk : 2 ≤ k) (hM : at_M (ab_sh h) (ab_r h)) (hU : ab_rho h 57 ρ) : ab_M k b mX12_rule [.ref 50, .int x, .int y, .int z] h (ab_pi (ab_oK 51 (fun h' => h' = ab_si h 57 (x.toNatClampNeg * 4 + y.toNatClampNeg) z) h (sp_rule ρ x y z))) := by
  refine ab_enter ?_
  refine ab_iload_n dX12_rule_0 rfl ?_
  refine ab_callSb [_] dX12_rule_1 ml_X12_174 mk_X12_isWay (m_isWay (k := 1) (b := 0) (by omega)) (fun t1 hh0 hq => ?_)
  obtain ⟨hhe, rfl⟩ := hq
  rw [hhe]
  refine ab_bif_eq 21 dX12_rule_4 (by decide) (fun c_4 => ?_) (fun c_4 => ?_)
  · skip
    refine ab_aload_n dX12_rule_21 rfl ?_
    refine ab_bipush (v := -2) dX12_rule_22 (by decide) ?_
    refine ab_callVi [_] dX12_rule_24 ml_X12_9 mk_X12_refused hM.hs (m_refused (k := 0) (b := 0) (c := 2) hM (by decide) (by omega) (by omega)) (fun v1 hh1 hq => ?_)
    obtain ⟨hv, hh⟩ := hq
    refine ab_reti dX12_rule_27 ?_
    exact ab_oK_no (by unfold sp_rule; rw [if_neg (fun q => by first | exact ab_tf q.1 c_4 | exact ab_tf q.2.1 c_11 | exact ab_tf q.2.2 c_18)]) hv hh
  · skip
    refine ab_iload_n dX12_rule_7 rfl ?_
    refine ab_callSb [_] dX12_rule_8 ml_X12_174 mk_X12_isWay (m_isWay (k := 1) (b := 0) (by omega)) (fun t1 hh0 hq => ?_)
    obtain ⟨hhe, rfl⟩ := hq
    rw [hhe]
    refine ab_bif_eq 21 dX12_rule_11 (by decide) (fun c_11 => ?_) (fun c_11 => ?_)
    · skip
      refine ab_aload_n dX12_rule_21 rfl ?_
      refine ab_bipush (v := -2) dX12_rule_22 (by decide) ?_
      refine ab_callVi [_] dX12_rule_24 ml_X12_9 mk_X12_refused hM.hs (m_refused (k := 0) (b := 0) (c := 2) hM (by decide) (by omega) (by omega)) (fun v1 hh1 hq => ?_)
      obtain ⟨hv, hh⟩ := hq
      refine ab_reti dX12_rule_27 ?_
      exact ab_oK_no (by unfold sp_rule; rw [if_neg (fun q => by first | exact ab_tf q.1 c_4 | exact ab_tf q.2.1 c_11 | exact ab_tf q.2.2 c_18)]) hv hh
    · skip
      refine ab_iload_n dX12_rule_14 rfl ?_
      refine ab_callSb [_] dX12_rule_15 ml_X12_174 mk_X12_isWay (m_isWay (k := 1) (b := 0) (by omega)) (fun t1 hh0 hq => ?_)
      obtain ⟨hhe, rfl⟩ := hq
      rw [hhe]
      refine ab_bif_ne 28 dX12_rule_18 (by decide) (fun c_18 => ?_) (fun c_18 => ?_)
      · skip
        obtain ⟨w, rfl, hw, -⟩ := ab_inr_nat (n := 3) c_4
        obtain ⟨p, rfl, hp, -⟩ := ab_inr_nat (n := 3) c_11
        obtain ⟨t, rfl, ht, -⟩ := ab_inr_nat (n := 3) c_18
        refine ab_aload_n dX12_rule_28 rfl ?_
        refine ab_getR dX12_rule_29 fl_X12_48 hM.hs hM.p50_10 ?_
        refine ab_iconst (v := nI 4) dX12_rule_32 (by decide) ?_
        refine ab_iload_n dX12_rule_33 rfl ?_
        refine ab_nmulR dX12_rule_34 ?_
        refine ab_iload_n dX12_rule_35 rfl ?_
        refine ab_naddR dX12_rule_36 ?_
        refine ab_iald dX12_rule_37 hM.s57 rfl (by omega) (hU (4 * w + p) (by omega)).1 ?_
        refine ab_sti (ls' := [_, _, _, _, _]) dX12_rule_38 (by decide) rfl ?_
        refine ab_aload_n dX12_rule_40 rfl ?_
        refine ab_getR dX12_rule_41 fl_X12_48 hM.hs hM.p50_10 ?_
        refine ab_iconst (v := nI 4) dX12_rule_44 (by decide) ?_
        refine ab_iload_n dX12_rule_45 rfl ?_
        refine ab_nmulR dX12_rule_46 ?_
        refine ab_iload_n dX12_rule_47 rfl ?_
        refine ab_naddR dX12_rule_48 ?_
        refine ab_iload_n dX12_rule_49 rfl ?_
        refine ab_iast dX12_rule_50 hM.s57 rfl (by omega) ?_
        refine ab_iload dX12_rule_51 rfl ?_
        refine ab_reti dX12_rule_53 ?_
        refine ab_oK_ok (by unfold sp_rule; rw [if_pos ⟨c_4, c_11, c_18⟩, nI_clamp (by omega), nI_clamp (by omega), Nat.mul_comm]) ?_
        rw [nI_clamp (by omega), nI_clamp (by omega), Nat.mul_comm]
      · skip
        refine ab_aload_n dX12_rule_21 rfl ?_
        refine ab_bipush (v := -2) dX12_rule_22 (by decide) ?_
        refine ab_callVi [_] dX12_rule_24 ml_X12_9 mk_X12_refused hM.hs (m_refused (k := 0) (b := 0) (c := 2) hM (by decide) (by omega) (by omega)) (fun v1 hh1 hq => ?_)
        obtain ⟨hv, hh⟩ := hq
        refine ab_reti dX12_rule_27 ?_
        exact ab_oK_no (by unfold sp_rule; rw [if_neg (fun q => by first | exact ab_tf q.1 c_4 | exact ab_tf q.2.1 c_11 | exact ab_tf q.2.2 c_18)]) hv hh
set_option maxRecDepth 100000 in
set_option maxHeartbeats 4000000 in
theorem lp_mBehind {k b w n t : Nat} {h : ab_H} {ρ : Nat → Nat} (hk : 2 ≤ k) (hM : at_M (ab_sh h) (ab_r h)) (hU : ab_rho h 57 ρ) (hn : n ≤ 15) (ht : t < 4) : ∀ (j i : Nat) (h1 : ab_H), i + j = n → ab_fr [58, 59] h h1 → (∀ t, t < 4 → ab_l h1 58 t = ab_lies ρ w i t) → ab_R k b mX12_behind 53 [some (.ref 50), some (.int (nI w)), some (.int (nI n)), some (.int (nI t)), some (.int (nI i))] [] h1 (ab_pl (fun v h' => ab_fr [58, 59] h h' ∧ v = ab_lies ρ w n t)) := by
  intro j
  induction j with
  | zero =>
    intro i h1 hi f hl
    obtain rfl : i = n := by omega
    have hM1 := at_M.fr f hM
    have hU1 := hU.fr f (by simp)
    refine ab_iload dX12_behind_53 rfl ?_
    refine ab_iload_n dX12_behind_55 rfl ?_
    refine ab_nicmp_ge 69 dX12_behind_56 (by decide) (by omega) (by omega) (fun c_56 => ?_) (fun c_56 => ?_)
    · skip
      refine ab_aload_n dX12_behind_69 rfl ?_
      refine ab_getR dX12_behind_70 fl_X12_51 hM1.hs hM1.p50_11 ?_
      refine ab_iload_n dX12_behind_73 rfl ?_
      refine ab_lald dX12_behind_74 hM1.s58 rfl ht rfl ?_
      refine ab_retl dX12_behind_75 ?_
      exact ⟨f, hl t ht⟩
    · skip
      exact absurd (Nat.le_refl _) c_56
  | succ j ih =>
    intro i h1 hi f hl
    have hM1 := at_M.fr f hM
    have hU1 := hU.fr f (by simp)
    refine ab_iload dX12_behind_53 rfl ?_
    refine ab_iload_n dX12_behind_55 rfl ?_
    refine ab_nicmp_ge 69 dX12_behind_56 (by decide) (by omega) (by omega) (fun c_56 => ?_) (fun c_56 => ?_)
    · skip
      exact absurd c_56 (by omega)
    · skip
      refine ab_aload_n dX12_behind_59 rfl ?_
      refine ab_callVv [] dX12_behind_60 ml_X12_190 mk_X12_fallsAll hM1.hs (m_fallsAll (k := 0) (b := 0) hM1 hU1) (fun h2 hq => ?_)
      obtain ⟨f2, hl2⟩ := hq
      refine ab_nincR (ls' := [_, _, _, _, _]) dX12_behind_63 rfl rfl ?_
      refine ab_goto 53 dX12_behind_66 (by decide) ?_
      exact ih (i + 1) h2 (by omega) (f.trans f2 (by simp)) (fun t ht => by rw [hl2 t ht]; exact congrFun (ab_cut_congr hl 16 (Nat.le_refl _)) t)
set_option maxRecDepth 100000 in
set_option maxHeartbeats 4000000 in
theorem m_behind {k b : Nat} {h : ab_H} {ρ : Nat → Nat} {x n0 t0 : Int32} (hk : 2 ≤ k) (hM : at_M (ab_sh h) (ab_r h)) (hU : ab_rho h 57 ρ) : ab_M k b mX12_behind [.ref 50, .int x, .int n0, .int t0] h (ab_pl (ab_oL 51 [58, 59] h (sp_behind ρ x n0 t0))) := by
  refine ab_enter ?_
  refine ab_iload_n dX12_behind_0 rfl ?_
  refine ab_callSb [_] dX12_behind_1 ml_X12_174 mk_X12_isWay (m_isWay (k := 1) (b := 0) (by omega)) (fun t1 hh0 hq => ?_)
  obtain ⟨hhe, rfl⟩ := hq
  rw [hhe]
  refine ab_bif_eq 14 dX12_behind_4 (by decide) (fun c_4 => ?_) (fun c_4 => ?_)
  · skip
    refine ab_aload_n dX12_behind_14 rfl ?_
    refine ab_bipush (v := -2) dX12_behind_15 (by decide) ?_
    refine ab_callVl [_] dX12_behind_17 ml_X12_178 mk_X12_refusedFar hM.hs (m_refusedFar (k := 1) (b := 0) (c := 2) (by omega) hM (by decide) (by omega) (by omega)) (fun v1 hh1 hq => ?_)
    obtain ⟨hv, hh⟩ := hq
    refine ab_retl dX12_behind_20 ?_
    exact ab_oL_no (by unfold sp_behind; rw [if_neg (fun q => by first | exact ab_tf q.1 c_4 | exact ab_tf q.2 c_11)]) hv hh
  · skip
    refine ab_iload_n dX12_behind_7 rfl ?_
    refine ab_callSb [_] dX12_behind_8 ml_X12_174 mk_X12_isWay (m_isWay (k := 1) (b := 0) (by omega)) (fun t1 hh0 hq => ?_)
    obtain ⟨hhe, rfl⟩ := hq
    rw [hhe]
    refine ab_bif_ne 21 dX12_behind_11 (by decide) (fun c_11 => ?_) (fun c_11 => ?_)
    · skip
      refine ab_iload_n dX12_behind_21 rfl ?_
      refine ab_if_ge 32 dX12_behind_22 (by decide) (fun c_22 => ?_) (fun c_22 => ?_)
      · skip
        refine ab_iload_n dX12_behind_32 rfl ?_
        refine ab_bipush (v := nI 15) dX12_behind_33 (by decide) ?_
        refine ab_icmp_le 45 dX12_behind_35 (by decide) (fun c_35 => ?_) (fun c_35 => ?_)
        · skip
          obtain ⟨w, rfl, hw, -⟩ := ab_inr_nat (n := 3) c_4
          obtain ⟨t, rfl, ht, -⟩ := ab_inr_nat (n := 3) c_11
          obtain ⟨n, rfl, hn⟩ := ab_of0 c_22
          have hn15 : n ≤ 15 := by have := (ab_Nle (n := 15) (by omega)).mp c_35; rw [nI_toInt hn] at this; omega
          refine ab_aload_n dX12_behind_45 rfl ?_
          refine ab_iload_n dX12_behind_46 rfl ?_
          refine ab_callVv [_] dX12_behind_47 ml_X12_186 mk_X12_begins hM.hs (m_begins (k := 0) (b := 0) hM (by omega)) (fun h1 hq => ?_)
          obtain ⟨f, hl⟩ := hq
          refine ab_iconst (v := nI 0) dX12_behind_50 (by decide) ?_
          refine ab_sti (ls' := [_, _, _, _, _]) dX12_behind_51 (by decide) rfl ?_
          refine ab_mono ?_ (lp_mBehind (w := w) (t := t) hk hM hU hn15 (by omega) n 0 h1 (by omega) (f.mono (by simp)) hl)
          rintro v h3 ⟨x3, hx3, f3, e3⟩
          exact ⟨x3, hx3, ab_oL_ok (by unfold sp_behind; rw [if_pos ⟨c_4, c_11⟩, if_neg (by rw [nI_toInt hn]; omega), if_neg (by rw [nI_toInt hn]; omega), nI_clamp (by omega), nI_clamp (by omega), nI_clamp (by omega), e3]) f3⟩
        · skip
          refine ab_aload_n dX12_behind_38 rfl ?_
          refine ab_bipush (v := -6) dX12_behind_39 (by decide) ?_
          refine ab_callVl [_] dX12_behind_41 ml_X12_178 mk_X12_refusedFar hM.hs (m_refusedFar (k := 1) (b := 0) (c := 6) (by omega) hM (by decide) (by omega) (by omega)) (fun v1 hh1 hq => ?_)
          obtain ⟨hv, hh⟩ := hq
          refine ab_retl dX12_behind_44 ?_
          exact ab_oL_no (by unfold sp_behind; rw [if_pos ⟨c_4, c_11⟩, if_neg (by have := ab_ge0.mp c_22; omega), if_pos (by have := mt (ab_Nle (n := 15) (by omega)).mpr c_35; omega)]) hv hh
      · skip
        refine ab_aload_n dX12_behind_25 rfl ?_
        refine ab_bipush (v := -4) dX12_behind_26 (by decide) ?_
        refine ab_callVl [_] dX12_behind_28 ml_X12_178 mk_X12_refusedFar hM.hs (m_refusedFar (k := 1) (b := 0) (c := 4) (by omega) hM (by decide) (by omega) (by omega)) (fun v1 hh1 hq => ?_)
        obtain ⟨hv, hh⟩ := hq
        refine ab_retl dX12_behind_31 ?_
        exact ab_oL_no (by unfold sp_behind; rw [if_pos ⟨c_4, c_11⟩, if_pos (by have := mt ab_ge0.mpr c_22; omega)]) hv hh
    · skip
      refine ab_aload_n dX12_behind_14 rfl ?_
      refine ab_bipush (v := -2) dX12_behind_15 (by decide) ?_
      refine ab_callVl [_] dX12_behind_17 ml_X12_178 mk_X12_refusedFar hM.hs (m_refusedFar (k := 1) (b := 0) (c := 2) (by omega) hM (by decide) (by omega) (by omega)) (fun v1 hh1 hq => ?_)
      obtain ⟨hv, hh⟩ := hq
      refine ab_retl dX12_behind_20 ?_
      exact ab_oL_no (by unfold sp_behind; rw [if_neg (fun q => by first | exact ab_tf q.1 c_4 | exact ab_tf q.2 c_11)]) hv hh
set_option maxRecDepth 100000 in
set_option maxHeartbeats 4000000 in
theorem lp_mFalls {k b w : Nat} {h : ab_H} {ρ : Nat → Nat} (hk : 2 ≤ k) (hM : at_M (ab_sh h) (ab_r h)) (hU : ab_rho h 57 ρ) : ∀ (j i : Nat) (h1 : ab_H), i + j = 15 → ab_fr [58, 59] h h1 → (∀ t, t < 4 → ab_l h1 58 t = ab_lies ρ w i t) → (ab_fallsFrom ρ w 15 1 = ab_fallsFrom ρ w j (i + 1)) → ab_R k b mX12_falls 21 [some (.ref 50), some (.int (nI w)), some (.int (nI (i + 1)))] [] h1 (ab_pi (fun v h' => ab_fr [58, 59] h h' ∧ v = ab_fallsFrom ρ w 15 1)) := by
  intro j
  induction j with
  | zero =>
    intro i h1 hi f hl hv
    obtain rfl : i = 15 := by omega
    have hM1 := at_M.fr f hM
    have hU1 := hU.fr f (by simp)
    refine ab_iload_n dX12_falls_21 rfl ?_
    refine ab_bipush (v := nI 15) dX12_falls_22 (by decide) ?_
    refine ab_nicmp_gt 87 dX12_falls_24 (by decide) (by omega) (by omega) (fun c_24 => ?_) (fun c_24 => ?_)
    · skip
      refine ab_bipush (v := -9) dX12_falls_87 (by decide) ?_
      refine ab_reti dX12_falls_89 ?_
      exact ⟨f, hv.symm⟩
    · skip
      exact absurd (by omega) c_24
  | succ j ih =>
    intro i h1 hi f hl hv
    have hM1 := at_M.fr f hM
    have hU1 := hU.fr f (by simp)
    refine ab_iload_n dX12_falls_21 rfl ?_
    refine ab_bipush (v := nI 15) dX12_falls_22 (by decide) ?_
    refine ab_nicmp_gt 87 dX12_falls_24 (by decide) (by omega) (by omega) (fun c_24 => ?_) (fun c_24 => ?_)
    · skip
      exact absurd c_24 (by omega)
    · skip
      refine ab_aload_n dX12_falls_27 rfl ?_
      refine ab_callVv [] dX12_falls_28 ml_X12_190 mk_X12_fallsAll hM1.hs (m_fallsAll (k := 0) (b := 0) hM1 hU1) (fun h2 hq => ?_)
      obtain ⟨f2, hl2'⟩ := hq
      have f3 := f.trans f2 (by simp)
      have hM2 := at_M.fr f3 hM
      have hl2 : ∀ t, t < 4 → ab_l h2 58 t = ab_lies ρ w (i + 1) t := fun t ht => by rw [hl2' t ht]; exact congrFun (ab_cut_congr hl 16 (Nat.le_refl _)) t
      refine ab_aload_n dX12_falls_31 rfl ?_
      refine ab_getR dX12_falls_32 fl_X12_51 hM2.hs hM2.p50_11 ?_
      refine ab_iconst (v := nI 0) dX12_falls_35 (by decide) ?_
      refine ab_lald dX12_falls_36 hM2.s58 rfl (by omega) rfl ?_
      refine ab_aload_n dX12_falls_37 rfl ?_
      refine ab_getR dX12_falls_38 fl_X12_51 hM2.hs hM2.p50_11 ?_
      refine ab_iconst (v := nI 1) dX12_falls_41 (by decide) ?_
      refine ab_lald dX12_falls_42 hM2.s58 rfl (by omega) rfl ?_
      refine ab_lcmp dX12_falls_43 ?_
      refine ab_if_ne 81 dX12_falls_44 (by decide) (fun c_44 => ?_) (fun c_44 => ?_)
      · skip
        refine ab_nincR (ls' := [_, _, _]) dX12_falls_81 rfl rfl ?_
        refine ab_goto 21 dX12_falls_84 (by decide) ?_
        exact ih (i + 1) h2 (by omega) f3 hl2 (hv.trans (ab_falls_neg (fun q => by have q := (ab_falls_no hl2).mpr q; exact c_44 q.1)))
      · skip
        refine ab_aload_n dX12_falls_47 rfl ?_
        refine ab_getR dX12_falls_48 fl_X12_51 hM2.hs hM2.p50_11 ?_
        refine ab_iconst (v := nI 1) dX12_falls_51 (by decide) ?_
        refine ab_lald dX12_falls_52 hM2.s58 rfl (by omega) rfl ?_
        refine ab_aload_n dX12_falls_53 rfl ?_
        refine ab_getR dX12_falls_54 fl_X12_51 hM2.hs hM2.p50_11 ?_
        refine ab_iconst (v := nI 2) dX12_falls_57 (by decide) ?_
        refine ab_lald dX12_falls_58 hM2.s58 rfl (by omega) rfl ?_
        refine ab_lcmp dX12_falls_59 ?_
        refine ab_if_ne 81 dX12_falls_60 (by decide) (fun c_60 => ?_) (fun c_60 => ?_)
        · skip
          refine ab_nincR (ls' := [_, _, _]) dX12_falls_81 rfl rfl ?_
          refine ab_goto 21 dX12_falls_84 (by decide) ?_
          exact ih (i + 1) h2 (by omega) f3 hl2 (hv.trans (ab_falls_neg (fun q => by have q := (ab_falls_no hl2).mpr q; exact c_60 q.2.1)))
        · skip
          refine ab_aload_n dX12_falls_63 rfl ?_
          refine ab_getR dX12_falls_64 fl_X12_51 hM2.hs hM2.p50_11 ?_
          refine ab_iconst (v := nI 2) dX12_falls_67 (by decide) ?_
          refine ab_lald dX12_falls_68 hM2.s58 rfl (by omega) rfl ?_
          refine ab_aload_n dX12_falls_69 rfl ?_
          refine ab_getR dX12_falls_70 fl_X12_51 hM2.hs hM2.p50_11 ?_
          refine ab_iconst (v := nI 3) dX12_falls_73 (by decide) ?_
          refine ab_lald dX12_falls_74 hM2.s58 rfl (by omega) rfl ?_
          refine ab_lcmp dX12_falls_75 ?_
          refine ab_if_ne 81 dX12_falls_76 (by decide) (fun c_76 => ?_) (fun c_76 => ?_)
          · skip
            refine ab_nincR (ls' := [_, _, _]) dX12_falls_81 rfl rfl ?_
            refine ab_goto 21 dX12_falls_84 (by decide) ?_
            exact ih (i + 1) h2 (by omega) f3 hl2 (hv.trans (ab_falls_neg (fun q => by have q := (ab_falls_no hl2).mpr q; exact c_76 q.2.2)))
          · skip
            refine ab_iload_n dX12_falls_79 rfl ?_
            refine ab_reti dX12_falls_80 ?_
            exact ⟨f3, (hv.trans (ab_falls_pos ((ab_falls_no hl2).mp ⟨c_44, c_60, c_76⟩))).symm⟩
set_option maxRecDepth 100000 in
set_option maxHeartbeats 4000000 in
theorem m_falls {k b : Nat} {h : ab_H} {ρ : Nat → Nat} {x : Int32} (hk : 2 ≤ k) (hM : at_M (ab_sh h) (ab_r h)) (hU : ab_rho h 57 ρ) : ab_M k b mX12_falls [.ref 50, .int x] h (ab_pi (ab_oI 51 [58, 59] h (sp_falls ρ x))) := by
  refine ab_enter ?_
  refine ab_iload_n dX12_falls_0 rfl ?_
  refine ab_callSb [_] dX12_falls_1 ml_X12_174 mk_X12_isWay (m_isWay (k := 1) (b := 0) (by omega)) (fun t1 hh0 hq => ?_)
  obtain ⟨hhe, rfl⟩ := hq
  rw [hhe]
  refine ab_bif_ne 14 dX12_falls_4 (by decide) (fun c_4 => ?_) (fun c_4 => ?_)
  · skip
    obtain ⟨w, rfl, hw, -⟩ := ab_inr_nat (n := 3) c_4
    refine ab_aload_n dX12_falls_14 rfl ?_
    refine ab_iload_n dX12_falls_15 rfl ?_
    refine ab_callVv [_] dX12_falls_16 ml_X12_186 mk_X12_begins hM.hs (m_begins (k := 0) (b := 0) hM (by omega)) (fun h1 hq => ?_)
    obtain ⟨f, hl⟩ := hq
    refine ab_iconst (v := nI 1) dX12_falls_19 (by decide) ?_
    refine ab_sti_n (ls' := [_, _, _]) dX12_falls_20 (by decide) rfl ?_
    refine ab_mono ?_ (lp_mFalls (w := w) hk hM hU 15 0 h1 rfl (f.mono (by simp)) hl rfl)
    rintro v h3 ⟨x3, hx3, f3, e3⟩
    exact ⟨x3, hx3, ab_oI_ok (by unfold sp_falls; rw [if_pos c_4, nI_clamp (by omega), e3]) f3⟩
  · skip
    refine ab_aload_n dX12_falls_7 rfl ?_
    refine ab_bipush (v := -2) dX12_falls_8 (by decide) ?_
    refine ab_callVi [_] dX12_falls_10 ml_X12_9 mk_X12_refused hM.hs (m_refused (k := 0) (b := 0) (c := 2) hM (by decide) (by omega) (by omega)) (fun v1 hh1 hq => ?_)
    obtain ⟨hv, hh⟩ := hq
    refine ab_reti dX12_falls_13 ?_
    exact ab_oI_no (by unfold sp_falls; rw [if_neg (fun q => ab_tf q c_4)]) hv hh
set_option maxRecDepth 100000 in
set_option maxHeartbeats 4000000 in
theorem lp_mAddress {k b w n a : Nat} {h : ab_H} {ρ : Nat → Nat} (hM : at_M (ab_sh h) (ab_r h)) (hU : ab_rho h 57 ρ) (hn : n ≤ 15) : ∀ (j i t x : Nat), i + j = n → t < 4 → x < 2147483648 → ab_way ρ n w a = ab_way ρ j t x → ab_R k b mX12_address 60 [some (.ref 50), some (.int (nI w)), some (.int (nI a)), some (.int (nI n)), some (.int (nI t)), some (.int (nI x)), some (.int (nI i))] [] h (ab_pn (fun v h' => h' = h ∧ v = ab_way ρ n w a)) := by
  intro j
  induction j with
  | zero =>
    intro i t x hi ht hx hv
    obtain rfl : i = n := by omega
    refine ab_iload dX12_address_60 rfl ?_
    refine ab_iload_n dX12_address_62 rfl ?_
    refine ab_nicmp_ge 94 dX12_address_63 (by decide) (by omega) (by omega) (fun c_63 => ?_) (fun c_63 => ?_)
    · skip
      refine ab_iload dX12_address_94 rfl ?_
      refine ab_retn dX12_address_96 ?_
      exact ⟨rfl, hv.symm⟩
    · skip
      exact absurd (Nat.le_refl _) c_63
  | succ j ih =>
    intro i t x hi ht hx hv
    refine ab_iload dX12_address_60 rfl ?_
    refine ab_iload_n dX12_address_62 rfl ?_
    refine ab_nicmp_ge 94 dX12_address_63 (by decide) (by omega) (by omega) (fun c_63 => ?_) (fun c_63 => ?_)
    · skip
      exact absurd c_63 (by omega)
    · skip
      refine ab_aload_n dX12_address_66 rfl ?_
      refine ab_getR dX12_address_67 fl_X12_48 hM.hs hM.p50_10 ?_
      refine ab_iconst (v := nI 4) dX12_address_70 (by decide) ?_
      refine ab_iload dX12_address_71 rfl ?_
      refine ab_nmulR dX12_address_73 ?_
      refine ab_iload dX12_address_74 rfl ?_
      refine ab_iconst (v := nI 4) dX12_address_76 (by decide) ?_
      refine ab_nremR dX12_address_77 (by omega) (by decide) (by decide) ?_
      refine ab_naddR dX12_address_78 ?_
      refine ab_iald dX12_address_79 hM.s57 rfl (by omega) (hU (4 * t + x % 4) (by omega)).1 ?_
      refine ab_sti (ls' := [_, _, _, _, _, _, _]) dX12_address_80 (by decide) rfl ?_
      refine ab_iload dX12_address_82 rfl ?_
      refine ab_iconst (v := nI 4) dX12_address_84 (by decide) ?_
      refine ab_ndivR dX12_address_85 (by omega) (by decide) (by decide) ?_
      refine ab_sti (ls' := [_, _, _, _, _, _, _]) dX12_address_86 (by decide) rfl ?_
      refine ab_nincR (ls' := [_, _, _, _, _, _, _]) dX12_address_88 rfl rfl ?_
      refine ab_goto 60 dX12_address_91 (by decide) ?_
      exact ih (i + 1) _ _ (by omega) (hU (4 * t + x % 4) (by omega)).2 (by omega) (by rw [hv, ab_way, Nat.mul_comm])
theorem ab_shl2 {n : Nat} : 1 <<< (2 * n) = 4 ^ n := by rw [Nat.one_shiftLeft, show 2 ^ (2 * n) = 4 ^ n by rw [Nat.pow_mul]]
theorem ab_shl30 {n : Nat} (hn : n ≤ 15) : 1 <<< (2 * n) < 2147483648 := by
  rw [ab_shl2]
  exact Nat.lt_of_le_of_lt (ab_pow15 hn) (by omega)
set_option maxRecDepth 100000 in
set_option maxHeartbeats 4000000 in
theorem m_address {k b : Nat} {h : ab_H} {ρ : Nat → Nat} {x a0 n0 : Int32} (hk : 2 ≤ k) (hM : at_M (ab_sh h) (ab_r h)) (hU : ab_rho h 57 ρ) : ab_M k b mX12_address [.ref 50, .int x, .int a0, .int n0] h (ab_pi (ab_oI 51 [] h (sp_address ρ x a0 n0))) := by
  refine ab_enter ?_
  refine ab_iload_n dX12_address_0 rfl ?_
  refine ab_callSb [_] dX12_address_1 ml_X12_174 mk_X12_isWay (m_isWay (k := 1) (b := 0) (by omega)) (fun t1 hh0 hq => ?_)
  obtain ⟨hhe, rfl⟩ := hq
  rw [hhe]
  refine ab_bif_ne 14 dX12_address_4 (by decide) (fun c_4 => ?_) (fun c_4 => ?_)
  · skip
    refine ab_iload_n dX12_address_14 rfl ?_
    refine ab_if_lt 22 dX12_address_15 (by decide) (fun c_15 => ?_) (fun c_15 => ?_)
    · skip
      refine ab_aload_n dX12_address_22 rfl ?_
      refine ab_bipush (v := -4) dX12_address_23 (by decide) ?_
      refine ab_callVi [_] dX12_address_25 ml_X12_9 mk_X12_refused hM.hs (m_refused (k := 0) (b := 0) (c := 4) hM (by decide) (by omega) (by omega)) (fun v1 hh1 hq => ?_)
      obtain ⟨hv, hh⟩ := hq
      refine ab_reti dX12_address_28 ?_
      exact ab_oI_no (by unfold sp_address; rw [if_pos c_4, if_pos (by first | exact Or.inl (ab_lt0.mp c_15) | exact Or.inr (by have := mt ab_ge0.mpr c_19; omega))]) hv hh
    · skip
      refine ab_iload_n dX12_address_18 rfl ?_
      refine ab_if_ge 29 dX12_address_19 (by decide) (fun c_19 => ?_) (fun c_19 => ?_)
      · skip
        obtain ⟨a, rfl, ha⟩ := ab_of0 (Int32.not_lt.mp c_15)
        obtain ⟨n, rfl, hn⟩ := ab_of0 c_19
        obtain ⟨w, rfl, hw, -⟩ := ab_inr_nat (n := 3) c_4
        refine ab_iload_n dX12_address_29 rfl ?_
        refine ab_bipush (v := nI 15) dX12_address_30 (by decide) ?_
        refine ab_nicmp_gt 44 dX12_address_32 (by decide) (by omega) (by omega) (fun c_32 => ?_) (fun c_32 => ?_)
        · skip
          refine ab_aload_n dX12_address_44 rfl ?_
          refine ab_bipush (v := -6) dX12_address_45 (by decide) ?_
          refine ab_callVi [_] dX12_address_47 ml_X12_9 mk_X12_refused hM.hs (m_refused (k := 0) (b := 0) (c := 6) hM (by decide) (by omega) (by omega)) (fun v1 hh1 hq => ?_)
          obtain ⟨hv, hh⟩ := hq
          refine ab_reti dX12_address_50 ?_
          exact ab_oI_no (by unfold sp_address; rw [if_pos c_4, if_neg (by rw [nI_toInt ha, nI_toInt hn]; omega), if_pos (by rw [nI_toInt hn, nI_clamp ha, nI_clamp hn]; first | exact Or.inl (by omega) | exact Or.inr (by rw [ab_shl2] at c_41; omega))]) hv hh
        · skip
          refine ab_iload_n dX12_address_35 rfl ?_
          refine ab_iconst (v := nI 1) dX12_address_36 (by decide) ?_
          refine ab_iconst (v := nI 2) dX12_address_37 (by decide) ?_
          refine ab_iload_n dX12_address_38 rfl ?_
          refine ab_nmulR dX12_address_39 ?_
          refine ab_nshlR dX12_address_40 (by omega) ?_
          refine ab_nicmp_lt 51 dX12_address_41 (by decide) ha (ab_shl30 (by omega)) (fun c_41 => ?_) (fun c_41 => ?_)
          · skip
            refine ab_iload_n dX12_address_51 rfl ?_
            refine ab_sti (ls' := [_, _, _, _, _, _, _]) dX12_address_52 (by decide) rfl ?_
            refine ab_iload_n dX12_address_54 rfl ?_
            refine ab_sti (ls' := [_, _, _, _, _, _, _]) dX12_address_55 (by decide) rfl ?_
            refine ab_iconst (v := nI 0) dX12_address_57 (by decide) ?_
            refine ab_sti (ls' := [_, _, _, _, _, _, _]) dX12_address_58 (by decide) rfl ?_
            refine ab_mono ?_ (lp_mAddress (w := w) (a := a) hM hU (by omega) n 0 w a (by omega) (by omega) ha rfl)
            rintro v h3 ⟨x3, hx3, e2, e3⟩
            exact ⟨nI x3, hx3, ab_oI_ok (by unfold sp_address; rw [if_pos c_4, if_neg (by rw [nI_toInt ha, nI_toInt hn]; omega), if_neg (by rw [nI_toInt hn, nI_clamp ha, nI_clamp hn]; rw [ab_shl2] at c_41; omega), nI_clamp ha, nI_clamp hn, nI_clamp (by omega), e3]) (by rw [e2]; exact ab_fr.rf _)⟩
          · skip
            refine ab_aload_n dX12_address_44 rfl ?_
            refine ab_bipush (v := -6) dX12_address_45 (by decide) ?_
            refine ab_callVi [_] dX12_address_47 ml_X12_9 mk_X12_refused hM.hs (m_refused (k := 0) (b := 0) (c := 6) hM (by decide) (by omega) (by omega)) (fun v1 hh1 hq => ?_)
            obtain ⟨hv, hh⟩ := hq
            refine ab_reti dX12_address_50 ?_
            exact ab_oI_no (by unfold sp_address; rw [if_pos c_4, if_neg (by rw [nI_toInt ha, nI_toInt hn]; omega), if_pos (by rw [nI_toInt hn, nI_clamp ha, nI_clamp hn]; first | exact Or.inl (by omega) | exact Or.inr (by rw [ab_shl2] at c_41; omega))]) hv hh
      · skip
        refine ab_aload_n dX12_address_22 rfl ?_
        refine ab_bipush (v := -4) dX12_address_23 (by decide) ?_
        refine ab_callVi [_] dX12_address_25 ml_X12_9 mk_X12_refused hM.hs (m_refused (k := 0) (b := 0) (c := 4) hM (by decide) (by omega) (by omega)) (fun v1 hh1 hq => ?_)
        obtain ⟨hv, hh⟩ := hq
        refine ab_reti dX12_address_28 ?_
        exact ab_oI_no (by unfold sp_address; rw [if_pos c_4, if_pos (by first | exact Or.inl (ab_lt0.mp c_15) | exact Or.inr (by have := mt ab_ge0.mpr c_19; omega))]) hv hh
  · skip
    refine ab_aload_n dX12_address_7 rfl ?_
    refine ab_bipush (v := -2) dX12_address_8 (by decide) ?_
    refine ab_callVi [_] dX12_address_10 ml_X12_9 mk_X12_refused hM.hs (m_refused (k := 0) (b := 0) (c := 2) hM (by decide) (by omega) (by omega)) (fun v1 hh1 hq => ?_)
    obtain ⟨hv, hh⟩ := hq
    refine ab_reti dX12_address_13 ?_
    exact ab_oI_no (by unfold sp_address; rw [if_neg (fun q => ab_tf q c_4)]) hv hh
set_option maxRecDepth 100000 in
set_option maxHeartbeats 4000000 in
theorem lp_mSteadyB {k b w s q i : Nat} {h : ab_H} {ρ : Nat → Nat} {post : Value → ab_H → Prop} (hk : 2 ≤ k) (hM : at_M (ab_sh h) (ab_r h)) (hU : ab_rho h 57 ρ) (hs : s < 16) (cont : ab_R k b mX12_steady 92 [some (.ref 50), some (.int (nI w)), some (.int (nI s)), some (.int (nI q)), some (.int (nI i)), some (.int (nI (ab_wb ρ s 16))), none] [] h post) : ∀ (j d : Nat), d + j = 16 → ab_R k b mX12_steady 50 [some (.ref 50), some (.int (nI w)), some (.int (nI s)), some (.int (nI q)), some (.int (nI i)), some (.int (nI (ab_wb ρ s d))), some (.int (nI d))] [] h post := by
  intro j
  induction j with
  | zero =>
    intro d hd
    obtain rfl : d = 16 := by omega
    refine ab_iload dX12_steady_50 rfl ?_
    refine ab_bipush (v := nI 16) dX12_steady_52 (by decide) ?_
    refine ab_nicmp_ge 92 dX12_steady_54 (by decide) (by omega) (by omega) (fun c_54 => ?_) (fun c_54 => ?_)
    · skip
      exact ab_weak cont (by simp [ab_le])
    · skip
      exact absurd (by omega) c_54
  | succ j ih =>
    intro d hd
    refine ab_iload dX12_steady_50 rfl ?_
    refine ab_bipush (v := nI 16) dX12_steady_52 (by decide) ?_
    refine ab_nicmp_ge 92 dX12_steady_54 (by decide) (by omega) (by omega) (fun c_54 => ?_) (fun c_54 => ?_)
    · skip
      exact absurd c_54 (by omega)
    · skip
      refine ab_iload dX12_steady_57 rfl ?_
      refine ab_iload_n dX12_steady_59 rfl ?_
      refine ab_iload dX12_steady_60 rfl ?_
      refine ab_iconst (v := nI 4) dX12_steady_62 (by decide) ?_
      refine ab_ndivR dX12_steady_63 (by omega) (by decide) (by decide) ?_
      refine ab_callSb [_, _] dX12_steady_64 ml_X12_199 mk_X12_has (m_has (k := 0) (b := 0) (by omega) (by omega)) (fun t1 hh0 hq => ?_)
      obtain ⟨hhe, rfl⟩ := hq
      rw [hhe]
      refine ab_bif_eq 82 dX12_steady_67 (by decide) (fun c_67 => ?_) (fun c_67 => ?_)
      · skip
        refine ab_iconst (v := nI 0) dX12_steady_82 (by decide) ?_
        refine ab_norR dX12_steady_83 ?_
        refine ab_sti (ls' := [_, _, _, _, _, _, _]) dX12_steady_84 (by decide) rfl ?_
        refine ab_nincR (ls' := [_, _, _, _, _, _, _]) dX12_steady_86 rfl rfl ?_
        refine ab_goto 50 dX12_steady_89 (by decide) ?_
        refine (fun q => ?_) (ih (d + 1) (by omega))
        rw [ab_wb] at q
        first | (rw [if_pos (of_decide_eq_true c_67)] at q; exact q) | (rw [if_neg (of_decide_eq_false c_67)] at q; rw [ab_or0]; exact q)
      · skip
        refine ab_iconst (v := nI 1) dX12_steady_70 (by decide) ?_
        refine ab_aload_n dX12_steady_71 rfl ?_
        refine ab_getR dX12_steady_72 fl_X12_48 hM.hs hM.p50_10 ?_
        refine ab_iload dX12_steady_75 rfl ?_
        refine ab_iald dX12_steady_77 hM.s57 rfl (by omega) (hU d (by omega)).1 ?_
        refine ab_nshlR dX12_steady_78 (by have := (hU d (by omega)).2; omega) ?_
        refine ab_goto 83 dX12_steady_79 (by decide) ?_
        refine ab_norR dX12_steady_83 ?_
        refine ab_sti (ls' := [_, _, _, _, _, _, _]) dX12_steady_84 (by decide) rfl ?_
        refine ab_nincR (ls' := [_, _, _, _, _, _, _]) dX12_steady_86 rfl rfl ?_
        refine ab_goto 50 dX12_steady_89 (by decide) ?_
        refine (fun q => ?_) (ih (d + 1) (by omega))
        rw [ab_wb] at q
        first | (rw [if_pos (of_decide_eq_true c_67)] at q; exact q) | (rw [if_neg (of_decide_eq_false c_67)] at q; rw [ab_or0]; exact q)
/-- all sets from the fourth on, of the first n (0 .. n - 1) -/
def ab_steadyM (ρ : Nat → Nat) (w : Nat) : Nat → Nat
  | 0 => 0
  | n + 1 => if 4 ≤ n then ab_steadyM ρ w n ||| ab_set ρ w n else ab_steadyM ρ w n
theorem ab_steadyM_eq (ρ : Nat → Nat) (w : Nat) : ∀ n, ab_steadyM ρ w (n + 1) = ab_steady ρ w n
  | 0 => rfl
  | n + 1 => by
    have ih := ab_steadyM_eq ρ w n
    rw [ab_steadyM, ab_steady, ih]
set_option maxRecDepth 100000 in
set_option maxHeartbeats 4000000 in
theorem lp_mSteady {k b w : Nat} {h : ab_H} {ρ : Nat → Nat} (hk : 2 ≤ k) (hM : at_M (ab_sh h) (ab_r h)) (hU : ab_rho h 57 ρ) (hρ : ∀ j, j < 16 → ρ j < 4) (hw : w < 4) : ∀ (j i : Nat), i + j = 24 → ab_R k b mX12_steady 23 [some (.ref 50), some (.int (nI w)), some (.int (nI (ab_set ρ w i))), some (.int (nI (ab_steadyM ρ w i))), some (.int (nI i)), none, none] [] h (ab_pn (fun v h' => h' = h ∧ v = ab_steadyM ρ w 24)) := by
  intro j
  induction j with
  | zero =>
    intro i hi
    obtain rfl : i = 24 := by omega
    refine ab_iload dX12_steady_23 rfl ?_
    refine ab_bipush (v := nI 24) dX12_steady_25 (by decide) ?_
    refine ab_nicmp_ge 101 dX12_steady_27 (by decide) (by omega) (by omega) (fun c_27 => ?_) (fun c_27 => ?_)
    · skip
      refine ab_iload_n dX12_steady_101 rfl ?_
      refine ab_retn dX12_steady_102 ?_
      exact ⟨rfl, rfl⟩
    · skip
      exact absurd (by omega) c_27
  | succ j ih =>
    intro i hi
    refine ab_iload dX12_steady_23 rfl ?_
    refine ab_bipush (v := nI 24) dX12_steady_25 (by decide) ?_
    refine ab_nicmp_ge 101 dX12_steady_27 (by decide) (by omega) (by omega) (fun c_27 => ?_) (fun c_27 => ?_)
    · skip
      exact absurd c_27 (by omega)
    · skip
      refine ab_iload_n dX12_steady_30 rfl ?_
      refine ab_iload dX12_steady_31 rfl ?_
      refine ab_iconst (v := nI 4) dX12_steady_33 (by decide) ?_
      refine ab_nicmp_lt 41 dX12_steady_34 (by decide) (by omega) (by omega) (fun c_34 => ?_) (fun c_34 => ?_)
      · skip
        refine ab_iconst (v := nI 0) dX12_steady_41 (by decide) ?_
        refine ab_norR dX12_steady_42 ?_
        refine ab_sti_n (ls' := [_, _, _, _, _, _, _]) dX12_steady_43 (by decide) rfl ?_
        refine ab_iconst (v := nI 0) dX12_steady_44 (by decide) ?_
        refine ab_sti (ls' := [_, _, _, _, _, _, _]) dX12_steady_45 (by decide) rfl ?_
        refine ab_iconst (v := nI 0) dX12_steady_47 (by decide) ?_
        refine ab_sti (ls' := [_, _, _, _, _, _, _]) dX12_steady_48 (by decide) rfl ?_
        refine lp_mSteadyB (s := ab_set ρ w i) hk hM hU (ab_set_lt hρ hw i) ?_ 16 0 rfl
        refine ab_iload dX12_steady_92 rfl ?_
        refine ab_sti_n (ls' := [_, _, _, _, _, _, _]) dX12_steady_94 (by decide) rfl ?_
        refine ab_nincR (ls' := [_, _, _, _, _, _, _]) dX12_steady_95 rfl rfl ?_
        refine ab_goto 23 dX12_steady_98 (by decide) ?_
        refine (fun q => ?_) (ab_weak (ls := [some (.ref 50), some (.int (nI w)), some (.int (nI (ab_set ρ w (i + 1)))), some (.int (nI (ab_steadyM ρ w (i + 1)))), some (.int (nI (i + 1))), some (.int (nI (ab_set ρ w (i + 1)))), none]) (ih (i + 1) (by omega)) ⟨rfl, rfl, rfl, rfl, rfl, trivial⟩)
        rw [ab_steadyM] at q
        first | (rw [if_neg (by omega)] at q; rw [ab_or0]; exact q) | (rw [if_pos (by omega)] at q; exact q)
      · skip
        refine ab_iload_n dX12_steady_37 rfl ?_
        refine ab_goto 42 dX12_steady_38 (by decide) ?_
        refine ab_norR dX12_steady_42 ?_
        refine ab_sti_n (ls' := [_, _, _, _, _, _, _]) dX12_steady_43 (by decide) rfl ?_
        refine ab_iconst (v := nI 0) dX12_steady_44 (by decide) ?_
        refine ab_sti (ls' := [_, _, _, _, _, _, _]) dX12_steady_45 (by decide) rfl ?_
        refine ab_iconst (v := nI 0) dX12_steady_47 (by decide) ?_
        refine ab_sti (ls' := [_, _, _, _, _, _, _]) dX12_steady_48 (by decide) rfl ?_
        refine lp_mSteadyB (s := ab_set ρ w i) hk hM hU (ab_set_lt hρ hw i) ?_ 16 0 rfl
        refine ab_iload dX12_steady_92 rfl ?_
        refine ab_sti_n (ls' := [_, _, _, _, _, _, _]) dX12_steady_94 (by decide) rfl ?_
        refine ab_nincR (ls' := [_, _, _, _, _, _, _]) dX12_steady_95 rfl rfl ?_
        refine ab_goto 23 dX12_steady_98 (by decide) ?_
        refine (fun q => ?_) (ab_weak (ls := [some (.ref 50), some (.int (nI w)), some (.int (nI (ab_set ρ w (i + 1)))), some (.int (nI (ab_steadyM ρ w (i + 1)))), some (.int (nI (i + 1))), some (.int (nI (ab_set ρ w (i + 1)))), none]) (ih (i + 1) (by omega)) ⟨rfl, rfl, rfl, rfl, rfl, trivial⟩)
        rw [ab_steadyM] at q
        first | (rw [if_neg (by omega)] at q; rw [ab_or0]; exact q) | (rw [if_pos (by omega)] at q; exact q)
set_option maxRecDepth 100000 in
set_option maxHeartbeats 4000000 in
theorem m_steady {k b : Nat} {h : ab_H} {ρ : Nat → Nat} {x : Int32} (hk : 2 ≤ k) (hM : at_M (ab_sh h) (ab_r h)) (hU : ab_rho h 57 ρ) : ab_M k b mX12_steady [.ref 50, .int x] h (ab_pi (ab_oI 51 [] h (sp_steady ρ x))) := by
  refine ab_enter ?_
  refine ab_iload_n dX12_steady_0 rfl ?_
  refine ab_callSb [_] dX12_steady_1 ml_X12_174 mk_X12_isWay (m_isWay (k := 1) (b := 0) (by omega)) (fun t1 hh0 hq => ?_)
  obtain ⟨hhe, rfl⟩ := hq
  rw [hhe]
  refine ab_bif_ne 14 dX12_steady_4 (by decide) (fun c_4 => ?_) (fun c_4 => ?_)
  · skip
    obtain ⟨w, rfl, hw, -⟩ := ab_inr_nat (n := 3) c_4
    refine ab_iconst (v := nI 1) dX12_steady_14 (by decide) ?_
    refine ab_iload_n dX12_steady_15 rfl ?_
    refine ab_nshlR dX12_steady_16 (by omega) ?_
    refine ab_sti_n (ls' := [_, _, _, _, _, _, _]) dX12_steady_17 (by decide) rfl ?_
    refine ab_iconst (v := nI 0) dX12_steady_18 (by decide) ?_
    refine ab_sti_n (ls' := [_, _, _, _, _, _, _]) dX12_steady_19 (by decide) rfl ?_
    refine ab_iconst (v := nI 0) dX12_steady_20 (by decide) ?_
    refine ab_sti (ls' := [_, _, _, _, _, _, _]) dX12_steady_21 (by decide) rfl ?_
    refine ab_mono ?_ (lp_mSteady (w := w) hk hM hU (fun j hj => (hU j hj).2) (by omega) 24 0 rfl)
    rintro v h3 ⟨x3, hx3, e2, e3⟩
    exact ⟨nI x3, hx3, ab_oI_ok (by unfold sp_steady; rw [if_pos c_4, nI_clamp (by omega), e3, ab_steadyM_eq, ab_steady_15 (fun j hj => (hU j hj).2) (by omega)]) (by rw [e2]; exact ab_fr.rf _)⟩
  · skip
    refine ab_aload_n dX12_steady_7 rfl ?_
    refine ab_bipush (v := -2) dX12_steady_8 (by decide) ?_
    refine ab_callVi [_] dX12_steady_10 ml_X12_9 mk_X12_refused hM.hs (m_refused (k := 0) (b := 0) (c := 2) hM (by decide) (by omega) (by omega)) (fun v1 hh1 hq => ?_)
    obtain ⟨hv, hh⟩ := hq
    refine ab_reti dX12_steady_13 ?_
    exact ab_oI_no (by unfold sp_steady; rw [if_neg (fun q => ab_tf q c_4)]) hv hh
