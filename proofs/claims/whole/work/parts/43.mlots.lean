/-! ===== the model: meetings, lots ===== -/
set_option maxRecDepth 100000 in
set_option maxHeartbeats 4000000 in
theorem lp_mMeet {k b s u : Nat} {h : ab_H} {ρ : Nat → Nat} {x1 x2 : Int32} (hk : 2 ≤ k) (hM : at_M (ab_sh h) (ab_r h)) (hU : ab_rho h 57 ρ) (hρ : ∀ j, j < 16 → ρ j < 4) (hs : s < 16) (hu1 : u ≤ 1) : ∀ (j d g : Nat) (h1 : ab_H) (F : Nat → Option Nat), d + j = 15 → g = 4 ^ d → ab_fr [60, 61] h h1 → ab_isF ρ s d F → ab_row h1 60 (-1) F → ab_meetFrom ρ s 15 0 = ab_meetFrom ρ s j d → ab_R k b mX12_meet 75 [some (.ref 50), some (.int x1), some (.int x2), some (.int (nI u)), some (.int (nI g)), some (.int (nI d)), none] [] h1 (ab_pi (fun v h' => ab_fr [60, 61] h h' ∧ v = ab_meetOut (decide (u = 1)) (ab_meetFrom ρ s 15 0))) := by
  intro j
  induction j with
  | zero =>
    intro d g h1 F hd hg f hF he hv
    have hM1 := at_M.fr f hM
    have hU1 := hU.fr f (by simp)
    cases e : ab_A ρ d s with
    | none =>
      obtain rfl : d = 15 := by omega
      refine ab_iload dX12_meet_75 rfl ?_
      refine ab_bipush (v := nI 15) dX12_meet_77 (by decide) ?_
      refine ab_nicmp_gt 130 dX12_meet_79 (by decide) (by omega) (by omega) (fun c_79 => ?_) (fun c_79 => ?_)
      · skip
        exact absurd c_79 (by omega)
      · skip
        refine ab_aload_n dX12_meet_82 rfl ?_
        refine ab_callVi [] dX12_meet_83 ml_X12_193 mk_X12_leastAlike hM1.hs (m_leastAlike (k := 0) (b := 0) hM1 he (fun t a ht q => Nat.lt_of_lt_of_le (ab_isF_lt hF ht q) (Nat.le_trans (ab_pow15 (by omega)) (by omega)))) (fun v1 hh1 hq => ?_)
        obtain ⟨hhe, hve⟩ := hq
        rw [hhe]
        rw [ab_diag_A hρ hs hF] at hve
        have hvN : v1 = -1 := by rw [hve, e]; rfl
        refine ab_topI hvN ?_
        refine ab_sti (ls' := [_, _, _, _, _, _, _]) dX12_meet_86 (by decide) rfl ?_
        refine ab_iload dX12_meet_88 rfl ?_
        refine ab_if_lt 105 dX12_meet_90 (by decide) (fun c_90 => ?_) (fun c_90 => ?_)
        · skip
          refine ab_iload dX12_meet_105 rfl ?_
          refine ab_bipush (v := nI 15) dX12_meet_107 (by decide) ?_
          refine ab_nicmp_ge 124 dX12_meet_109 (by decide) (by omega) (by omega) (fun c_109 => ?_) (fun c_109 => ?_)
          · skip
            refine ab_nincR (ls' := [_, _, _, _, _, _, _]) dX12_meet_124 rfl rfl ?_
            refine ab_goto 75 dX12_meet_127 (by decide) ?_
            refine ab_iload dX12_meet_75 rfl ?_
            refine ab_bipush (v := nI 15) dX12_meet_77 (by decide) ?_
            refine ab_nicmp_gt 130 dX12_meet_79 (by decide) (by omega) (by omega) (fun c_79 => ?_) (fun c_79 => ?_)
            · skip
              refine ab_bipush (v := -9) dX12_meet_130 (by decide) ?_
              refine ab_reti dX12_meet_132 ?_
              exact ⟨f, by rw [hv, ab_meet_none0 e]; rfl⟩
            · skip
              exact absurd (by omega) c_79
          · skip
            exact absurd (by omega) c_109
        · skip
          exact absurd (show (-1 : Int32) < 0 by decide) c_90
    | some a =>
      have ha : a < 2147483648 := Nat.lt_of_lt_of_le (ab_A_lt hρ hs e) (Nat.le_trans (ab_pow15 (show d ≤ 15 by omega)) (by omega))
      refine ab_iload dX12_meet_75 rfl ?_
      refine ab_bipush (v := nI 15) dX12_meet_77 (by decide) ?_
      refine ab_nicmp_gt 130 dX12_meet_79 (by decide) (by omega) (by omega) (fun c_79 => ?_) (fun c_79 => ?_)
      · skip
        exact absurd c_79 (by omega)
      · skip
        refine ab_aload_n dX12_meet_82 rfl ?_
        refine ab_callVi [] dX12_meet_83 ml_X12_193 mk_X12_leastAlike hM1.hs (m_leastAlike (k := 0) (b := 0) hM1 he (fun t a ht q => Nat.lt_of_lt_of_le (ab_isF_lt hF ht q) (Nat.le_trans (ab_pow15 (by omega)) (by omega)))) (fun v1 hh1 hq => ?_)
        obtain ⟨hhe, hve⟩ := hq
        rw [hhe]
        rw [ab_diag_A hρ hs hF] at hve
        have hvS : v1 = nI a := by rw [hve, e]; rfl
        refine ab_topI hvS ?_
        refine ab_sti (ls' := [_, _, _, _, _, _, _]) dX12_meet_86 (by decide) rfl ?_
        refine ab_iload dX12_meet_88 rfl ?_
        refine ab_if_lt 105 dX12_meet_90 (by decide) (fun c_90 => ?_) (fun c_90 => ?_)
        · skip
          exact absurd c_90 (nI_pos ha)
        · skip
          refine ab_iload_n dX12_meet_93 rfl ?_
          refine ab_nif_ne 102 dX12_meet_94 (by decide) (by omega) (fun c_94 => ?_) (fun c_94 => ?_)
          · skip
            refine ab_iload dX12_meet_102 rfl ?_
            refine ab_reti dX12_meet_104 ?_
            exact ⟨f, by rw [hv, ab_meet_some e]; show _ = if decide (u = 1) = true then nI a else nI d; first | (rw [if_pos (decide_eq_true (by omega))]) | (rw [if_neg (fun q => by have := of_decide_eq_true q; omega)])⟩
          · skip
            refine ab_iload dX12_meet_97 rfl ?_
            refine ab_goto 104 dX12_meet_99 (by decide) ?_
            refine ab_reti dX12_meet_104 ?_
            exact ⟨f, by rw [hv, ab_meet_some e]; show _ = if decide (u = 1) = true then nI a else nI d; first | (rw [if_pos (decide_eq_true (by omega))]) | (rw [if_neg (fun q => by have := of_decide_eq_true q; omega)])⟩
  | succ j ih =>
    intro d g h1 F hd hg f hF he hv
    have hM1 := at_M.fr f hM
    have hU1 := hU.fr f (by simp)
    cases e : ab_A ρ d s with
    | none =>
      refine ab_iload dX12_meet_75 rfl ?_
      refine ab_bipush (v := nI 15) dX12_meet_77 (by decide) ?_
      refine ab_nicmp_gt 130 dX12_meet_79 (by decide) (by omega) (by omega) (fun c_79 => ?_) (fun c_79 => ?_)
      · skip
        exact absurd c_79 (by omega)
      · skip
        refine ab_aload_n dX12_meet_82 rfl ?_
        refine ab_callVi [] dX12_meet_83 ml_X12_193 mk_X12_leastAlike hM1.hs (m_leastAlike (k := 0) (b := 0) hM1 he (fun t a ht q => Nat.lt_of_lt_of_le (ab_isF_lt hF ht q) (Nat.le_trans (ab_pow15 (by omega)) (by omega)))) (fun v1 hh1 hq => ?_)
        obtain ⟨hhe, hve⟩ := hq
        rw [hhe]
        rw [ab_diag_A hρ hs hF] at hve
        have hvN : v1 = -1 := by rw [hve, e]; rfl
        refine ab_topI hvN ?_
        refine ab_sti (ls' := [_, _, _, _, _, _, _]) dX12_meet_86 (by decide) rfl ?_
        refine ab_iload dX12_meet_88 rfl ?_
        refine ab_if_lt 105 dX12_meet_90 (by decide) (fun c_90 => ?_) (fun c_90 => ?_)
        · skip
          refine ab_iload dX12_meet_105 rfl ?_
          refine ab_bipush (v := nI 15) dX12_meet_107 (by decide) ?_
          refine ab_nicmp_ge 124 dX12_meet_109 (by decide) (by omega) (by omega) (fun c_109 => ?_) (fun c_109 => ?_)
          · skip
            exact absurd c_109 (by omega)
          · skip
            refine ab_aload_n dX12_meet_112 rfl ?_
            refine ab_iload dX12_meet_113 rfl ?_
            refine ab_callVv [_] dX12_meet_115 ml_X12_196 mk_X12_leads hM1.hs (m_leads (k := 0) (b := 0) (ρ := ρ) (F := F) hM1 hU1 he (fun t a ht q => Nat.lt_of_lt_of_le (ab_isF_lt hF ht q) (ab_pow14 (by omega))) (by rw [hg]; exact ab_pow14 (by omega))) (fun h2 hq => ?_)
            obtain ⟨f2, he2⟩ := hq
            refine ab_iload dX12_meet_118 rfl ?_
            refine ab_iconst (v := nI 4) dX12_meet_120 (by decide) ?_
            refine ab_nmulR dX12_meet_121 ?_
            refine ab_sti (ls' := [_, _, _, _, _, _, _]) dX12_meet_122 (by decide) rfl ?_
            refine ab_nincR (ls' := [_, _, _, _, _, _, _]) dX12_meet_124 rfl rfl ?_
            refine ab_goto 75 dX12_meet_127 (by decide) ?_
            exact ab_weak (ih (d + 1) _ h2 _ (by omega) (by rw [hg, Nat.pow_succ]) (f.trans f2 (by simp)) (by have q := ab_isF_step hρ hs hF; rw [← hg] at q; exact q) he2 (hv.trans (ab_meet_none e))) ⟨rfl, rfl, rfl, rfl, rfl, rfl, trivial⟩
        · skip
          exact absurd (show (-1 : Int32) < 0 by decide) c_90
    | some a =>
      have ha : a < 2147483648 := Nat.lt_of_lt_of_le (ab_A_lt hρ hs e) (Nat.le_trans (ab_pow15 (show d ≤ 15 by omega)) (by omega))
      refine ab_iload dX12_meet_75 rfl ?_
      refine ab_bipush (v := nI 15) dX12_meet_77 (by decide) ?_
      refine ab_nicmp_gt 130 dX12_meet_79 (by decide) (by omega) (by omega) (fun c_79 => ?_) (fun c_79 => ?_)
      · skip
        exact absurd c_79 (by omega)
      · skip
        refine ab_aload_n dX12_meet_82 rfl ?_
        refine ab_callVi [] dX12_meet_83 ml_X12_193 mk_X12_leastAlike hM1.hs (m_leastAlike (k := 0) (b := 0) hM1 he (fun t a ht q => Nat.lt_of_lt_of_le (ab_isF_lt hF ht q) (Nat.le_trans (ab_pow15 (by omega)) (by omega)))) (fun v1 hh1 hq => ?_)
        obtain ⟨hhe, hve⟩ := hq
        rw [hhe]
        rw [ab_diag_A hρ hs hF] at hve
        have hvS : v1 = nI a := by rw [hve, e]; rfl
        refine ab_topI hvS ?_
        refine ab_sti (ls' := [_, _, _, _, _, _, _]) dX12_meet_86 (by decide) rfl ?_
        refine ab_iload dX12_meet_88 rfl ?_
        refine ab_if_lt 105 dX12_meet_90 (by decide) (fun c_90 => ?_) (fun c_90 => ?_)
        · skip
          exact absurd c_90 (nI_pos ha)
        · skip
          refine ab_iload_n dX12_meet_93 rfl ?_
          refine ab_nif_ne 102 dX12_meet_94 (by decide) (by omega) (fun c_94 => ?_) (fun c_94 => ?_)
          · skip
            refine ab_iload dX12_meet_102 rfl ?_
            refine ab_reti dX12_meet_104 ?_
            exact ⟨f, by rw [hv, ab_meet_some e]; show _ = if decide (u = 1) = true then nI a else nI d; first | (rw [if_pos (decide_eq_true (by omega))]) | (rw [if_neg (fun q => by have := of_decide_eq_true q; omega)])⟩
          · skip
            refine ab_iload dX12_meet_97 rfl ?_
            refine ab_goto 104 dX12_meet_99 (by decide) ?_
            refine ab_reti dX12_meet_104 ?_
            exact ⟨f, by rw [hv, ab_meet_some e]; show _ = if decide (u = 1) = true then nI a else nI d; first | (rw [if_pos (decide_eq_true (by omega))]) | (rw [if_neg (fun q => by have := of_decide_eq_true q; omega)])⟩
set_option maxRecDepth 100000 in
set_option maxHeartbeats 4000000 in
theorem lp_mMeetA {k b s u w p : Nat} {h : ab_H} {ρ : Nat → Nat} (hk : 2 ≤ k) (hM : at_M (ab_sh h) (ab_r h)) (hU : ab_rho h 57 ρ) (hρ : ∀ j, j < 16 → ρ j < 4) (hs : s < 16) (hu1 : u ≤ 1) (hw : w ≤ 3) (hp : p ≤ 3) (hsx : s = 4 * w + p) : ∀ (j i : Nat) (h1 : ab_H), i + j = 16 → ab_fr [60] h h1 → (∀ t, t < i → ab_i h1 60 t = ab_opt (-1) (if t = s then some 0 else none)) → ab_R k b mX12_meet 34 [some (.ref 50), some (.int (nI w)), some (.int (nI p)), some (.int (nI u)), some (.int (nI i)), none, none] [] h1 (ab_pi (fun v h' => ab_fr [60, 61] h h' ∧ v = ab_meetOut (decide (u = 1)) (ab_meetFrom ρ s 15 0))) := by
  intro j
  induction j with
  | zero =>
    intro i h1 hi f hl
    obtain rfl : i = 16 := by omega
    have hM1 := at_M.fr f hM
    refine ab_iload dX12_meet_34 rfl ?_
    refine ab_bipush (v := nI 16) dX12_meet_36 (by decide) ?_
    refine ab_nicmp_ge 69 dX12_meet_38 (by decide) (by omega) (by omega) (fun c_38 => ?_) (fun c_38 => ?_)
    · skip
      refine ab_iconst (v := nI 1) dX12_meet_69 (by decide) ?_
      refine ab_sti (ls' := [_, _, _, _, _, _, _]) dX12_meet_70 (by decide) rfl ?_
      refine ab_iconst (v := nI 0) dX12_meet_72 (by decide) ?_
      refine ab_sti (ls' := [_, _, _, _, _, _, _]) dX12_meet_73 (by decide) rfl ?_
      exact lp_mMeet hk hM hU hρ hs hu1 15 0 1 h1 _ rfl rfl (f.mono (by simp)) (ab_isF_0 ρ s) hl rfl
    · skip
      exact absurd (by omega) c_38
  | succ j ih =>
    intro i h1 hi f hl
    have hM1 := at_M.fr f hM
    refine ab_iload dX12_meet_34 rfl ?_
    refine ab_bipush (v := nI 16) dX12_meet_36 (by decide) ?_
    refine ab_nicmp_ge 69 dX12_meet_38 (by decide) (by omega) (by omega) (fun c_38 => ?_) (fun c_38 => ?_)
    · skip
      exact absurd c_38 (by omega)
    · skip
      refine ab_aload_n dX12_meet_41 rfl ?_
      refine ab_getR dX12_meet_42 fl_X12_58 hM1.hs hM1.p50_13 ?_
      refine ab_iload dX12_meet_45 rfl ?_
      refine ab_iload dX12_meet_47 rfl ?_
      refine ab_iconst (v := nI 4) dX12_meet_49 (by decide) ?_
      refine ab_iload_n dX12_meet_50 rfl ?_
      refine ab_nmulR dX12_meet_51 ?_
      refine ab_iload_n dX12_meet_52 rfl ?_
      refine ab_naddR dX12_meet_53 ?_
      refine ab_nicmp_ne 61 dX12_meet_54 (by decide) (by omega) (by omega) (fun c_54 => ?_) (fun c_54 => ?_)
      · skip
        refine ab_iconst (v := -1) dX12_meet_61 (by decide) ?_
        refine ab_iast dX12_meet_62 hM1.s60 rfl (by omega) ?_
        refine ab_nincR (ls' := [_, _, _, _, _, _, _]) dX12_meet_63 rfl rfl ?_
        refine ab_goto 34 dX12_meet_66 (by decide) ?_
        exact ih (i + 1) _ (by omega) (f.si _ _ _ ab_mem1) (ab_si_next (P := fun t => ab_opt (-1) (if t = s then some 0 else none)) hl (by show _ = ab_opt (-1) (if i = s then some 0 else none); first | rw [if_pos (by omega)]; rfl | rw [if_neg (by omega)]; rfl))
      · skip
        refine ab_iconst (v := nI 0) dX12_meet_57 (by decide) ?_
        refine ab_goto 62 dX12_meet_58 (by decide) ?_
        refine ab_iast dX12_meet_62 hM1.s60 rfl (by omega) ?_
        refine ab_nincR (ls' := [_, _, _, _, _, _, _]) dX12_meet_63 rfl rfl ?_
        refine ab_goto 34 dX12_meet_66 (by decide) ?_
        exact ih (i + 1) _ (by omega) (f.si _ _ _ ab_mem1) (ab_si_next (P := fun t => ab_opt (-1) (if t = s then some 0 else none)) hl (by show _ = ab_opt (-1) (if i = s then some 0 else none); first | rw [if_pos (by omega)]; rfl | rw [if_neg (by omega)]; rfl))
set_option maxRecDepth 100000 in
set_option maxHeartbeats 4000000 in
theorem m_meet {k b : Nat} {h : ab_H} {ρ : Nat → Nat} {x y z : Int32} (hk : 2 ≤ k) (hM : at_M (ab_sh h) (ab_r h)) (hU : ab_rho h 57 ρ) : ab_M k b mX12_meet [.ref 50, .int x, .int y, .int z] h (ab_pi (ab_oI 51 [60, 61] h (sp_meet ρ x y z))) := by
  refine ab_enter ?_
  refine ab_iload_n dX12_meet_0 rfl ?_
  refine ab_callSb [_] dX12_meet_1 ml_X12_174 mk_X12_isWay (m_isWay (k := 1) (b := 0) (by omega)) (fun t1 hh0 hq => ?_)
  obtain ⟨hhe, rfl⟩ := hq
  rw [hhe]
  refine ab_bif_eq 24 dX12_meet_4 (by decide) (fun c_4 => ?_) (fun c_4 => ?_)
  · skip
    refine ab_aload_n dX12_meet_24 rfl ?_
    refine ab_bipush (v := -2) dX12_meet_25 (by decide) ?_
    refine ab_callVi [_] dX12_meet_27 ml_X12_9 mk_X12_refused hM.hs (m_refused (k := 0) (b := 0) (c := 2) hM (by decide) (by omega) (by omega)) (fun v1 hh1 hq => ?_)
    obtain ⟨hv, hh⟩ := hq
    refine ab_reti dX12_meet_30 ?_
    exact ab_oI_no (by unfold sp_meet; rw [if_neg (fun q => by first | exact ab_tf q.1 c_4 | exact ab_tf q.2.1 c_11 | exact ab_tf q.2.2 c_21)]) hv hh
  · skip
    refine ab_iload_n dX12_meet_7 rfl ?_
    refine ab_callSb [_] dX12_meet_8 ml_X12_174 mk_X12_isWay (m_isWay (k := 1) (b := 0) (by omega)) (fun t1 hh0 hq => ?_)
    obtain ⟨hhe, rfl⟩ := hq
    rw [hhe]
    refine ab_bif_eq 24 dX12_meet_11 (by decide) (fun c_11 => ?_) (fun c_11 => ?_)
    · skip
      refine ab_aload_n dX12_meet_24 rfl ?_
      refine ab_bipush (v := -2) dX12_meet_25 (by decide) ?_
      refine ab_callVi [_] dX12_meet_27 ml_X12_9 mk_X12_refused hM.hs (m_refused (k := 0) (b := 0) (c := 2) hM (by decide) (by omega) (by omega)) (fun v1 hh1 hq => ?_)
      obtain ⟨hv, hh⟩ := hq
      refine ab_reti dX12_meet_30 ?_
      exact ab_oI_no (by unfold sp_meet; rw [if_neg (fun q => by first | exact ab_tf q.1 c_4 | exact ab_tf q.2.1 c_11 | exact ab_tf q.2.2 c_21)]) hv hh
    · skip
      refine ab_iload_n dX12_meet_14 rfl ?_
      refine ab_i2l dX12_meet_15 ?_
      refine ab_lconst (v := 0) dX12_meet_16 (by decide) ?_
      refine ab_lconst (v := 1) dX12_meet_17 (by decide) ?_
      refine ab_callSb [_, _, _] dX12_meet_18 ml_X12_123 mk_X12_isIn (m_isIn (k := 0) (b := 0) (Int32.toInt_toInt64 _) (lo := 0) (by decide) (hi := 1) (by decide)) (fun t1 hh0 hq => ?_)
      obtain ⟨hhe, rfl⟩ := hq
      rw [hhe]
      refine ab_bif_ne 31 dX12_meet_21 (by decide) (fun c_21 => ?_) (fun c_21 => ?_)
      · skip
        obtain ⟨w, rfl, hw, -⟩ := ab_inr_nat (n := 3) c_4
        obtain ⟨p, rfl, hp, -⟩ := ab_inr_nat (n := 3) c_11
        obtain ⟨u, rfl, hu, -⟩ := ab_inr_nat (n := 1) c_21
        refine ab_iconst (v := nI 0) dX12_meet_31 (by decide) ?_
        refine ab_sti (ls' := [_, _, _, _, _, _, _]) dX12_meet_32 (by decide) rfl ?_
        refine ab_mono ?_ (lp_mMeetA (s := 4 * w + p) hk hM hU (fun j hj => (hU j hj).2) (by omega) hu hw hp rfl 16 0 h rfl (ab_fr.rf h) (fun t ht => absurd ht (Nat.not_lt_zero t)))
        rintro v h3 ⟨x3, hx3, f3, e3⟩
        exact ⟨x3, hx3, ab_oI_ok (by unfold sp_meet; rw [if_pos ⟨c_4, c_11, c_21⟩, nI_clamp (by omega), nI_clamp (by omega), e3, Nat.mul_comm 4 w]; rw [show decide (nI u = nI 1) = decide (u = 1) from decide_eq_decide.mpr (ab_ninj (by omega) (by omega))]) f3⟩
      · skip
        refine ab_aload_n dX12_meet_24 rfl ?_
        refine ab_bipush (v := -2) dX12_meet_25 (by decide) ?_
        refine ab_callVi [_] dX12_meet_27 ml_X12_9 mk_X12_refused hM.hs (m_refused (k := 0) (b := 0) (c := 2) hM (by decide) (by omega) (by omega)) (fun v1 hh1 hq => ?_)
        obtain ⟨hv, hh⟩ := hq
        refine ab_reti dX12_meet_30 ?_
        exact ab_oI_no (by unfold sp_meet; rw [if_neg (fun q => by first | exact ab_tf q.1 c_4 | exact ab_tf q.2.1 c_11 | exact ab_tf q.2.2 c_21)]) hv hh
set_option maxRecDepth 100000 in
set_option maxHeartbeats 4000000 in
theorem lp_mDraw {k b w n i a s u : Nat} {h : ab_H} {ρ : Nat → Nat} {z0 : Int32} {R : Nat × Int32} {post : Value → ab_H → Prop} (hM : at_M (ab_sh h) (ab_r h)) (hU : ab_rho h 57 ρ) (cont : ∀ {t : Nat} {z : Int32}, R = (t, z) → ab_R k b mX12_lots 120 [some (.ref 50), some (.int (nI w)), some (.int (nI n)), some (.int z0), some (.int (nI u)), some (.int (z)), some (.int (nI a)), some (.int (nI s)), some (.int (nI i)), some (.int (nI t)), none] [] h post) : ∀ (j d t : Nat) (z : Int32), d + j = 8 → t < 4 → R = ab_draw ab_seed ab_dg ρ j t z → ab_R k b mX12_lots 74 [some (.ref 50), some (.int (nI w)), some (.int (nI n)), some (.int z0), some (.int (nI u)), some (.int (z)), some (.int (nI a)), some (.int (nI s)), some (.int (nI i)), some (.int (nI t)), some (.int (nI d))] [] h post := by
  intro j
  induction j with
  | zero =>
    intro d t z hd ht hz
    obtain rfl : d = 8 := by omega
    refine ab_iload dX12_lots_74 rfl ?_
    refine ab_bipush (v := nI 8) dX12_lots_76 (by decide) ?_
    refine ab_nicmp_ge 120 dX12_lots_78 (by decide) (by omega) (by omega) (fun c_78 => ?_) (fun c_78 => ?_)
    · skip
      exact ab_weak (cont hz) ⟨rfl, rfl, rfl, rfl, rfl, rfl, rfl, rfl, rfl, rfl, trivial⟩
    · skip
      exact absurd (by omega) c_78
  | succ j ih =>
    intro d t z hd ht hz
    refine ab_iload dX12_lots_74 rfl ?_
    refine ab_bipush (v := nI 8) dX12_lots_76 (by decide) ?_
    refine ab_nicmp_ge 120 dX12_lots_78 (by decide) (by omega) (by omega) (fun c_78 => ?_) (fun c_78 => ?_)
    · skip
      exact absurd c_78 (by omega)
    · skip
      refine ab_iload dX12_lots_81 rfl ?_
      refine ab_ldc dX12_lots_83 kc_X12_202 ?_
      refine ab_imul dX12_lots_85 ?_
      refine ab_ldc dX12_lots_86 kc_X12_203 ?_
      refine ab_iadd dX12_lots_88 ?_
      refine ab_topI (y := ab_seed z) rfl ?_
      refine ab_sti (ls' := [_, _, _, _, _, _, _, _, _, _, _]) dX12_lots_89 (by decide) rfl ?_
      refine ab_aload_n dX12_lots_91 rfl ?_
      refine ab_getR dX12_lots_92 fl_X12_48 hM.hs hM.p50_10 ?_
      refine ab_iconst (v := nI 4) dX12_lots_95 (by decide) ?_
      refine ab_iload dX12_lots_96 rfl ?_
      refine ab_nmulR dX12_lots_98 ?_
      refine ab_iload dX12_lots_99 rfl ?_
      refine ab_ldc dX12_lots_101 kc_X12_206 ?_
      refine ab_iand dX12_lots_103 ?_
      obtain ⟨m, hm, hm31⟩ := ab_mask (ab_seed z)
      have hdg : ab_dg (ab_seed z) = m / 256 % 4 := by unfold ab_dg; rw [hm, nI_clamp hm31]
      refine ab_topI hm ?_
      refine ab_sipush (v := nI 256) dX12_lots_104 (by decide) ?_
      refine ab_ndivR dX12_lots_107 (by omega) (by decide) (by decide) ?_
      refine ab_iconst (v := nI 4) dX12_lots_108 (by decide) ?_
      refine ab_nremR dX12_lots_109 (by omega) (by decide) (by decide) ?_
      refine ab_topI (congrArg nI hdg.symm) ?_
      refine ab_naddR dX12_lots_110 ?_
      refine ab_iald dX12_lots_111 hM.s57 rfl (by have := ab_dg_lt (ab_seed z); omega) (hU (4 * t + ab_dg (ab_seed z)) (by have := ab_dg_lt (ab_seed z); omega)).1 ?_
      refine ab_sti (ls' := [_, _, _, _, _, _, _, _, _, _, _]) dX12_lots_112 (by decide) rfl ?_
      refine ab_nincR (ls' := [_, _, _, _, _, _, _, _, _, _, _]) dX12_lots_114 rfl rfl ?_
      refine ab_goto 74 dX12_lots_117 (by decide) ?_
      exact ih (d + 1) _ _ (by omega) (hU _ (by have := ab_dg_lt (ab_seed z); omega)).2 (by rw [hz, ab_draw, Nat.mul_comm])
set_option maxRecDepth 100000 in
set_option maxHeartbeats 4000000 in
theorem lp_mLots {k b w n u : Nat} {h : ab_H} {ρ : Nat → Nat} {z0 : Int32} (hM : at_M (ab_sh h) (ab_r h)) (hU : ab_rho h 57 ρ) (hw : w < 4) (hn : n ≤ 50) (hu1 : u ≤ 1) : ∀ (j i a s : Nat) (z : Int32), i + j = n → (if u = 1 then (ab_lots ab_seed ab_dg ρ w n z0).2 else (ab_lots ab_seed ab_dg ρ w n z0).1) = (if u = 1 then s + (ab_lots ab_seed ab_dg ρ w j z).2 else a + (ab_lots ab_seed ab_dg ρ w j z).1) → ab_R k b mX12_lots 62 [some (.ref 50), some (.int (nI w)), some (.int (nI n)), some (.int z0), some (.int (nI u)), some (.int (z)), some (.int (nI a)), some (.int (nI s)), some (.int (nI i)), none, none] [] h (ab_pn (fun v h' => h' = h ∧ v = if u = 1 then (ab_lots ab_seed ab_dg ρ w n z0).2 else (ab_lots ab_seed ab_dg ρ w n z0).1)) := by
  intro j
  induction j with
  | zero =>
    intro i a s z hi hv
    obtain rfl : i = n := by omega
    refine ab_iload dX12_lots_62 rfl ?_
    refine ab_iload_n dX12_lots_64 rfl ?_
    refine ab_nicmp_ge 148 dX12_lots_65 (by decide) (by omega) (by omega) (fun c_65 => ?_) (fun c_65 => ?_)
    · skip
      refine ab_iload dX12_lots_148 rfl ?_
      refine ab_nif_ne 158 dX12_lots_150 (by decide) (by omega) (fun c_150 => ?_) (fun c_150 => ?_)
      · skip
        refine ab_iload dX12_lots_158 rfl ?_
        refine ab_retn dX12_lots_160 ?_
        exact ⟨rfl, by rw [hv]; first | (rw [if_pos (by omega)]; rfl) | (rw [if_neg (by omega)]; rfl)⟩
      · skip
        refine ab_iload dX12_lots_153 rfl ?_
        refine ab_goto 160 dX12_lots_155 (by decide) ?_
        refine ab_retn dX12_lots_160 ?_
        exact ⟨rfl, by rw [hv]; first | (rw [if_pos (by omega)]; rfl) | (rw [if_neg (by omega)]; rfl)⟩
    · skip
      exact absurd (Nat.le_refl _) c_65
  | succ j ih =>
    intro i a s z hi hv
    refine ab_iload dX12_lots_62 rfl ?_
    refine ab_iload_n dX12_lots_64 rfl ?_
    refine ab_nicmp_ge 148 dX12_lots_65 (by decide) (by omega) (by omega) (fun c_65 => ?_) (fun c_65 => ?_)
    · skip
      exact absurd c_65 (by omega)
    · skip
      refine ab_iload_n dX12_lots_68 rfl ?_
      refine ab_sti (ls' := [_, _, _, _, _, _, _, _, _, _, _]) dX12_lots_69 (by decide) rfl ?_
      refine ab_iconst (v := nI 0) dX12_lots_71 (by decide) ?_
      refine ab_sti (ls' := [_, _, _, _, _, _, _, _, _, _, _]) dX12_lots_72 (by decide) rfl ?_
      refine lp_mDraw (R := ab_draw ab_seed ab_dg ρ 8 w z) hM hU (fun {t z1} e => ?_) 8 0 w z rfl hw rfl
      have ht4 : t < 4 := by have := ab_draw_lt (sd := ab_seed) ab_dg_lt (fun j hj => (hU j hj).2) 8 w z hw; rw [e] at this; exact this
      refine ab_iload dX12_lots_120 rfl ?_
      refine ab_iload dX12_lots_122 rfl ?_
      refine ab_nif_ne 131 dX12_lots_124 (by decide) (by omega) (fun c_124 => ?_) (fun c_124 => ?_)
      · skip
        refine ab_iconst (v := nI 0) dX12_lots_131 (by decide) ?_
        refine ab_naddR dX12_lots_132 ?_
        refine ab_sti (ls' := [_, _, _, _, _, _, _, _, _, _, _]) dX12_lots_133 (by decide) rfl ?_
        refine ab_iload dX12_lots_135 rfl ?_
        refine ab_iload dX12_lots_137 rfl ?_
        refine ab_naddR dX12_lots_139 ?_
        refine ab_sti (ls' := [_, _, _, _, _, _, _, _, _, _, _]) dX12_lots_140 (by decide) rfl ?_
        refine ab_nincR (ls' := [_, _, _, _, _, _, _, _, _, _, _]) dX12_lots_142 rfl rfl ?_
        refine ab_goto 62 dX12_lots_145 (by decide) ?_
        refine ab_weak (ih (i + 1) _ _ _ (by omega) (hv.trans ?_)) ⟨rfl, rfl, rfl, rfl, rfl, rfl, rfl, rfl, rfl, trivial⟩
        rw [ab_lots, e]
        simp only [c_124, if_true, if_false]
        by_cases hu9 : u = 1 <;> simp [hu9] <;> omega
      · skip
        refine ab_iconst (v := nI 1) dX12_lots_127 (by decide) ?_
        refine ab_goto 132 dX12_lots_128 (by decide) ?_
        refine ab_naddR dX12_lots_132 ?_
        refine ab_sti (ls' := [_, _, _, _, _, _, _, _, _, _, _]) dX12_lots_133 (by decide) rfl ?_
        refine ab_iload dX12_lots_135 rfl ?_
        refine ab_iload dX12_lots_137 rfl ?_
        refine ab_naddR dX12_lots_139 ?_
        refine ab_sti (ls' := [_, _, _, _, _, _, _, _, _, _, _]) dX12_lots_140 (by decide) rfl ?_
        refine ab_nincR (ls' := [_, _, _, _, _, _, _, _, _, _, _]) dX12_lots_142 rfl rfl ?_
        refine ab_goto 62 dX12_lots_145 (by decide) ?_
        refine ab_weak (ih (i + 1) _ _ _ (by omega) (hv.trans ?_)) ⟨rfl, rfl, rfl, rfl, rfl, rfl, rfl, rfl, rfl, trivial⟩
        rw [ab_lots, e]
        simp only [c_124, if_true, if_false]
        by_cases hu9 : u = 1 <;> simp [hu9] <;> omega
set_option maxRecDepth 100000 in
set_option maxHeartbeats 4000000 in
theorem m_lots {k b : Nat} {h : ab_H} {ρ : Nat → Nat} {x n0 z y : Int32} (hk : 2 ≤ k) (hM : at_M (ab_sh h) (ab_r h)) (hU : ab_rho h 57 ρ) : ab_M k b mX12_lots [.ref 50, .int x, .int n0, .int z, .int y] h (ab_pi (ab_oI 51 [] h (sp_lots ρ x n0 z y))) := by
  refine ab_enter ?_
  refine ab_iload_n dX12_lots_0 rfl ?_
  refine ab_callSb [_] dX12_lots_1 ml_X12_174 mk_X12_isWay (m_isWay (k := 1) (b := 0) (by omega)) (fun t1 hh0 hq => ?_)
  obtain ⟨hhe, rfl⟩ := hq
  rw [hhe]
  refine ab_bif_eq 18 dX12_lots_4 (by decide) (fun c_4 => ?_) (fun c_4 => ?_)
  · skip
    refine ab_aload_n dX12_lots_18 rfl ?_
    refine ab_bipush (v := -2) dX12_lots_19 (by decide) ?_
    refine ab_callVi [_] dX12_lots_21 ml_X12_9 mk_X12_refused hM.hs (m_refused (k := 0) (b := 0) (c := 2) hM (by decide) (by omega) (by omega)) (fun v1 hh1 hq => ?_)
    obtain ⟨hv, hh⟩ := hq
    refine ab_reti dX12_lots_24 ?_
    exact ab_oI_no (by unfold sp_lots; rw [if_neg (fun q => by first | exact ab_tf q.1 c_4 | exact ab_tf q.2 c_15)]) hv hh
  · skip
    refine ab_iload dX12_lots_7 rfl ?_
    refine ab_i2l dX12_lots_9 ?_
    refine ab_lconst (v := 0) dX12_lots_10 (by decide) ?_
    refine ab_lconst (v := 1) dX12_lots_11 (by decide) ?_
    refine ab_callSb [_, _, _] dX12_lots_12 ml_X12_123 mk_X12_isIn (m_isIn (k := 0) (b := 0) (Int32.toInt_toInt64 _) (lo := 0) (by decide) (hi := 1) (by decide)) (fun t1 hh0 hq => ?_)
    obtain ⟨hhe, rfl⟩ := hq
    rw [hhe]
    refine ab_bif_ne 25 dX12_lots_15 (by decide) (fun c_15 => ?_) (fun c_15 => ?_)
    · skip
      refine ab_iload_n dX12_lots_25 rfl ?_
      refine ab_iconst (v := nI 1) dX12_lots_26 (by decide) ?_
      refine ab_icmp_ge 37 dX12_lots_27 (by decide) (fun c_27 => ?_) (fun c_27 => ?_)
      · skip
        refine ab_iload_n dX12_lots_37 rfl ?_
        refine ab_bipush (v := nI 50) dX12_lots_38 (by decide) ?_
        refine ab_icmp_le 50 dX12_lots_40 (by decide) (fun c_40 => ?_) (fun c_40 => ?_)
        · skip
          obtain ⟨w, rfl, hw, -⟩ := ab_inr_nat (n := 3) c_4
          obtain ⟨u, rfl, hu, -⟩ := ab_inr_nat (n := 1) c_15
          have hn1 := (ab_leN (n := 1) (by omega)).mp c_27
          have hn50 := (ab_Nle (n := 50) (by omega)).mp c_40
          obtain ⟨n, rfl, hn31⟩ := ab_of0 (x := n0) (ab_ge0.mpr (by omega))
          rw [nI_toInt hn31] at hn1 hn50
          refine ab_iload_n dX12_lots_50 rfl ?_
          refine ab_sti (ls' := [_, _, _, _, _, _, _, _, _, _, _]) dX12_lots_51 (by decide) rfl ?_
          refine ab_iconst (v := nI 0) dX12_lots_53 (by decide) ?_
          refine ab_sti (ls' := [_, _, _, _, _, _, _, _, _, _, _]) dX12_lots_54 (by decide) rfl ?_
          refine ab_iconst (v := nI 0) dX12_lots_56 (by decide) ?_
          refine ab_sti (ls' := [_, _, _, _, _, _, _, _, _, _, _]) dX12_lots_57 (by decide) rfl ?_
          refine ab_iconst (v := nI 0) dX12_lots_59 (by decide) ?_
          refine ab_sti (ls' := [_, _, _, _, _, _, _, _, _, _, _]) dX12_lots_60 (by decide) rfl ?_
          refine ab_mono ?_ (lp_mLots (w := w) (n := n) (z0 := z) hM hU (by omega) (by omega) hu n 0 0 0 z (by omega) (by simp))
          rintro v h3 ⟨x3, hx3, e2, e3⟩
          exact ⟨nI x3, hx3, ab_oI_ok (by unfold sp_lots; rw [if_pos ⟨c_4, c_15⟩, if_neg (by rw [nI_toInt hn31]; omega), if_neg (by rw [nI_toInt hn31]; omega), nI_clamp hn31, nI_clamp (by omega), e3]; simp only [ab_ninj (show u < 2147483648 by omega) (show 1 < 2147483648 by omega)]) (by rw [e2]; exact ab_fr.rf _)⟩
        · skip
          refine ab_aload_n dX12_lots_43 rfl ?_
          refine ab_bipush (v := -6) dX12_lots_44 (by decide) ?_
          refine ab_callVi [_] dX12_lots_46 ml_X12_9 mk_X12_refused hM.hs (m_refused (k := 0) (b := 0) (c := 6) hM (by decide) (by omega) (by omega)) (fun v1 hh1 hq => ?_)
          obtain ⟨hv, hh⟩ := hq
          refine ab_reti dX12_lots_49 ?_
          exact ab_oI_no (by unfold sp_lots; rw [if_pos ⟨c_4, c_15⟩, if_neg (by have := (ab_leN (n := 1) (by omega)).mp c_27; omega), if_pos (by have := mt (ab_Nle (n := 50) (by omega)).mpr c_40; omega)]) hv hh
      · skip
        refine ab_aload_n dX12_lots_30 rfl ?_
        refine ab_bipush (v := -4) dX12_lots_31 (by decide) ?_
        refine ab_callVi [_] dX12_lots_33 ml_X12_9 mk_X12_refused hM.hs (m_refused (k := 0) (b := 0) (c := 4) hM (by decide) (by omega) (by omega)) (fun v1 hh1 hq => ?_)
        obtain ⟨hv, hh⟩ := hq
        refine ab_reti dX12_lots_36 ?_
        exact ab_oI_no (by unfold sp_lots; rw [if_pos ⟨c_4, c_15⟩, if_pos (by have := mt (ab_leN (n := 1) (by omega)).mpr c_27; omega)]) hv hh
    · skip
      refine ab_aload_n dX12_lots_18 rfl ?_
      refine ab_bipush (v := -2) dX12_lots_19 (by decide) ?_
      refine ab_callVi [_] dX12_lots_21 ml_X12_9 mk_X12_refused hM.hs (m_refused (k := 0) (b := 0) (c := 2) hM (by decide) (by omega) (by omega)) (fun v1 hh1 hq => ?_)
      obtain ⟨hv, hh⟩ := hq
      refine ab_reti dX12_lots_24 ?_
      exact ab_oI_no (by unfold sp_lots; rw [if_neg (fun q => by first | exact ab_tf q.1 c_4 | exact ab_tf q.2 c_15)]) hv hh
