/-! ===== racks: the model's calls ===== -/
theorem nI_n9 : ∀ k, k < 6 → ¬ nI k = -9 := by decide
theorem pl_M.no {x y : Int32} (h : x = -9) : pl_M x y none := ⟨fun _ => h, fun _ _ q => absurd q (by simp)⟩
theorem pl_M.so {x y : Int32} {k : Nat} {v : Int} (h1 : x = nI k) (h2 : k < 6) (h3 : y = iI v) : pl_M x y (some (k, v)) := ⟨fun q => absurd q (by simp), fun k' v' q => by
  injection q with q
  injection q with z1 z2
  rw [← z1, ← z2]
  exact ⟨h1, h2, h3⟩⟩
set_option maxRecDepth 100000 in
set_option maxHeartbeats 4000000 in
theorem lp_mRack {k b r kd : Nat} {h h0 : ab_H} {z : Int32} (hM : at_M (ab_sh h) (ab_r h)) (hr : r < 3) : ∀ (j i : Nat) (h1 : ab_H), i + j = 9 → ab_fM [65, 66, 67, 68] [] h h1 → ab_i h1 65 = ab_i h0 65 → ab_i h1 66 = ab_i h0 66 → ab_i h1 68 = ab_i h0 68 → (∀ j, j < i → ab_i h1 67 (9 * r + j) = -9) → (∀ t, (t < 9 * r ∨ 9 * r + 9 ≤ t) → ab_i h1 67 t = ab_i h0 67 t) → ab_R k b mX12_rack 69 [some (.ref 50), some (.int (nI r)), some (.int (nI kd)), some (.int z), some (.int (nI i))] [] h1 (ab_pi (fun v h' => v = nI 1 ∧ ab_fM [65, 66, 67, 68] [] h h' ∧ ab_i h' 65 = ab_i h0 65 ∧ ab_i h' 66 = ab_i h0 66 ∧ ab_i h' 68 = ab_i h0 68 ∧ (∀ j, j < 9 → ab_i h' 67 (9 * r + j) = -9) ∧ ∀ t, (t < 9 * r ∨ 9 * r + 9 ≤ t) → ab_i h' 67 t = ab_i h0 67 t)) := by
  intro j
  induction j with
  | zero =>
    intro i h1 hi f e1 e2 e3 hl e4
    obtain rfl : i = 9 := by omega
    have hM1 := at_M.fM f hM
    refine ab_iload dX12_rack_69 rfl ?_
    refine ab_bipush (v := nI 9) dX12_rack_71 (by decide) ?_
    refine ab_nicmp_ge 96 dX12_rack_73 (by decide) (by omega) (by omega) (fun c_73 => ?_) (fun c_73 => ?_)
    · skip
      refine ab_iconst (v := nI 1) dX12_rack_96 (by decide) ?_
      refine ab_reti dX12_rack_97 ?_
      exact ⟨rfl, f, e1, e2, e3, hl, e4⟩
    · skip
      exact absurd (by omega) c_73
  | succ j ih =>
    intro i h1 hi f e1 e2 e3 hl e4
    have hM1 := at_M.fM f hM
    refine ab_iload dX12_rack_69 rfl ?_
    refine ab_bipush (v := nI 9) dX12_rack_71 (by decide) ?_
    refine ab_nicmp_ge 96 dX12_rack_73 (by decide) (by omega) (by omega) (fun c_73 => ?_) (fun c_73 => ?_)
    · skip
      exact absurd c_73 (by omega)
    · skip
      refine ab_aload_n dX12_rack_76 rfl ?_
      refine ab_getR dX12_rack_77 fl_X12_79 hM1.hs hM1.p50_24 ?_
      refine ab_bipush (v := nI 9) dX12_rack_80 (by decide) ?_
      refine ab_iload_n dX12_rack_82 rfl ?_
      refine ab_nmulR dX12_rack_83 ?_
      refine ab_iload dX12_rack_84 rfl ?_
      refine ab_naddR dX12_rack_86 ?_
      refine ab_bipush (v := -9) dX12_rack_87 (by decide) ?_
      refine ab_iast dX12_rack_89 hM1.s67 rfl (by omega) ?_
      refine ab_nincR (ls' := [_, _, _, _, _]) dX12_rack_90 rfl rfl ?_
      refine ab_goto 69 dX12_rack_93 (by decide) ?_
      refine ih (i + 1) _ (by omega) (f.si _ _ (by simp) (by decide)) ((ab_i_off (by decide)).trans e1) ((ab_i_off (by decide)).trans e2) ((ab_i_off (by decide)).trans e3) (fun j hj => ?_) (fun t ht => ?_)
      · rw [ab_i_si_same]; by_cases c : 9 * r + j = 9 * r + i; · rw [if_pos c]
        · rw [if_neg c]; exact hl j (by omega)
      · rw [ab_i_si_same, if_neg (by omega)]; exact e4 t ht
set_option maxRecDepth 100000 in
set_option maxHeartbeats 4000000 in
theorem m_rack {k b : Nat} {h : ab_H} {R : rS} {x y z : Int32} (hk : 2 ≤ k) (hM : at_M (ab_sh h) (ab_r h)) (hR : rk_M R h) : ab_M k b mX12_rack [.ref 50, .int x, .int y, .int z] h (ab_pi (ab_oX 51 (ab_fM [] [] h) (fun h' => ab_fM [65, 66, 67, 68] [] h h' ∧ rk_M (nx_rack R x y z) h') (sp_rack x y z))) := by
  refine ab_enter ?_
  refine ab_iload_n dX12_rack_0 rfl ?_
  refine ab_callSb [_] dX12_rack_1 ml_X12_329 mk_X12_isRack (m_isRack (k := 1) (b := 0) (Nat.le_refl _)) (fun t1 hh0 hq => ?_)
  obtain ⟨hhe, rfl⟩ := hq
  rw [hhe]
  refine ab_bif_ne 13 dX12_rack_4 (by decide) (fun c_4 => ?_) (fun c_4 => ?_)
  · skip
    refine ab_iload_n dX12_rack_13 rfl ?_
    refine ab_i2l dX12_rack_14 ?_
    refine ab_lconst (v := 0) dX12_rack_15 (by decide) ?_
    refine ab_ldc2 dX12_rack_16 kc_X12_241 ?_
    refine ab_callSb [_, _, _] dX12_rack_19 ml_X12_123 mk_X12_isIn (m_isIn (k := 0) (b := 0) (Int32.toInt_toInt64 _) (lo := 0) (by decide) (hi := 5) (by decide)) (fun t2 hh2 hq => ?_)
    obtain ⟨hhe, rfl⟩ := hq
    rw [hhe]
    refine ab_bif_ne 32 dX12_rack_22 (by decide) (fun c_22 => ?_) (fun c_22 => ?_)
    · skip
      refine ab_iload_n dX12_rack_32 rfl ?_
      refine ab_bipush (v := nI 9) dX12_rack_33 (by decide) ?_
      refine ab_icmp_le 45 dX12_rack_35 (by decide) (fun c_35 => ?_) (fun c_35 => ?_)
      · skip
        refine ab_iload_n dX12_rack_45 rfl ?_
        refine ab_if_ge 52 dX12_rack_46 (by decide) (fun c_46 => ?_) (fun c_46 => ?_)
        · skip
          have hn0 : 0 ≤ z.toInt := ab_ge0.mp c_46
          have hn40 := (ab_Nle (n := 9) (by omega)).mp c_35
          have c_4k := c_4
          replace c_22 : ab_inr 0 5 y = true := c_22
          have c_22k := c_22
          obtain ⟨r, rfl, hr2, hr31⟩ := ab_inr_nat (n := 2) c_4
          have hr : r < 3 := by omega
          obtain ⟨kd, rfl, hk5, hk31⟩ := ab_inr_nat (n := 5) c_22
          refine ab_aload_n dX12_rack_52 rfl ?_
          refine ab_getR dX12_rack_53 fl_X12_73 hM.hs hM.p50_22 ?_
          refine ab_iload_n dX12_rack_56 rfl ?_
          refine ab_iload_n dX12_rack_57 rfl ?_
          refine ab_iast dX12_rack_58 hM.s65 rfl (by omega) ?_
          refine ab_aload_n dX12_rack_59 rfl ?_
          refine ab_getR dX12_rack_60 fl_X12_76 hM.hs hM.p50_23 ?_
          refine ab_iload_n dX12_rack_63 rfl ?_
          refine ab_iload_n dX12_rack_64 rfl ?_
          refine ab_iast dX12_rack_65 hM.s66 rfl (by omega) ?_
          refine ab_iconst (v := nI 0) dX12_rack_66 (by decide) ?_
          refine ab_sti (ls' := [_, _, _, _, _]) dX12_rack_67 (by decide) rfl ?_
          obtain ⟨n, rfl, hn31⟩ := ab_of0 (ab_ge0.mpr hn0)
          rw [nI_toInt hn31] at hn40 hn0
          refine ab_mono ?_ (lp_mRack (h := h) (h0 := ab_si (ab_si h 65 r (nI kd)) 66 r (nI n)) hM hr 9 0 _ rfl (((ab_fM.rf h).si _ _ (by simp) (by decide)).si _ _ (by simp) (by decide)) rfl rfl rfl (fun j hj => absurd hj (Nat.not_lt_zero j)) (fun t _ => rfl))
          rintro v h9 ⟨x9, hx9, rfl, f, e1, e2, e3, e4, e5⟩
          refine ⟨_, hx9, ab_oX_ok (by unfold sp_rack; rw [if_pos c_4k, if_pos c_22k, nI_toInt hn31, if_neg (by omega), if_neg (by omega)]; rfl) ⟨f, ?_⟩⟩
          unfold nx_rack
          rw [nI_toInt hn31, if_neg (by omega), nI_clamp hr31, nI_clamp hn31, nI_clamp hk31]
          refine hR.up hr (by omega) (by omega) (fun t => ?_) (fun t => ?_) (fun j hj => pl_M.no (e4 j hj)) (fun t ht => ⟨?_, ?_⟩)
          · rw [e1, ab_i_off (by decide), ab_i_si_same]
          · rw [e2, ab_i_si_same, ab_i_off (by decide)]
          · rw [e5 t ht, ab_i_off (by decide), ab_i_off (by decide)]
          · rw [e3, ab_i_off (by decide), ab_i_off (by decide)]
        · skip
          refine ab_bipush (v := -14) dX12_rack_49 (by decide) ?_
          refine ab_reti dX12_rack_51 ?_
          have hn0 : z.toInt < 0 := by have := mt ab_ge0.mpr c_46; omega
          exact ab_oX_ok (by unfold sp_rack; rw [if_pos c_4, if_pos (show ab_inr 0 5 y = true from c_22), if_neg (by have := (ab_Nle (n := 9) (by omega)).mp c_35; omega), if_pos hn0]) ⟨ab_fM.rf h, by unfold nx_rack; rw [if_pos hn0]; exact hR⟩
      · skip
        refine ab_aload_n dX12_rack_38 rfl ?_
        refine ab_bipush (v := -6) dX12_rack_39 (by decide) ?_
        refine ab_callVi [_] dX12_rack_41 ml_X12_9 mk_X12_refused hM.hs (m_refused (k := 0) (b := 0) (c := 6) hM (by decide) (by omega) (by omega)) (fun v1 hh1 hq => ?_)
        obtain ⟨hv, hh⟩ := hq
        refine ab_reti dX12_rack_44 ?_
        exact ab_oX_no (by unfold sp_rack; rw [if_pos c_4, if_pos (show ab_inr 0 5 y = true from c_22), if_pos (by have := mt (ab_Nle (n := 9) (by omega)).mpr c_35; omega)]) (ab_fM.rf h) hv hh
    · skip
      refine ab_aload_n dX12_rack_25 rfl ?_
      refine ab_bipush (v := -2) dX12_rack_26 (by decide) ?_
      refine ab_callVi [_] dX12_rack_28 ml_X12_9 mk_X12_refused hM.hs (m_refused (k := 0) (b := 0) (c := 2) hM (by decide) (by omega) (by omega)) (fun v1 hh1 hq => ?_)
      obtain ⟨hv, hh⟩ := hq
      refine ab_reti dX12_rack_31 ?_
      exact ab_oX_no (by unfold sp_rack; rw [if_pos c_4, if_neg (fun q : ab_inr 0 5 y = true => ab_tf q c_22)]) (ab_fM.rf h) hv hh
  · skip
    refine ab_aload_n dX12_rack_7 rfl ?_
    refine ab_iconst (v := -1) dX12_rack_8 (by decide) ?_
    refine ab_callVi [_] dX12_rack_9 ml_X12_9 mk_X12_refused hM.hs (m_refused (k := 0) (b := 0) (c := 1) hM (by decide) (by omega) (by omega)) (fun v1 hh1 hq => ?_)
    obtain ⟨hv, hh⟩ := hq
    refine ab_reti dX12_rack_12 ?_
    exact ab_oX_no (by unfold sp_rack; rw [if_neg (fun q => ab_tf q c_4)]) (ab_fM.rf h) hv hh
set_option maxRecDepth 100000 in
set_option maxHeartbeats 4000000 in
theorem m_racks {k b : Nat} {h : ab_H} {s : sS} {R : rS} {x y u : Int32} (hk : 5 ≤ k) (hM : at_M (ab_sh h) (ab_r h)) (hD : sh_M s h) (hR : rk_M R h) : ab_M k b mX12_racks [.ref 50, .int x, .int y, .int u] h (ab_pi (ab_oX 51 (ab_fM [] [] h) (fun h' => ab_fM [65, 66, 67, 68] [] h h' ∧ rk_M (nx_racks s R x y u) h') (sp_racks s R x y u))) := by
  have h11 := hD.W.2.1
  refine ab_enter ?_
  refine ab_iload_n dX12_racks_0 rfl ?_
  refine ab_callSb [_] dX12_racks_1 ml_X12_329 mk_X12_isRack (m_isRack (k := 1) (b := 0) (Nat.le_refl _)) (fun t1 hh0 hq => ?_)
  obtain ⟨hhe, rfl⟩ := hq
  rw [hhe]
  refine ab_bif_eq 20 dX12_racks_4 (by decide) (fun c_4 => ?_) (fun c_4 => ?_)
  · skip
    refine ab_aload_n dX12_racks_20 rfl ?_
    refine ab_iconst (v := -1) dX12_racks_21 (by decide) ?_
    refine ab_callVi [_] dX12_racks_22 ml_X12_9 mk_X12_refused hM.hs (m_refused (k := 0) (b := 0) (c := 1) hM (by decide) (by omega) (by omega)) (fun v1 hh1 hq => ?_)
    obtain ⟨hv, hh⟩ := hq
    refine ab_reti dX12_racks_25 ?_
    exact ab_oX_no (by unfold sp_racks; rw [if_neg (fun q => by first | exact ab_tf q.1 c_4 | exact q.2.elim c_9 (fun z => ab_tf z c_17))]) (ab_fM.rf h) hv hh
  · skip
    refine ab_iload_n dX12_racks_7 rfl ?_
    refine ab_iconst (v := -1) dX12_racks_8 (by decide) ?_
    refine ab_icmp_eq 26 dX12_racks_9 (by decide) (fun c_9 => ?_) (fun c_9 => ?_)
    · skip
      have h1t := c_9
      have hcond : u = -1 ∨ ab_inr 0 ((s.2.2.1 : Int) - 1) u = true := Or.inl h1t
      have c_4k := c_4
      obtain ⟨r, rfl, hr2, hr31⟩ := ab_inr_nat (n := 2) c_4
      have hr : r < 3 := by omega
      obtain ⟨q1, q2⟩ := hR r hr
      cases e : R r with
      | none =>
        have hz9 := q1 e
        refine ab_aload_n dX12_racks_26 rfl ?_
        refine ab_getR dX12_racks_27 fl_X12_73 hM.hs hM.p50_22 ?_
        refine ab_iload_n dX12_racks_30 rfl ?_
        refine ab_iald dX12_racks_31 hM.s65 rfl (by omega) hz9 ?_
        refine ab_bipush (v := -9) dX12_racks_32 (by decide) ?_
        refine ab_icmp_ne 40 dX12_racks_34 (by decide) (fun c_34 => ?_) (fun c_34 => ?_)
        · skip
          exact absurd rfl c_34
        · skip
          refine ab_bipush (v := -11) dX12_racks_37 (by decide) ?_
          refine ab_reti dX12_racks_39 ?_
          exact ab_oX_ok (by unfold sp_racks; rw [if_pos ⟨c_4k, hcond⟩, nI_clamp hr31, e]) ⟨ab_fM.rf h, (by unfold nx_racks; rw [nI_clamp hr31, e]; exact hR)⟩
      | some v9 =>
        obtain ⟨kd, n, f⟩ := v9
        obtain ⟨hkd, hn9, hmk, hz9, hf⟩ := q2 kd n f e
        refine ab_aload_n dX12_racks_26 rfl ?_
        refine ab_getR dX12_racks_27 fl_X12_73 hM.hs hM.p50_22 ?_
        refine ab_iload_n dX12_racks_30 rfl ?_
        refine ab_iald dX12_racks_31 hM.s65 rfl (by omega) hmk ?_
        refine ab_bipush (v := -9) dX12_racks_32 (by decide) ?_
        refine ab_icmp_ne 40 dX12_racks_34 (by decide) (fun c_34 => ?_) (fun c_34 => ?_)
        · skip
          refine ab_iload_n dX12_racks_40 rfl ?_
          refine ab_i2l dX12_racks_41 ?_
          refine ab_lconst (v := 0) dX12_racks_42 (by decide) ?_
          refine ab_aload_n dX12_racks_43 rfl ?_
          refine ab_getR dX12_racks_44 fl_X12_76 hM.hs hM.p50_23 ?_
          refine ab_iload_n dX12_racks_47 rfl ?_
          refine ab_iald dX12_racks_48 hM.s66 rfl (by omega) hz9 ?_
          refine ab_iconst (v := nI 1) dX12_racks_49 (by decide) ?_
          refine ab_isub dX12_racks_50 ?_
          refine ab_i2l dX12_racks_51 ?_
          refine ab_callSb [_, _, _] dX12_racks_52 ml_X12_123 mk_X12_isIn (m_isIn (k := 0) (b := 0) (Int32.toInt_toInt64 _) (lo := 0) (by decide) (nI_pred6 (by omega))) (fun t2 hh2 hq => ?_)
          obtain ⟨hhe, rfl⟩ := hq
          rw [hhe]
          refine ab_bif_ne 61 dX12_racks_55 (by decide) (fun c_55 => ?_) (fun c_55 => ?_)
          · skip
            replace c_55 : ab_inr 0 ((n : Int) - 1) y = true := c_55
            have c_55k := c_55
            obtain ⟨i, rfl, hi, hi31⟩ := bd_inr_n (by omega) c_55
            refine ab_iload_n dX12_racks_61 rfl ?_
            refine ab_iconst (v := -1) dX12_racks_62 (by decide) ?_
            refine ab_icmp_eq 87 dX12_racks_63 (by decide) (fun c_63 => ?_) (fun c_63 => ?_)
            · skip
              refine ab_aload_n dX12_racks_87 rfl ?_
              refine ab_getR dX12_racks_88 fl_X12_79 hM.hs hM.p50_24 ?_
              refine ab_bipush (v := nI 9) dX12_racks_91 (by decide) ?_
              refine ab_iload_n dX12_racks_93 rfl ?_
              refine ab_nmulR dX12_racks_94 ?_
              refine ab_iload_n dX12_racks_95 rfl ?_
              refine ab_naddR dX12_racks_96 ?_
              refine ab_iload_n dX12_racks_97 rfl ?_
              refine ab_iconst (v := -1) dX12_racks_98 (by decide) ?_
              refine ab_icmp_ne 107 dX12_racks_99 (by decide) (fun c_99 => ?_) (fun c_99 => ?_)
              · skip
                exact absurd h1t c_99
              · skip
                refine ab_bipush (v := -9) dX12_racks_102 (by decide) ?_
                refine ab_goto 113 dX12_racks_104 (by decide) ?_
                refine ab_iast dX12_racks_113 hM.s67 rfl (by omega) ?_
                refine ab_aload_n dX12_racks_114 rfl ?_
                refine ab_getR dX12_racks_115 fl_X12_82 hM.hs hM.p50_25 ?_
                refine ab_bipush (v := nI 9) dX12_racks_118 (by decide) ?_
                refine ab_iload_n dX12_racks_120 rfl ?_
                refine ab_nmulR dX12_racks_121 ?_
                refine ab_iload_n dX12_racks_122 rfl ?_
                refine ab_naddR dX12_racks_123 ?_
                refine ab_iload_n dX12_racks_124 rfl ?_
                refine ab_iconst (v := -1) dX12_racks_125 (by decide) ?_
                refine ab_icmp_ne 133 dX12_racks_126 (by decide) (fun c_126 => ?_) (fun c_126 => ?_)
                · skip
                  exact absurd h1t c_126
                · skip
                  refine ab_iconst (v := nI 0) dX12_racks_129 (by decide) ?_
                  refine ab_goto 138 dX12_racks_130 (by decide) ?_
                  refine ab_iast dX12_racks_138 hM.s68 rfl (by omega) ?_
                  refine ab_iconst (v := nI 1) dX12_racks_139 (by decide) ?_
                  refine ab_reti dX12_racks_140 ?_
                  refine ab_oX_ok (by unfold sp_racks; rw [if_pos ⟨c_4k, hcond⟩, nI_clamp hr31, e]; simp only; rw [if_pos c_55k, if_pos (Or.inl h1t)]; rfl) ⟨((ab_fM.rf h).si _ _ (by simp) (by decide)).si _ _ (by simp) (by decide), ?_⟩
                  unfold nx_racks
                  rw [nI_clamp hr31, e]
                  simp only
                  rw [if_pos c_55k, if_pos (Or.inl h1t), nI_clamp hi31, if_pos h1t]
                  refine hR.up hr hkd hn9 (fun t => ?_) (fun t => ?_) (fun j hj => ?_) (fun t ht => ⟨?_, ?_⟩)
                  · rw [ab_i_off (by decide), ab_i_off (by decide)]; by_cases c : t = r; · rw [if_pos c, c]; exact hmk
                    · rw [if_neg c]
                  · rw [ab_i_off (by decide), ab_i_off (by decide)]; by_cases c : t = r; · rw [if_pos c, c]; exact hz9
                    · rw [if_neg c]
                  · rw [ab_up_at]; by_cases c : j = i
                    · rw [c, if_pos rfl, ab_i_off (by decide), ab_i_si_same, if_pos rfl]; exact pl_M.no rfl
                    · rw [if_neg c]; rw [ab_i_off (by decide), ab_i_si_same, ab_i_si_same, ab_i_off (by decide)]; rw [if_neg (by omega), if_neg (by omega)]; exact hf j hj
                  · rw [ab_i_off (by decide), ab_i_si_same]; rw [if_neg (by omega)]
                  · rw [ab_i_si_same, ab_i_off (by decide)]; rw [if_neg (by omega)]
            · skip
              exact absurd h1t c_63
          · skip
            refine ab_bipush (v := -13) dX12_racks_58 (by decide) ?_
            refine ab_reti dX12_racks_60 ?_
            exact ab_oX_ok (by unfold sp_racks; rw [if_pos ⟨c_4k, hcond⟩, nI_clamp hr31, e]; simp only; rw [if_neg (fun q : ab_inr 0 ((n : Int) - 1) y = true => ab_tf q c_55)]) ⟨ab_fM.rf h, (by unfold nx_racks; rw [nI_clamp hr31, e]; simp only; rw [if_neg (fun q : ab_inr 0 ((n : Int) - 1) y = true => ab_tf q c_55)]; exact hR)⟩
        · skip
          exact absurd c_34 (nI_n9 kd hkd)
    · skip
      refine ab_aload_n dX12_racks_12 rfl ?_
      refine ab_iload_n dX12_racks_13 rfl ?_
      refine ab_callVb [_] dX12_racks_14 ml_X12_285 mk_X12_isTriangle hM.hs (m_isTriangle (k := 1) (b := 0) (Nat.le_refl _) hM hD) (fun t5 hh5 hq => ?_)
      obtain ⟨hhe, rfl⟩ := hq
      rw [hhe]
      refine ab_bif_ne 26 dX12_racks_17 (by decide) (fun c_17 => ?_) (fun c_17 => ?_)
      · skip
        have h1t := c_9
        have hcond : u = -1 ∨ ab_inr 0 ((s.2.2.1 : Int) - 1) u = true := Or.inr c_17
        obtain ⟨ti, rfl, hti, hti31⟩ := bd_inr_n (by omega) c_17
        have htk := (hD.W.2.2.2 ti hti).1
        have c_4k := c_4
        obtain ⟨r, rfl, hr2, hr31⟩ := ab_inr_nat (n := 2) c_4
        have hr : r < 3 := by omega
        obtain ⟨q1, q2⟩ := hR r hr
        cases e : R r with
        | none =>
          have hz9 := q1 e
          refine ab_aload_n dX12_racks_26 rfl ?_
          refine ab_getR dX12_racks_27 fl_X12_73 hM.hs hM.p50_22 ?_
          refine ab_iload_n dX12_racks_30 rfl ?_
          refine ab_iald dX12_racks_31 hM.s65 rfl (by omega) hz9 ?_
          refine ab_bipush (v := -9) dX12_racks_32 (by decide) ?_
          refine ab_icmp_ne 40 dX12_racks_34 (by decide) (fun c_34 => ?_) (fun c_34 => ?_)
          · skip
            exact absurd rfl c_34
          · skip
            refine ab_bipush (v := -11) dX12_racks_37 (by decide) ?_
            refine ab_reti dX12_racks_39 ?_
            exact ab_oX_ok (by unfold sp_racks; rw [if_pos ⟨c_4k, hcond⟩, nI_clamp hr31, e]) ⟨ab_fM.rf h, (by unfold nx_racks; rw [nI_clamp hr31, e]; exact hR)⟩
        | some v9 =>
          obtain ⟨kd, n, f⟩ := v9
          obtain ⟨hkd, hn9, hmk, hz9, hf⟩ := q2 kd n f e
          refine ab_aload_n dX12_racks_26 rfl ?_
          refine ab_getR dX12_racks_27 fl_X12_73 hM.hs hM.p50_22 ?_
          refine ab_iload_n dX12_racks_30 rfl ?_
          refine ab_iald dX12_racks_31 hM.s65 rfl (by omega) hmk ?_
          refine ab_bipush (v := -9) dX12_racks_32 (by decide) ?_
          refine ab_icmp_ne 40 dX12_racks_34 (by decide) (fun c_34 => ?_) (fun c_34 => ?_)
          · skip
            refine ab_iload_n dX12_racks_40 rfl ?_
            refine ab_i2l dX12_racks_41 ?_
            refine ab_lconst (v := 0) dX12_racks_42 (by decide) ?_
            refine ab_aload_n dX12_racks_43 rfl ?_
            refine ab_getR dX12_racks_44 fl_X12_76 hM.hs hM.p50_23 ?_
            refine ab_iload_n dX12_racks_47 rfl ?_
            refine ab_iald dX12_racks_48 hM.s66 rfl (by omega) hz9 ?_
            refine ab_iconst (v := nI 1) dX12_racks_49 (by decide) ?_
            refine ab_isub dX12_racks_50 ?_
            refine ab_i2l dX12_racks_51 ?_
            refine ab_callSb [_, _, _] dX12_racks_52 ml_X12_123 mk_X12_isIn (m_isIn (k := 0) (b := 0) (Int32.toInt_toInt64 _) (lo := 0) (by decide) (nI_pred6 (by omega))) (fun t2 hh2 hq => ?_)
            obtain ⟨hhe, rfl⟩ := hq
            rw [hhe]
            refine ab_bif_ne 61 dX12_racks_55 (by decide) (fun c_55 => ?_) (fun c_55 => ?_)
            · skip
              replace c_55 : ab_inr 0 ((n : Int) - 1) y = true := c_55
              have c_55k := c_55
              obtain ⟨i, rfl, hi, hi31⟩ := bd_inr_n (by omega) c_55
              refine ab_iload_n dX12_racks_61 rfl ?_
              refine ab_iconst (v := -1) dX12_racks_62 (by decide) ?_
              refine ab_icmp_eq 87 dX12_racks_63 (by decide) (fun c_63 => ?_) (fun c_63 => ?_)
              · skip
                exact absurd c_63 h1t
              · skip
                refine ab_aload_n dX12_racks_66 rfl ?_
                refine ab_getR dX12_racks_67 fl_X12_67 hM.hs hM.p50_18 ?_
                refine ab_iload_n dX12_racks_70 rfl ?_
                refine ab_iald dX12_racks_71 hM.s63 rfl (by omega) (hD.tr hti).1 ?_
                refine ab_aload_n dX12_racks_72 rfl ?_
                refine ab_getR dX12_racks_73 fl_X12_73 hM.hs hM.p50_22 ?_
                refine ab_iload_n dX12_racks_76 rfl ?_
                refine ab_iald dX12_racks_77 hM.s65 rfl (by omega) hmk ?_
                refine ab_callSb [_, _] dX12_racks_78 ml_X12_279 mk_X12_isUnder (m_isUnder (k := 0) (b := 0) htk hkd) (fun t4 hh4 hq => ?_)
                obtain ⟨hhe, rfl⟩ := hq
                rw [hhe]
                refine ab_bif_ne 87 dX12_racks_81 (by decide) (fun c_81 => ?_) (fun c_81 => ?_)
                · skip
                  refine ab_aload_n dX12_racks_87 rfl ?_
                  refine ab_getR dX12_racks_88 fl_X12_79 hM.hs hM.p50_24 ?_
                  refine ab_bipush (v := nI 9) dX12_racks_91 (by decide) ?_
                  refine ab_iload_n dX12_racks_93 rfl ?_
                  refine ab_nmulR dX12_racks_94 ?_
                  refine ab_iload_n dX12_racks_95 rfl ?_
                  refine ab_naddR dX12_racks_96 ?_
                  refine ab_iload_n dX12_racks_97 rfl ?_
                  refine ab_iconst (v := -1) dX12_racks_98 (by decide) ?_
                  refine ab_icmp_ne 107 dX12_racks_99 (by decide) (fun c_99 => ?_) (fun c_99 => ?_)
                  · skip
                    refine ab_aload_n dX12_racks_107 rfl ?_
                    refine ab_getR dX12_racks_108 fl_X12_67 hM.hs hM.p50_18 ?_
                    refine ab_iload_n dX12_racks_111 rfl ?_
                    refine ab_iald dX12_racks_112 hM.s63 rfl (by omega) (hD.tr hti).1 ?_
                    refine ab_iast dX12_racks_113 hM.s67 rfl (by omega) ?_
                    have hM1 := at_M.fM ((ab_fM.rf (S := [67]) (K := []) h).si (a := 67) (9 * r + i) (nI (s.2.2.2 ti).1) (by simp) (by decide)) hM
                    have hD1 := hD.fM ((ab_fM.rf (S := [67]) (K := []) h).si (a := 67) (9 * r + i) (nI (s.2.2.2 ti).1) (by simp) (by decide)) (by simp; omega) (by simp) (by simp)
                    refine ab_aload_n dX12_racks_114 rfl ?_
                    refine ab_getR dX12_racks_115 fl_X12_82 hM1.hs hM1.p50_25 ?_
                    refine ab_bipush (v := nI 9) dX12_racks_118 (by decide) ?_
                    refine ab_iload_n dX12_racks_120 rfl ?_
                    refine ab_nmulR dX12_racks_121 ?_
                    refine ab_iload_n dX12_racks_122 rfl ?_
                    refine ab_naddR dX12_racks_123 ?_
                    refine ab_iload_n dX12_racks_124 rfl ?_
                    refine ab_iconst (v := -1) dX12_racks_125 (by decide) ?_
                    refine ab_icmp_ne 133 dX12_racks_126 (by decide) (fun c_126 => ?_) (fun c_126 => ?_)
                    · skip
                      refine ab_aload_n dX12_racks_133 rfl ?_
                      refine ab_iload_n dX12_racks_134 rfl ?_
                      refine ab_callVi [_] dX12_racks_135 ml_X12_291 mk_X12_areaValuation hM1.hs (m_areaValuation (k := 4) (b := 0) (Nat.le_refl _) hM1 hD1 hti) (fun v h2 hq => ?_)
                      obtain ⟨g, rfl⟩ := hq
                      have e68 : ab_i h2 = ab_i (ab_si h 67 (9 * r + i) (nI (s.2.2.2 ti).1)) := g.2.2.1
                      replace hM1 := at_M.fL g hM1
                      refine ab_iast dX12_racks_138 hM1.s68 rfl (by omega) ?_
                      refine ab_iconst (v := nI 1) dX12_racks_139 (by decide) ?_
                      refine ab_reti dX12_racks_140 ?_
                      refine ab_oX_ok (by unfold sp_racks; rw [if_pos ⟨c_4k, hcond⟩, nI_clamp hr31, e]; simp only; rw [if_pos c_55k, nI_clamp hti31, if_pos (Or.inr c_81)]; rfl) ⟨(((ab_fM.rf h).si _ _ (by simp) (by decide)).trans (ab_fM.ofL g) (fun _ q => q) (fun _ q => q)).si _ _ (by simp) (by decide), ?_⟩
                      unfold nx_racks
                      rw [nI_clamp hr31, e]
                      simp only
                      rw [if_pos c_55k, nI_clamp hti31, if_pos (Or.inr c_81), nI_clamp hi31, if_neg h1t]
                      refine hR.up hr hkd hn9 (fun t => ?_) (fun t => ?_) (fun j hj => ?_) (fun t ht => ⟨?_, ?_⟩)
                      · rw [ab_i_off (by decide), e68, ab_i_off (by decide)]; by_cases c : t = r; · rw [if_pos c, c]; exact hmk
                        · rw [if_neg c]
                      · rw [ab_i_off (by decide), e68, ab_i_off (by decide)]; by_cases c : t = r; · rw [if_pos c, c]; exact hz9
                        · rw [if_neg c]
                      · rw [ab_up_at]; by_cases c : j = i
                        · rw [c, if_pos rfl, ab_i_off (by decide), e68, ab_i_si_same, ab_i_si_same, if_pos rfl, if_pos rfl]; exact pl_M.so rfl htk rfl
                        · rw [if_neg c]; rw [ab_i_off (by decide), ab_i_si_same, e68, ab_i_si_same, ab_i_off (by decide)]; rw [if_neg (by omega), if_neg (by omega)]; exact hf j hj
                      · rw [ab_i_off (by decide), e68, ab_i_si_same]; rw [if_neg (by omega)]
                      · rw [ab_i_si_same, e68, ab_i_off (by decide)]; rw [if_neg (by omega)]
                    · skip
                      exact absurd c_126 h1t
                  · skip
                    exact absurd c_99 h1t
                · skip
                  refine ab_bipush (v := -16) dX12_racks_84 (by decide) ?_
                  refine ab_reti dX12_racks_86 ?_
                  exact ab_oX_ok (by unfold sp_racks; rw [if_pos ⟨c_4k, hcond⟩, nI_clamp hr31, e]; simp only; rw [if_pos c_55k, nI_clamp hti31, if_neg (fun q => q.elim (fun z => h1t z) (fun z => ab_tf z c_81))]) ⟨ab_fM.rf h, (by unfold nx_racks; rw [nI_clamp hr31, e]; simp only; rw [if_pos c_55k, nI_clamp hti31, if_neg (fun q => q.elim (fun z => h1t z) (fun z => ab_tf z c_81))]; exact hR)⟩
            · skip
              refine ab_bipush (v := -13) dX12_racks_58 (by decide) ?_
              refine ab_reti dX12_racks_60 ?_
              exact ab_oX_ok (by unfold sp_racks; rw [if_pos ⟨c_4k, hcond⟩, nI_clamp hr31, e]; simp only; rw [if_neg (fun q : ab_inr 0 ((n : Int) - 1) y = true => ab_tf q c_55)]) ⟨ab_fM.rf h, (by unfold nx_racks; rw [nI_clamp hr31, e]; simp only; rw [if_neg (fun q : ab_inr 0 ((n : Int) - 1) y = true => ab_tf q c_55)]; exact hR)⟩
          · skip
            exact absurd c_34 (nI_n9 kd hkd)
      · skip
        refine ab_aload_n dX12_racks_20 rfl ?_
        refine ab_iconst (v := -1) dX12_racks_21 (by decide) ?_
        refine ab_callVi [_] dX12_racks_22 ml_X12_9 mk_X12_refused hM.hs (m_refused (k := 0) (b := 0) (c := 1) hM (by decide) (by omega) (by omega)) (fun v1 hh1 hq => ?_)
        obtain ⟨hv, hh⟩ := hq
        refine ab_reti dX12_racks_25 ?_
        exact ab_oX_no (by unfold sp_racks; rw [if_neg (fun q => by first | exact ab_tf q.1 c_4 | exact q.2.elim c_9 (fun z => ab_tf z c_17))]) (ab_fM.rf h) hv hh
set_option maxRecDepth 100000 in
set_option maxHeartbeats 4000000 in
theorem m_racked {k b : Nat} {h : ab_H} {R : rS} {x y z : Int32} (hk : 2 ≤ k) (hM : at_M (ab_sh h) (ab_r h)) (hR : rk_M R h) : ab_M k b mX12_racked [.ref 50, .int x, .int y, .int z] h (ab_pi (ab_oX 51 (ab_fM [] [] h) (ab_fM [] [] h) (sp_racked R x y z))) := by
  refine ab_enter ?_
  refine ab_iload_n dX12_racked_0 rfl ?_
  refine ab_callSb [_] dX12_racked_1 ml_X12_329 mk_X12_isRack (m_isRack (k := 1) (b := 0) (Nat.le_refl _)) (fun t1 hh0 hq => ?_)
  obtain ⟨hhe, rfl⟩ := hq
  rw [hhe]
  refine ab_bif_ne 13 dX12_racked_4 (by decide) (fun c_4 => ?_) (fun c_4 => ?_)
  · skip
    refine ab_iload_n dX12_racked_13 rfl ?_
    refine ab_i2l dX12_racked_14 ?_
    refine ab_lconst (v := 0) dX12_racked_15 (by decide) ?_
    refine ab_lconst (v := 1) dX12_racked_16 (by decide) ?_
    refine ab_callSb [_, _, _] dX12_racked_17 ml_X12_123 mk_X12_isIn (m_isIn (k := 0) (b := 0) (Int32.toInt_toInt64 _) (lo := 0) (by decide) (hi := 1) (by decide)) (fun t2 hh2 hq => ?_)
    obtain ⟨hhe, rfl⟩ := hq
    rw [hhe]
    refine ab_bif_ne 30 dX12_racked_20 (by decide) (fun c_20 => ?_) (fun c_20 => ?_)
    · skip
      have hin1 : ab_inr 0 1 z = true := c_20
      have c_4k := c_4
      obtain ⟨r, rfl, hr2, hr31⟩ := ab_inr_nat (n := 2) c_4
      have hr : r < 3 := by omega
      obtain ⟨q1, q2⟩ := hR r hr
      cases e : R r with
      | none =>
        have hz9 := q1 e
        refine ab_aload_n dX12_racked_30 rfl ?_
        refine ab_getR dX12_racked_31 fl_X12_73 hM.hs hM.p50_22 ?_
        refine ab_iload_n dX12_racked_34 rfl ?_
        refine ab_iald dX12_racked_35 hM.s65 rfl (by omega) hz9 ?_
        refine ab_bipush (v := -9) dX12_racked_36 (by decide) ?_
        refine ab_icmp_ne 44 dX12_racked_38 (by decide) (fun c_38 => ?_) (fun c_38 => ?_)
        · skip
          exact absurd rfl c_38
        · skip
          refine ab_bipush (v := -11) dX12_racked_41 (by decide) ?_
          refine ab_reti dX12_racked_43 ?_
          exact ab_oX_ok (by unfold sp_racked; rw [if_pos c_4k, if_pos hin1, nI_clamp hr31, e]) (ab_fM.rf h)
      | some v9 =>
        obtain ⟨kd, n, f⟩ := v9
        obtain ⟨hkd, hn9, hmk, hz9, hf⟩ := q2 kd n f e
        refine ab_aload_n dX12_racked_30 rfl ?_
        refine ab_getR dX12_racked_31 fl_X12_73 hM.hs hM.p50_22 ?_
        refine ab_iload_n dX12_racked_34 rfl ?_
        refine ab_iald dX12_racked_35 hM.s65 rfl (by omega) hmk ?_
        refine ab_bipush (v := -9) dX12_racked_36 (by decide) ?_
        refine ab_icmp_ne 44 dX12_racked_38 (by decide) (fun c_38 => ?_) (fun c_38 => ?_)
        · skip
          refine ab_iload_n dX12_racked_44 rfl ?_
          refine ab_i2l dX12_racked_45 ?_
          refine ab_lconst (v := 0) dX12_racked_46 (by decide) ?_
          refine ab_aload_n dX12_racked_47 rfl ?_
          refine ab_getR dX12_racked_48 fl_X12_76 hM.hs hM.p50_23 ?_
          refine ab_iload_n dX12_racked_51 rfl ?_
          refine ab_iald dX12_racked_52 hM.s66 rfl (by omega) hz9 ?_
          refine ab_iconst (v := nI 1) dX12_racked_53 (by decide) ?_
          refine ab_isub dX12_racked_54 ?_
          refine ab_i2l dX12_racked_55 ?_
          refine ab_callSb [_, _, _] dX12_racked_56 ml_X12_123 mk_X12_isIn (m_isIn (k := 0) (b := 0) (Int32.toInt_toInt64 _) (lo := 0) (by decide) (nI_pred6 (by omega))) (fun t2 hh2 hq => ?_)
          obtain ⟨hhe, rfl⟩ := hq
          rw [hhe]
          refine ab_bif_ne 65 dX12_racked_59 (by decide) (fun c_59 => ?_) (fun c_59 => ?_)
          · skip
            replace c_59 : ab_inr 0 ((n : Int) - 1) y = true := c_59
            have c_59k := c_59
            obtain ⟨i, rfl, hi, hi31⟩ := bd_inr_n (by omega) c_59
            have hP := hf i (by omega)
            cases e2 : f i with
            | none =>
              have hw0 := hP.1 e2
              refine ab_aload_n dX12_racked_65 rfl ?_
              refine ab_getR dX12_racked_66 fl_X12_79 hM.hs hM.p50_24 ?_
              refine ab_bipush (v := nI 9) dX12_racked_69 (by decide) ?_
              refine ab_iload_n dX12_racked_71 rfl ?_
              refine ab_nmulR dX12_racked_72 ?_
              refine ab_iload_n dX12_racked_73 rfl ?_
              refine ab_naddR dX12_racked_74 ?_
              refine ab_iald dX12_racked_75 hM.s67 rfl (by omega) hw0 ?_
              refine ab_sti (ls' := [_, _, _, _, _]) dX12_racked_76 (by decide) rfl ?_
              refine ab_iload dX12_racked_78 rfl ?_
              refine ab_bipush (v := -9) dX12_racked_80 (by decide) ?_
              refine ab_icmp_ne 90 dX12_racked_82 (by decide) (fun c_82 => ?_) (fun c_82 => ?_)
              · skip
                exact absurd rfl c_82
              · skip
                refine ab_bipush (v := -9) dX12_racked_85 (by decide) ?_
                refine ab_goto 113 dX12_racked_87 (by decide) ?_
                refine ab_reti dX12_racked_113 ?_
                exact ab_oX_ok (by unfold sp_racked; rw [if_pos c_4k, if_pos hin1, nI_clamp hr31, e]; simp only; rw [if_pos c_59k, nI_clamp hi31]; unfold rkV; rw [e2]) (ab_fM.rf h)
            | some v8 =>
              obtain ⟨kk, vv⟩ := v8
              obtain ⟨hk2, hk6, hvv⟩ := hP.2 kk vv e2
              refine ab_aload_n dX12_racked_65 rfl ?_
              refine ab_getR dX12_racked_66 fl_X12_79 hM.hs hM.p50_24 ?_
              refine ab_bipush (v := nI 9) dX12_racked_69 (by decide) ?_
              refine ab_iload_n dX12_racked_71 rfl ?_
              refine ab_nmulR dX12_racked_72 ?_
              refine ab_iload_n dX12_racked_73 rfl ?_
              refine ab_naddR dX12_racked_74 ?_
              refine ab_iald dX12_racked_75 hM.s67 rfl (by omega) hk2 ?_
              refine ab_sti (ls' := [_, _, _, _, _]) dX12_racked_76 (by decide) rfl ?_
              refine ab_iload dX12_racked_78 rfl ?_
              refine ab_bipush (v := -9) dX12_racked_80 (by decide) ?_
              refine ab_icmp_ne 90 dX12_racked_82 (by decide) (fun c_82 => ?_) (fun c_82 => ?_)
              · skip
                refine ab_iload_n dX12_racked_90 rfl ?_
                refine ab_if_ne 99 dX12_racked_91 (by decide) (fun c_91 => ?_) (fun c_91 => ?_)
                · skip
                  refine ab_bipush (v := nI 100) dX12_racked_99 (by decide) ?_
                  refine ab_aload_n dX12_racked_101 rfl ?_
                  refine ab_getR dX12_racked_102 fl_X12_82 hM.hs hM.p50_25 ?_
                  refine ab_bipush (v := nI 9) dX12_racked_105 (by decide) ?_
                  refine ab_iload_n dX12_racked_107 rfl ?_
                  refine ab_nmulR dX12_racked_108 ?_
                  refine ab_iload_n dX12_racked_109 rfl ?_
                  refine ab_naddR dX12_racked_110 ?_
                  refine ab_iald dX12_racked_111 hM.s68 rfl (by omega) hvv ?_
                  refine ab_iadd dX12_racked_112 ?_
                  refine ab_reti dX12_racked_113 ?_
                  first | exact ab_oX_ok (by unfold sp_racked; rw [if_pos c_4k, if_pos hin1, nI_clamp hr31, e]; simp only; rw [if_pos c_59k, nI_clamp hi31]; unfold rkV; rw [e2]; simp only; rw [if_pos c_91]) (ab_fM.rf h) | exact ab_oX_ok (by unfold sp_racked; rw [if_pos c_4k, if_pos hin1, nI_clamp hr31, e]; simp only; rw [if_pos c_59k, nI_clamp hi31]; unfold rkV; rw [e2]; simp only; rw [if_neg c_91]) (ab_fM.rf h)
                · skip
                  refine ab_iload dX12_racked_94 rfl ?_
                  refine ab_goto 113 dX12_racked_96 (by decide) ?_
                  refine ab_reti dX12_racked_113 ?_
                  first | exact ab_oX_ok (by unfold sp_racked; rw [if_pos c_4k, if_pos hin1, nI_clamp hr31, e]; simp only; rw [if_pos c_59k, nI_clamp hi31]; unfold rkV; rw [e2]; simp only; rw [if_pos c_91]) (ab_fM.rf h) | exact ab_oX_ok (by unfold sp_racked; rw [if_pos c_4k, if_pos hin1, nI_clamp hr31, e]; simp only; rw [if_pos c_59k, nI_clamp hi31]; unfold rkV; rw [e2]; simp only; rw [if_neg c_91]) (ab_fM.rf h)
              · skip
                exact absurd c_82 (nI_n9 kk hk6)
          · skip
            refine ab_bipush (v := -13) dX12_racked_62 (by decide) ?_
            refine ab_reti dX12_racked_64 ?_
            exact ab_oX_ok (by unfold sp_racked; rw [if_pos c_4k, if_pos hin1, nI_clamp hr31, e]; simp only; rw [if_neg (fun q : ab_inr 0 ((n : Int) - 1) y = true => ab_tf q c_59)]) (ab_fM.rf h)
        · skip
          exact absurd c_38 (nI_n9 kd hkd)
    · skip
      refine ab_aload_n dX12_racked_23 rfl ?_
      refine ab_bipush (v := -2) dX12_racked_24 (by decide) ?_
      refine ab_callVi [_] dX12_racked_26 ml_X12_9 mk_X12_refused hM.hs (m_refused (k := 0) (b := 0) (c := 2) hM (by decide) (by omega) (by omega)) (fun v1 hh1 hq => ?_)
      obtain ⟨hv, hh⟩ := hq
      refine ab_reti dX12_racked_29 ?_
      exact ab_oX_no (by unfold sp_racked; rw [if_pos c_4, if_neg (fun q : ab_inr 0 1 z = true => ab_tf q c_20)]) (ab_fM.rf h) hv hh
  · skip
    refine ab_aload_n dX12_racked_7 rfl ?_
    refine ab_iconst (v := -1) dX12_racked_8 (by decide) ?_
    refine ab_callVi [_] dX12_racked_9 ml_X12_9 mk_X12_refused hM.hs (m_refused (k := 0) (b := 0) (c := 1) hM (by decide) (by omega) (by omega)) (fun v1 hh1 hq => ?_)
    obtain ⟨hv, hh⟩ := hq
    refine ab_reti dX12_racked_12 ?_
    exact ab_oX_no (by unfold sp_racked; rw [if_neg (fun q => ab_tf q c_4)]) (ab_fM.rf h) hv hh
/-- row r of four takes row p of them -/
theorem mk_row {h : ab_H} {a r p m : Nat} {v : Int32} (hv : ab_i h a p = v) : ∀ t, ab_i (ab_si h a r v) a t = if t = r then ab_i h a p else ab_i h a t := fun t => by rw [ab_i_si_same, hv]
set_option maxRecDepth 100000 in
set_option maxHeartbeats 4000000 in
theorem lp_mLike {k b r p n : Nat} {h h0 : ab_H} (hM : at_M (ab_sh h) (ab_r h)) (hr : r < 3) (hp : p < 3) (hn9 : n ≤ 9) (hn0 : ab_i h0 66 r = nI n) : ∀ (j i : Nat) (h1 : ab_H), i + j = 9 → ab_fM [65, 66, 67, 68] [] h h1 → ab_i h1 65 = ab_i h0 65 → ab_i h1 66 = ab_i h0 66 → (∀ j, j < i → ab_i h1 67 (9 * r + j) = ab_i h0 67 (9 * p + j) ∧ ab_i h1 68 (9 * r + j) = ab_i h0 68 (9 * p + j)) → (∀ j, i ≤ j → j < 9 → ab_i h1 67 (9 * p + j) = ab_i h0 67 (9 * p + j) ∧ ab_i h1 68 (9 * p + j) = ab_i h0 68 (9 * p + j)) → (∀ t, (t < 9 * r ∨ 9 * r + 9 ≤ t) → ab_i h1 67 t = ab_i h0 67 t ∧ ab_i h1 68 t = ab_i h0 68 t) → ab_R k b mX12_like 60 [some (.ref 50), some (.int (nI r)), some (.int (nI p)), some (.int (nI i))] [] h1 (ab_pi (fun v h' => v = nI n ∧ ab_fM [65, 66, 67, 68] [] h h' ∧ ab_i h' 65 = ab_i h0 65 ∧ ab_i h' 66 = ab_i h0 66 ∧ (∀ j, j < 9 → ab_i h' 67 (9 * r + j) = ab_i h0 67 (9 * p + j) ∧ ab_i h' 68 (9 * r + j) = ab_i h0 68 (9 * p + j)) ∧ ∀ t, (t < 9 * r ∨ 9 * r + 9 ≤ t) → ab_i h' 67 t = ab_i h0 67 t ∧ ab_i h' 68 t = ab_i h0 68 t)) := by
  intro j
  induction j with
  | zero =>
    intro i h1 hi f e1 e2 hl hs e4
    obtain rfl : i = 9 := by omega
    have hM1 := at_M.fM f hM
    refine ab_iload_n dX12_like_60 rfl ?_
    refine ab_bipush (v := nI 9) dX12_like_61 (by decide) ?_
    refine ab_nicmp_ge 116 dX12_like_63 (by decide) (by omega) (by omega) (fun c_63 => ?_) (fun c_63 => ?_)
    · skip
      refine ab_aload_n dX12_like_116 rfl ?_
      refine ab_getR dX12_like_117 fl_X12_76 hM1.hs hM1.p50_23 ?_
      refine ab_iload_n dX12_like_120 rfl ?_
      refine ab_iald dX12_like_121 hM1.s66 rfl (by omega) ((congrFun e2 r).trans hn0) ?_
      refine ab_reti dX12_like_122 ?_
      exact ⟨rfl, f, e1, e2, fun j hj => hl j (by omega), e4⟩
    · skip
      exact absurd (by omega) c_63
  | succ j ih =>
    intro i h1 hi f e1 e2 hl hs e4
    have hM1 := at_M.fM f hM
    refine ab_iload_n dX12_like_60 rfl ?_
    refine ab_bipush (v := nI 9) dX12_like_61 (by decide) ?_
    refine ab_nicmp_ge 116 dX12_like_63 (by decide) (by omega) (by omega) (fun c_63 => ?_) (fun c_63 => ?_)
    · skip
      exact absurd c_63 (by omega)
    · skip
      refine ab_aload_n dX12_like_66 rfl ?_
      refine ab_getR dX12_like_67 fl_X12_79 hM1.hs hM1.p50_24 ?_
      refine ab_bipush (v := nI 9) dX12_like_70 (by decide) ?_
      refine ab_iload_n dX12_like_72 rfl ?_
      refine ab_nmulR dX12_like_73 ?_
      refine ab_iload_n dX12_like_74 rfl ?_
      refine ab_naddR dX12_like_75 ?_
      refine ab_aload_n dX12_like_76 rfl ?_
      refine ab_getR dX12_like_77 fl_X12_79 hM1.hs hM1.p50_24 ?_
      refine ab_bipush (v := nI 9) dX12_like_80 (by decide) ?_
      refine ab_iload_n dX12_like_82 rfl ?_
      refine ab_nmulR dX12_like_83 ?_
      refine ab_iload_n dX12_like_84 rfl ?_
      refine ab_naddR dX12_like_85 ?_
      refine ab_iald dX12_like_86 hM1.s67 rfl (by omega) (hs i (by omega) (by omega)).1 ?_
      refine ab_iast dX12_like_87 hM1.s67 rfl (by omega) ?_
      refine ab_aload_n dX12_like_88 rfl ?_
      refine ab_getR dX12_like_89 fl_X12_82 hM1.hs hM1.p50_25 ?_
      refine ab_bipush (v := nI 9) dX12_like_92 (by decide) ?_
      refine ab_iload_n dX12_like_94 rfl ?_
      refine ab_nmulR dX12_like_95 ?_
      refine ab_iload_n dX12_like_96 rfl ?_
      refine ab_naddR dX12_like_97 ?_
      refine ab_aload_n dX12_like_98 rfl ?_
      refine ab_getR dX12_like_99 fl_X12_82 hM1.hs hM1.p50_25 ?_
      refine ab_bipush (v := nI 9) dX12_like_102 (by decide) ?_
      refine ab_iload_n dX12_like_104 rfl ?_
      refine ab_nmulR dX12_like_105 ?_
      refine ab_iload_n dX12_like_106 rfl ?_
      refine ab_naddR dX12_like_107 ?_
      refine ab_iald dX12_like_108 hM1.s68 rfl (by omega) ((congrFun (ab_i_off (by decide)) _).trans (hs i (by omega) (by omega)).2) ?_
      refine ab_iast dX12_like_109 hM1.s68 rfl (by omega) ?_
      refine ab_nincR (ls' := [_, _, _, _]) dX12_like_110 rfl rfl ?_
      refine ab_goto 60 dX12_like_113 (by decide) ?_
      refine ih (i + 1) _ (by omega) ((f.si _ _ (by simp) (by decide)).si _ _ (by simp) (by decide)) ((ab_i_off (by decide)).trans ((ab_i_off (by decide)).trans e1)) ((ab_i_off (by decide)).trans ((ab_i_off (by decide)).trans e2)) (fun j hj => ?_) (fun j hj1 hj2 => ?_) (fun t ht => ?_)
      · rw [ab_i_off (by decide), ab_i_si_same, ab_i_si_same, ab_i_off (by decide)]; by_cases c : j = i; · rw [if_pos (by omega), if_pos (by omega), c]; exact ⟨rfl, rfl⟩
        · rw [if_neg (by omega), if_neg (by omega)]; exact hl j (by omega)
      · rw [ab_i_off (by decide), ab_i_si_same, ab_i_si_same, ab_i_off (by decide), if_neg (by omega), if_neg (by omega)]; exact hs j (by omega) hj2
      · rw [ab_i_off (by decide), ab_i_si_same, ab_i_si_same, ab_i_off (by decide), if_neg (by omega), if_neg (by omega)]; exact e4 t ht
set_option maxRecDepth 100000 in
set_option maxHeartbeats 4000000 in
theorem m_like {k b : Nat} {h : ab_H} {R : rS} {x y : Int32} (hk : 2 ≤ k) (hM : at_M (ab_sh h) (ab_r h)) (hR : rk_M R h) : ab_M k b mX12_like [.ref 50, .int x, .int y] h (ab_pi (ab_oX 51 (ab_fM [] [] h) (fun h' => ab_fM [65, 66, 67, 68] [] h h' ∧ rk_M (nx_like R x y) h') (sp_like R x y))) := by
  refine ab_enter ?_
  refine ab_iload_n dX12_like_0 rfl ?_
  refine ab_callSb [_] dX12_like_1 ml_X12_329 mk_X12_isRack (m_isRack (k := 1) (b := 0) (Nat.le_refl _)) (fun t1 hh0 hq => ?_)
  obtain ⟨hhe, rfl⟩ := hq
  rw [hhe]
  refine ab_bif_eq 14 dX12_like_4 (by decide) (fun c_4 => ?_) (fun c_4 => ?_)
  · skip
    refine ab_aload_n dX12_like_14 rfl ?_
    refine ab_iconst (v := -1) dX12_like_15 (by decide) ?_
    refine ab_callVi [_] dX12_like_16 ml_X12_9 mk_X12_refused hM.hs (m_refused (k := 0) (b := 0) (c := 1) hM (by decide) (by omega) (by omega)) (fun v1 hh1 hq => ?_)
    obtain ⟨hv, hh⟩ := hq
    refine ab_reti dX12_like_19 ?_
    exact ab_oX_no (by unfold sp_like; rw [if_neg (fun q => by first | exact ab_tf q.1 c_4 | exact ab_tf q.2 c_11)]) (ab_fM.rf h) hv hh
  · skip
    refine ab_iload_n dX12_like_7 rfl ?_
    refine ab_callSb [_] dX12_like_8 ml_X12_329 mk_X12_isRack (m_isRack (k := 1) (b := 0) (Nat.le_refl _)) (fun t3 hh3 hq => ?_)
    obtain ⟨hhe, rfl⟩ := hq
    rw [hhe]
    refine ab_bif_ne 20 dX12_like_11 (by decide) (fun c_11 => ?_) (fun c_11 => ?_)
    · skip
      have c_4k := c_4
      have c_11k := c_11
      obtain ⟨r, rfl, hr2, hr31⟩ := ab_inr_nat (n := 2) c_4
      have hr : r < 3 := by omega
      obtain ⟨p, rfl, hp2, hp31⟩ := ab_inr_nat (n := 2) c_11
      have hp : p < 3 := by omega
      obtain ⟨q1, q2⟩ := hR p hp
      cases e : R p with
      | none =>
        have hz9 := q1 e
        refine ab_aload_n dX12_like_20 rfl ?_
        refine ab_getR dX12_like_21 fl_X12_73 hM.hs hM.p50_22 ?_
        refine ab_iload_n dX12_like_24 rfl ?_
        refine ab_iald dX12_like_25 hM.s65 rfl (by omega) hz9 ?_
        refine ab_bipush (v := -9) dX12_like_26 (by decide) ?_
        refine ab_icmp_ne 34 dX12_like_28 (by decide) (fun c_28 => ?_) (fun c_28 => ?_)
        · skip
          exact absurd rfl c_28
        · skip
          refine ab_bipush (v := -11) dX12_like_31 (by decide) ?_
          refine ab_reti dX12_like_33 ?_
          exact ab_oX_ok (by unfold sp_like; rw [if_pos ⟨c_4k, c_11k⟩, nI_clamp hp31, e]) ⟨ab_fM.rf h, by unfold nx_like; rw [nI_clamp hp31, e]; exact hR⟩
      | some v9 =>
        obtain ⟨kd, n, f⟩ := v9
        obtain ⟨hkd, hn9, hmk, hz9, hf⟩ := q2 kd n f e
        refine ab_aload_n dX12_like_20 rfl ?_
        refine ab_getR dX12_like_21 fl_X12_73 hM.hs hM.p50_22 ?_
        refine ab_iload_n dX12_like_24 rfl ?_
        refine ab_iald dX12_like_25 hM.s65 rfl (by omega) hmk ?_
        refine ab_bipush (v := -9) dX12_like_26 (by decide) ?_
        refine ab_icmp_ne 34 dX12_like_28 (by decide) (fun c_28 => ?_) (fun c_28 => ?_)
        · skip
          refine ab_aload_n dX12_like_34 rfl ?_
          refine ab_getR dX12_like_35 fl_X12_73 hM.hs hM.p50_22 ?_
          refine ab_iload_n dX12_like_38 rfl ?_
          refine ab_aload_n dX12_like_39 rfl ?_
          refine ab_getR dX12_like_40 fl_X12_73 hM.hs hM.p50_22 ?_
          refine ab_iload_n dX12_like_43 rfl ?_
          refine ab_iald dX12_like_44 hM.s65 rfl (by omega) hmk ?_
          refine ab_iast dX12_like_45 hM.s65 rfl (by omega) ?_
          refine ab_aload_n dX12_like_46 rfl ?_
          refine ab_getR dX12_like_47 fl_X12_76 hM.hs hM.p50_23 ?_
          refine ab_iload_n dX12_like_50 rfl ?_
          refine ab_aload_n dX12_like_51 rfl ?_
          refine ab_getR dX12_like_52 fl_X12_76 hM.hs hM.p50_23 ?_
          refine ab_iload_n dX12_like_55 rfl ?_
          refine ab_iald dX12_like_56 hM.s66 rfl (by omega) ((congrFun (ab_i_off (by decide)) _).trans hz9) ?_
          refine ab_iast dX12_like_57 hM.s66 rfl (by omega) ?_
          refine ab_iconst (v := nI 0) dX12_like_58 (by decide) ?_
          refine ab_sti_n (ls' := [_, _, _, _]) dX12_like_59 (by decide) rfl ?_
          refine ab_mono ?_ (lp_mLike (h := h) (h0 := ab_si (ab_si h 65 r (nI kd)) 66 r (nI n)) (n := n) hM hr hp hn9 (by rw [ab_i_si_same, if_pos rfl]) 9 0 _ rfl (((ab_fM.rf h).si _ _ (by simp) (by decide)).si _ _ (by simp) (by decide)) rfl rfl (fun j hj => absurd hj (Nat.not_lt_zero j)) (fun j _ _ => ⟨rfl, rfl⟩) (fun t _ => ⟨rfl, rfl⟩))
          rintro v h9 ⟨x9, hx9, rfl, f9, e1, e2, e4, e5⟩
          refine ⟨_, hx9, ab_oX_ok (by unfold sp_like; rw [if_pos ⟨c_4k, c_11k⟩, nI_clamp hp31, e]) ⟨f9, ?_⟩⟩
          unfold nx_like
          rw [nI_clamp hp31, e, nI_clamp hr31]
          refine hR.up hr hkd hn9 (fun t => ?_) (fun t => ?_) (fun j hj => ?_) (fun t ht => ?_)
          · rw [e1, ab_i_off (by decide), ab_i_si_same]
          · rw [e2, ab_i_si_same, ab_i_off (by decide)]
          · rw [(e4 j hj).1, (e4 j hj).2, ab_i_off (by decide), ab_i_off (by decide), ab_i_off (by decide), ab_i_off (by decide)]; exact hf j hj
          · rw [(e5 t ht).1, (e5 t ht).2, ab_i_off (by decide), ab_i_off (by decide), ab_i_off (by decide), ab_i_off (by decide)]; exact ⟨rfl, rfl⟩
        · skip
          exact absurd c_28 (nI_n9 kd hkd)
    · skip
      refine ab_aload_n dX12_like_14 rfl ?_
      refine ab_iconst (v := -1) dX12_like_15 (by decide) ?_
      refine ab_callVi [_] dX12_like_16 ml_X12_9 mk_X12_refused hM.hs (m_refused (k := 0) (b := 0) (c := 1) hM (by decide) (by omega) (by omega)) (fun v1 hh1 hq => ?_)
      obtain ⟨hv, hh⟩ := hq
      refine ab_reti dX12_like_19 ?_
      exact ab_oX_no (by unfold sp_like; rw [if_neg (fun q => by first | exact ab_tf q.1 c_4 | exact ab_tf q.2 c_11)]) (ab_fM.rf h) hv hh
