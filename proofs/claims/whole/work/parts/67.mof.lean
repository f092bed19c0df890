/-! ===== the model's board: of ===== -/
theorem bd_cnt64 : ∀ m, m ≤ 85 → (nI m - nI 1).toInt64.toInt = (m : Int) - 1 := by decide
set_option maxRecDepth 100000 in
set_option maxHeartbeats 4000000 in
theorem m_of {k b n hx hy : Nat} {h : ab_H} {x a : Int32} (hk : 5 ≤ k) (hM : at_M (ab_sh h) (ab_r h)) (hD : bd_Mo n hx hy h) : ab_M k b mX12_of [.ref 50, .int x, .int a] h (ab_pi (ab_oI 51 [] h (sp_of n hx hy x a))) := by
  have hb85 := bd_n_le n hD.n4
  refine ab_enter ?_
  refine ab_iload_n dX12_of_0 rfl ?_
  refine ab_i2l dX12_of_1 ?_
  refine ab_lconst (v := 0) dX12_of_2 (by decide) ?_
  refine ab_aload_n dX12_of_3 rfl ?_
  refine ab_getI dX12_of_4 fl_X12_133 hM.hs hD.f4 ?_
  refine ab_iconst (v := nI 1) dX12_of_7 (by decide) ?_
  refine ab_isub dX12_of_8 ?_
  refine ab_i2l dX12_of_9 ?_
  refine ab_callSb [_, _, _] dX12_of_10 ml_X12_123 mk_X12_isIn (m_isIn (k := 0) (b := 0) (Int32.toInt_toInt64 _) (lo := 0) (by decide) (bd_cnt64 _ hb85)) (fun t1 hh0 hq => ?_)
  obtain ⟨hhe, rfl⟩ := hq
  rw [hhe]
  refine ab_bif_ne 22 dX12_of_13 (by decide) (fun c_13 => ?_) (fun c_13 => ?_)
  · skip
    have hin : ab_inr 0 ((bd_n n : Int) - 1) x = true := c_13
    obtain ⟨i, rfl, hi, hi31⟩ := bd_inr_n (by omega) hin
    refine ab_iload_n dX12_of_22 rfl ?_
    rcases ab_swc 4 a with hsw | ⟨jsw, hjsw, rfl⟩
    · refine ab_tableOut 90 dX12_of_23 hsw (by decide) ?_
      refine ab_aload_n dX12_of_90 rfl ?_
      refine ab_bipush (v := -2) dX12_of_91 (by decide) ?_
      refine ab_callVi [_] dX12_of_93 ml_X12_9 mk_X12_refused hM.hs (m_refused (k := 0) (b := 0) (c := 2) hM (by decide) (by omega) (by omega)) (fun v1 hh1 hq => ?_)
      obtain ⟨hv, hh⟩ := hq
      refine ab_reti dX12_of_96 ?_
      exact ab_oI_no (by unfold sp_of; rw [if_pos hin, if_neg (fun q => by rw [q] at hsw; revert hsw; decide), if_neg (fun q => by rw [q] at hsw; revert hsw; decide), if_neg (fun q => by rw [q] at hsw; revert hsw; decide), if_neg (fun q => by rw [q] at hsw; revert hsw; decide), if_neg (fun q => by rw [q] at hsw; revert hsw; decide)]) hv hh
    · match jsw, hjsw with
      | 0, _ =>
        refine ab_tableIn (off := 33) 56 dX12_of_23 (by decide) (by decide) (by decide) (by decide) ?_
        refine ab_aload_n dX12_of_56 rfl ?_
        refine ab_getR dX12_of_57 fl_X12_36 hM.hs hM.p50_6 ?_
        refine ab_iload_n dX12_of_60 rfl ?_
        refine ab_iald dX12_of_61 hM.s53 rfl (by omega) (hD.way hi) ?_
        refine ab_reti dX12_of_62 ?_
        exact ab_oI_ok (by unfold sp_of; rw [if_pos hin, if_pos rfl, nI_clamp hi31]) (ab_fr.rf h)
      | 1, _ =>
        refine ab_tableIn (off := 40) 63 dX12_of_23 (by decide) (by decide) (by decide) (by decide) ?_
        refine ab_aload_n dX12_of_63 rfl ?_
        refine ab_getR dX12_of_64 fl_X12_39 hM.hs hM.p50_7 ?_
        refine ab_iload_n dX12_of_67 rfl ?_
        refine ab_iald dX12_of_68 hM.s54 rfl (by omega) (hD.size hi) ?_
        refine ab_reti dX12_of_69 ?_
        exact ab_oI_ok (by unfold sp_of; rw [if_pos hin, if_neg (by decide), if_pos rfl, nI_clamp hi31]) (ab_fr.rf h)
      | 2, _ =>
        refine ab_tableIn (off := 47) 70 dX12_of_23 (by decide) (by decide) (by decide) (by decide) ?_
        refine ab_aload_n dX12_of_70 rfl ?_
        refine ab_getR dX12_of_71 fl_X12_42 hM.hs hM.p50_8 ?_
        refine ab_iload_n dX12_of_74 rfl ?_
        refine ab_iald dX12_of_75 hM.s55 rfl (by omega) (hD.cx hi) ?_
        refine ab_reti dX12_of_76 ?_
        exact ab_oI_ok (by unfold sp_of; rw [if_pos hin, if_neg (by decide), if_neg (by decide), if_pos rfl, nI_clamp hi31]) (ab_fr.rf h)
      | 3, _ =>
        refine ab_tableIn (off := 54) 77 dX12_of_23 (by decide) (by decide) (by decide) (by decide) ?_
        refine ab_aload_n dX12_of_77 rfl ?_
        refine ab_getR dX12_of_78 fl_X12_45 hM.hs hM.p50_9 ?_
        refine ab_iload_n dX12_of_81 rfl ?_
        refine ab_iald dX12_of_82 hM.s56 rfl (by omega) (hD.cy hi) ?_
        refine ab_reti dX12_of_83 ?_
        exact ab_oI_ok (by unfold sp_of; rw [if_pos hin, if_neg (by decide), if_neg (by decide), if_neg (by decide), if_pos rfl, nI_clamp hi31]) (ab_fr.rf h)
      | 4, _ =>
        refine ab_tableIn (off := 61) 84 dX12_of_23 (by decide) (by decide) (by decide) (by decide) ?_
        refine ab_aload_n dX12_of_84 rfl ?_
        refine ab_iload_n dX12_of_85 rfl ?_
        refine ab_callVn [_] dX12_of_86 ml_X12_155 mk_X12_touching hM.hs (m_touching (k := 4) (b := 0) (Nat.le_refl _) hM hD hi) (fun x h1 hq => ?_)
        obtain ⟨hhe, rfl⟩ := hq
        rw [hhe]
        refine ab_reti dX12_of_89 ?_
        exact ab_oI_ok (by unfold sp_of; rw [if_pos hin, if_neg (by decide), if_neg (by decide), if_neg (by decide), if_neg (by decide), if_pos rfl, nI_clamp hi31]) (ab_fr.rf h)
      | jj + 5, hq => exact absurd hq (by omega)
  · skip
    refine ab_aload_n dX12_of_16 rfl ?_
    refine ab_iconst (v := -1) dX12_of_17 (by decide) ?_
    refine ab_callVi [_] dX12_of_18 ml_X12_9 mk_X12_refused hM.hs (m_refused (k := 0) (b := 0) (c := 1) hM (by decide) (by omega) (by omega)) (fun v1 hh1 hq => ?_)
    obtain ⟨hv, hh⟩ := hq
    refine ab_reti dX12_of_21 ?_
    exact ab_oI_no (by unfold sp_of; rw [if_neg (fun q : ab_inr 0 ((bd_n n : Int) - 1) x = true => ab_tf q c_13)]) hv hh
