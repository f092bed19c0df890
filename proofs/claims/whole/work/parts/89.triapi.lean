/-! ===== triangles, sets: what the calls answer ===== -/
set_option maxRecDepth 100000 in
set_option maxHeartbeats 4000000 in
theorem c_tri {k b : Nat} {h : ab_H} {s : sS} {x w : Int32} (hk : 2 ≤ k) (hC : at_C (ab_sh h) (ab_r h)) (hD : sh_C 19 s h) : ab_M k b mX11_tri [.ref 5, .int x, .int w] h (ab_pi (ab_oX 37 (ab_gr [] [] h) (ab_gr [] [] h) (sp_tri s x w))) := by
  have h11 := hD.W.2.1
  refine ab_enter ?_
  refine ab_aload_n dX11_tri_0 rfl ?_
  refine ab_getR dX11_tri_1 fl_X11_26 hC.hs hC.p5_2 ?_
  refine ab_iload_n dX11_tri_4 rfl ?_
  refine ab_callVb [_] dX11_tri_5 ml_X11_235 mk_X9_hasTriangle hC.shapes.1 (c_hasTriangle (k := 0) (b := 0) hC.shapes hD) (fun t1 hh0 hq => ?_)
  obtain ⟨hhe, rfl⟩ := hq
  rw [hhe]
  refine ab_bif_ne 17 dX11_tri_8 (by decide) (fun c_8 => ?_) (fun c_8 => ?_)
  · skip
    have hin := c_8
    obtain ⟨i, rfl, hi, hi31⟩ := bd_inr_n (by omega) c_8
    have hT := hD.tr i hi
    refine ab_aload_n dX11_tri_17 rfl ?_
    refine ab_getR dX11_tri_18 fl_X11_26 hC.hs hC.p5_2 ?_
    refine ab_getR dX11_tri_21 fl_X11_238 hC.shapes.1 hC.shapes.2.2.2.1 ?_
    refine ab_iload_n dX11_tri_24 rfl ?_
    refine ab_aald (t := 7) dX11_tri_25 hC.shapes.2.2.2.2 rfl (by omega) rfl ?_
    refine ab_sta_n (ls' := [_, _, _, _]) dX11_tri_26 (by decide) rfl ?_
    refine ab_iload_n dX11_tri_27 rfl ?_
    rcases ab_swc 6 w with hsw | ⟨jsw, hjsw, rfl⟩
    · refine ab_tableOut 121 dX11_tri_28 hsw (by decide) ?_
      refine ab_aload_n dX11_tri_121 rfl ?_
      refine ab_bipush (v := -2) dX11_tri_122 (by decide) ?_
      refine ab_callVi [_] dX11_tri_124 ml_X11_66 mk_X11_refuse hC.hs (c_refuse (k := 0) (b := 0) (c := 2) hC (by decide) (by omega) (by omega)) (fun v1 hh1 hq => ?_)
      obtain ⟨hv, hh⟩ := hq
      refine ab_reti dX11_tri_127 ?_
      exact ab_oX_no (by unfold sp_tri; rw [if_pos hin, if_neg (show ¬ ab_inr 0 6 w = true from ab_out (n := 6) hsw)]) (ab_gr.rf h) hv hh
    · match jsw, hjsw with
      | 0, _ =>
        refine ab_tableIn (off := 44) 72 dX11_tri_28 (by decide) (by decide) (by decide) (by decide) ?_
        refine ab_aload_n dX11_tri_72 rfl ?_
        refine ab_getI dX11_tri_73 fl_X11_242 hT.2.2.1 hT.2.2.2.1 ?_
        refine ab_reti dX11_tri_76 ?_
        exact ab_oX_ok (by unfold sp_tri; rw [if_pos hin, if_pos (by decide), nI_clamp hi31]; rfl) (ab_gr.rf h)
      | 1, _ =>
        refine ab_tableIn (off := 49) 77 dX11_tri_28 (by decide) (by decide) (by decide) (by decide) ?_
        refine ab_aload_n dX11_tri_77 rfl ?_
        refine ab_getI dX11_tri_78 fl_X11_245 hT.2.2.1 hT.2.2.2.2.1 ?_
        refine ab_reti dX11_tri_81 ?_
        exact ab_oX_ok (by unfold sp_tri; rw [if_pos hin, if_pos (by decide), nI_clamp hi31]; rfl) (ab_gr.rf h)
      | 2, _ =>
        refine ab_tableIn (off := 54) 82 dX11_tri_28 (by decide) (by decide) (by decide) (by decide) ?_
        refine ab_aload_n dX11_tri_82 rfl ?_
        refine ab_getI dX11_tri_83 fl_X11_248 hT.2.2.1 hT.2.2.2.2.2.1 ?_
        refine ab_reti dX11_tri_86 ?_
        exact ab_oX_ok (by unfold sp_tri; rw [if_pos hin, if_pos (by decide), nI_clamp hi31]; rfl) (ab_gr.rf h)
      | 3, _ =>
        refine ab_tableIn (off := 59) 87 dX11_tri_28 (by decide) (by decide) (by decide) (by decide) ?_
        refine ab_aload_n dX11_tri_87 rfl ?_
        refine ab_getI dX11_tri_88 fl_X11_251 hT.2.2.1 hT.2.2.2.2.2.2.1 ?_
        refine ab_reti dX11_tri_91 ?_
        exact ab_oX_ok (by unfold sp_tri; rw [if_pos hin, if_pos (by decide), nI_clamp hi31]; rfl) (ab_gr.rf h)
      | 4, _ =>
        refine ab_tableIn (off := 64) 92 dX11_tri_28 (by decide) (by decide) (by decide) (by decide) ?_
        refine ab_aload_n dX11_tri_92 rfl ?_
        refine ab_getI dX11_tri_93 fl_X11_254 hT.2.2.1 hT.2.2.2.2.2.2.2.1 ?_
        refine ab_reti dX11_tri_96 ?_
        exact ab_oX_ok (by unfold sp_tri; rw [if_pos hin, if_pos (by decide), nI_clamp hi31]; rfl) (ab_gr.rf h)
      | 5, _ =>
        refine ab_tableIn (off := 69) 97 dX11_tri_28 (by decide) (by decide) (by decide) (by decide) ?_
        refine ab_aload_n dX11_tri_97 rfl ?_
        refine ab_callVb [] dX11_tri_98 ml_X11_257 mk_X10_isRainbow hT.2.2.1 (c_isRainbow (k := 0) (b := 0) hT (co_lt _ _ _ _)) (fun t3 hh3 hq => ?_)
        obtain ⟨hhe, rfl⟩ := hq
        rw [hhe]
        refine ab_bif_eq 108 dX11_tri_101 (by decide) (fun c_101 => ?_) (fun c_101 => ?_)
        · skip
          refine ab_iconst (v := nI 0) dX11_tri_108 (by decide) ?_
          refine ab_reti dX11_tri_109 ?_
          exact ab_oX_ok (by unfold sp_tri; rw [if_pos hin, if_pos (by decide), nI_clamp hi31]; show Sum.inr (nI (decide (sC s i = 7)).toNat) = _; rw [c_101]; rfl) (ab_gr.rf h)
        · skip
          refine ab_iconst (v := nI 1) dX11_tri_104 (by decide) ?_
          refine ab_goto 109 dX11_tri_105 (by decide) ?_
          refine ab_reti dX11_tri_109 ?_
          exact ab_oX_ok (by unfold sp_tri; rw [if_pos hin, if_pos (by decide), nI_clamp hi31]; show Sum.inr (nI (decide (sC s i = 7)).toNat) = _; rw [c_101]; rfl) (ab_gr.rf h)
      | 6, _ =>
        refine ab_tableIn (off := 82) 110 dX11_tri_28 (by decide) (by decide) (by decide) (by decide) ?_
        refine ab_aload_n dX11_tri_110 rfl ?_
        refine ab_getR dX11_tri_111 fl_X11_260 hT.2.2.1 rfl ?_
        refine ab_callVi [] dX11_tri_114 ml_X11_213 mk_X2_valuation hT.2.2.2.2.2.2.2.2.2.2.1 (c_fr_val (k := 1) (b := 0) (Nat.le_refl _) hT.2.2.2.2.2.2.2.2 (sA_0 s i) ((sA_B hD.W hi).k1 (by decide)) (sA_B hD.W hi).2.1 ((sA_B hD.W hi).k2 (by decide))) (fun x h1 hq => ?_)
        obtain ⟨hhe, rfl⟩ := hq
        rw [hhe]
        refine ab_bipush (v := nI 100) dX11_tri_117 (by decide) ?_
        refine ab_iadd dX11_tri_119 ?_
        rw [Int32.add_comm]
        refine ab_reti dX11_tri_120 ?_
        exact ab_oX_ok (by unfold sp_tri; rw [if_pos hin, if_pos (by decide), nI_clamp hi31]; rfl) (ab_gr.rf h)
      | jj + 7, hq => exact absurd hq (by omega)
  · skip
    refine ab_aload_n dX11_tri_11 rfl ?_
    refine ab_iconst (v := -1) dX11_tri_12 (by decide) ?_
    refine ab_callVi [_] dX11_tri_13 ml_X11_66 mk_X11_refuse hC.hs (c_refuse (k := 0) (b := 0) (c := 1) hC (by decide) (by omega) (by omega)) (fun v1 hh1 hq => ?_)
    obtain ⟨hv, hh⟩ := hq
    refine ab_reti dX11_tri_16 ?_
    exact ab_oX_no (by unfold sp_tri; rw [if_neg (fun q => ab_tf q c_8)]) (ab_gr.rf h) hv hh
set_option maxRecDepth 100000 in
set_option maxHeartbeats 4000000 in
theorem m_tri {k b : Nat} {h : ab_H} {s : sS} {x w : Int32} (hk : 6 ≤ k) (hM : at_M (ab_sh h) (ab_r h)) (hD : sh_M s h) : ab_M k b mX12_tri [.ref 50, .int x, .int w] h (ab_pi (ab_oX 51 (ab_fM [] [] h) (ab_fM [] [] h) (sp_tri s x w))) := by
  have h11 := hD.W.2.1
  refine ab_enter ?_
  refine ab_aload_n dX12_tri_0 rfl ?_
  refine ab_iload_n dX12_tri_1 rfl ?_
  refine ab_callVb [_] dX12_tri_2 ml_X12_285 mk_X12_isTriangle hM.hs (m_isTriangle (k := 1) (b := 0) (Nat.le_refl _) hM hD) (fun t1 hh0 hq => ?_)
  obtain ⟨hhe, rfl⟩ := hq
  rw [hhe]
  refine ab_bif_ne 14 dX12_tri_5 (by decide) (fun c_5 => ?_) (fun c_5 => ?_)
  · skip
    have hin := c_5
    obtain ⟨i, rfl, hi, hi31⟩ := bd_inr_n (by omega) c_5
    have cr := hD.tr hi
    refine ab_iload_n dX12_tri_14 rfl ?_
    rcases ab_swc 6 w with hsw | ⟨jsw, hjsw, rfl⟩
    · refine ab_tableOut 107 dX12_tri_15 hsw (by decide) ?_
      refine ab_aload_n dX12_tri_107 rfl ?_
      refine ab_bipush (v := -2) dX12_tri_108 (by decide) ?_
      refine ab_callVi [_] dX12_tri_110 ml_X12_9 mk_X12_refused hM.hs (m_refused (k := 0) (b := 0) (c := 2) hM (by decide) (by omega) (by omega)) (fun v1 hh1 hq => ?_)
      obtain ⟨hv, hh⟩ := hq
      refine ab_reti dX12_tri_113 ?_
      exact ab_oX_no (by unfold sp_tri; rw [if_pos hin, if_neg (show ¬ ab_inr 0 6 w = true from ab_out (n := 6) hsw)]) (ab_fM.rf h) hv hh
    · match jsw, hjsw with
      | 0, _ =>
        refine ab_tableIn (off := 41) 56 dX12_tri_15 (by decide) (by decide) (by decide) (by decide) ?_
        refine ab_aload_n dX12_tri_56 rfl ?_
        refine ab_getR dX12_tri_57 fl_X12_67 hM.hs hM.p50_18 ?_
        refine ab_iload_n dX12_tri_60 rfl ?_
        refine ab_iald dX12_tri_61 hM.s63 rfl (by omega) cr.1 ?_
        refine ab_reti dX12_tri_62 ?_
        exact ab_oX_ok (by unfold sp_tri; rw [if_pos hin, if_pos (by decide), nI_clamp hi31]; rfl) (ab_fM.rf h)
      | 1, _ =>
        refine ab_tableIn (off := 48) 63 dX12_tri_15 (by decide) (by decide) (by decide) (by decide) ?_
        refine ab_aload_n dX12_tri_63 rfl ?_
        refine ab_getR dX12_tri_64 fl_X12_70 hM.hs hM.p50_19 ?_
        refine ab_iconst (v := nI 3) dX12_tri_67 (by decide) ?_
        refine ab_iload_n dX12_tri_68 rfl ?_
        refine ab_nmulR dX12_tri_69 ?_
        refine ab_iload_n dX12_tri_70 rfl ?_
        refine ab_naddR dX12_tri_71 ?_
        refine ab_iconst (v := nI 1) dX12_tri_72 (by decide) ?_
        refine ab_nsubR dX12_tri_73 (by omega) ?_
        refine ab_iald dX12_tri_74 hM.s64 (show nI (3 * i + 1 - 1) = nI (3 * i) from rfl) (by omega) cr.2.1 ?_
        refine ab_reti dX12_tri_75 ?_
        exact ab_oX_ok (by unfold sp_tri; rw [if_pos hin, if_pos (by decide), nI_clamp hi31]; rfl) (ab_fM.rf h)
      | 2, _ =>
        refine ab_tableIn (off := 48) 63 dX12_tri_15 (by decide) (by decide) (by decide) (by decide) ?_
        refine ab_aload_n dX12_tri_63 rfl ?_
        refine ab_getR dX12_tri_64 fl_X12_70 hM.hs hM.p50_19 ?_
        refine ab_iconst (v := nI 3) dX12_tri_67 (by decide) ?_
        refine ab_iload_n dX12_tri_68 rfl ?_
        refine ab_nmulR dX12_tri_69 ?_
        refine ab_iload_n dX12_tri_70 rfl ?_
        refine ab_naddR dX12_tri_71 ?_
        refine ab_iconst (v := nI 1) dX12_tri_72 (by decide) ?_
        refine ab_nsubR dX12_tri_73 (by omega) ?_
        refine ab_iald dX12_tri_74 hM.s64 (show nI (3 * i + 2 - 1) = nI (3 * i + 1) from rfl) (by omega) cr.2.2.1 ?_
        refine ab_reti dX12_tri_75 ?_
        exact ab_oX_ok (by unfold sp_tri; rw [if_pos hin, if_pos (by decide), nI_clamp hi31]; rfl) (ab_fM.rf h)
      | 3, _ =>
        refine ab_tableIn (off := 48) 63 dX12_tri_15 (by decide) (by decide) (by decide) (by decide) ?_
        refine ab_aload_n dX12_tri_63 rfl ?_
        refine ab_getR dX12_tri_64 fl_X12_70 hM.hs hM.p50_19 ?_
        refine ab_iconst (v := nI 3) dX12_tri_67 (by decide) ?_
        refine ab_iload_n dX12_tri_68 rfl ?_
        refine ab_nmulR dX12_tri_69 ?_
        refine ab_iload_n dX12_tri_70 rfl ?_
        refine ab_naddR dX12_tri_71 ?_
        refine ab_iconst (v := nI 1) dX12_tri_72 (by decide) ?_
        refine ab_nsubR dX12_tri_73 (by omega) ?_
        refine ab_iald dX12_tri_74 hM.s64 (show nI (3 * i + 3 - 1) = nI (3 * i + 2) from rfl) (by omega) cr.2.2.2 ?_
        refine ab_reti dX12_tri_75 ?_
        exact ab_oX_ok (by unfold sp_tri; rw [if_pos hin, if_pos (by decide), nI_clamp hi31]; rfl) (ab_fM.rf h)
      | 4, _ =>
        refine ab_tableIn (off := 61) 76 dX12_tri_15 (by decide) (by decide) (by decide) (by decide) ?_
        refine ab_aload_n dX12_tri_76 rfl ?_
        refine ab_iload_n dX12_tri_77 rfl ?_
        refine ab_callVi [_] dX12_tri_78 ml_X12_288 mk_X12_coloursOf hM.hs (m_coloursOf (k := 5) (b := 0) (Nat.le_refl _) hM hD hi) (fun v hh3 hq => ?_)
        obtain ⟨hhe, rfl⟩ := hq
        rw [hhe]
        refine ab_reti dX12_tri_81 ?_
        exact ab_oX_ok (by unfold sp_tri; rw [if_pos hin, if_pos (by decide), nI_clamp hi31]; rfl) (ab_fM.rf h)
      | 5, _ =>
        refine ab_tableIn (off := 67) 82 dX12_tri_15 (by decide) (by decide) (by decide) (by decide) ?_
        refine ab_aload_n dX12_tri_82 rfl ?_
        refine ab_iload_n dX12_tri_83 rfl ?_
        refine ab_callVi [_] dX12_tri_84 ml_X12_288 mk_X12_coloursOf hM.hs (m_coloursOf (k := 5) (b := 0) (Nat.le_refl _) hM hD hi) (fun v hh3 hq => ?_)
        obtain ⟨hhe, rfl⟩ := hq
        rw [hhe]
        refine ab_bipush (v := nI 7) dX12_tri_87 (by decide) ?_
        refine ab_nicmp_ne 96 dX12_tri_89 (by decide) (by have := co_lt (s.2.2.2 i).1 (s.2.1 (s.2.2.2 i).2.1) (s.2.1 (s.2.2.2 i).2.2.1) (s.2.1 (s.2.2.2 i).2.2.2); unfold sC; omega) (by omega) (fun c_89 => ?_) (fun c_89 => ?_)
        · skip
          refine ab_iconst (v := nI 0) dX12_tri_96 (by decide) ?_
          refine ab_reti dX12_tri_97 ?_
          exact ab_oX_ok (by unfold sp_tri; rw [if_pos hin, if_pos (by decide), nI_clamp hi31]; show Sum.inr (nI (decide (sC s i = 7)).toNat) = _; first | (rw [decide_eq_true c_89]; rfl) | (rw [decide_eq_false c_89]; rfl)) (ab_fM.rf h)
        · skip
          refine ab_iconst (v := nI 1) dX12_tri_92 (by decide) ?_
          refine ab_goto 97 dX12_tri_93 (by decide) ?_
          refine ab_reti dX12_tri_97 ?_
          exact ab_oX_ok (by unfold sp_tri; rw [if_pos hin, if_pos (by decide), nI_clamp hi31]; show Sum.inr (nI (decide (sC s i = 7)).toNat) = _; first | (rw [decide_eq_true c_89]; rfl) | (rw [decide_eq_false c_89]; rfl)) (ab_fM.rf h)
      | 6, _ =>
        refine ab_tableIn (off := 83) 98 dX12_tri_15 (by decide) (by decide) (by decide) (by decide) ?_
        refine ab_bipush (v := nI 100) dX12_tri_98 (by decide) ?_
        refine ab_aload_n dX12_tri_100 rfl ?_
        refine ab_iload_n dX12_tri_101 rfl ?_
        refine ab_callVi [_] dX12_tri_102 ml_X12_291 mk_X12_areaValuation hM.hs (m_areaValuation (k := 4) (b := 0) (Nat.le_refl _) hM hD hi) (fun v h2 hq => ?_)
        obtain ⟨g, rfl⟩ := hq
        refine ab_iadd dX12_tri_105 ?_
        refine ab_reti dX12_tri_106 ?_
        exact ab_oX_ok (by unfold sp_tri; rw [if_pos hin, if_pos (by decide), nI_clamp hi31]; rfl) (ab_fM.ofL g)
      | jj + 7, hq => exact absurd hq (by omega)
  · skip
    refine ab_aload_n dX12_tri_8 rfl ?_
    refine ab_iconst (v := -1) dX12_tri_9 (by decide) ?_
    refine ab_callVi [_] dX12_tri_10 ml_X12_9 mk_X12_refused hM.hs (m_refused (k := 0) (b := 0) (c := 1) hM (by decide) (by omega) (by omega)) (fun v1 hh1 hq => ?_)
    obtain ⟨hv, hh⟩ := hq
    refine ab_reti dX12_tri_13 ?_
    exact ab_oX_no (by unfold sp_tri; rw [if_neg (fun q => ab_tf q c_5)]) (ab_fM.rf h) hv hh
set_option maxRecDepth 100000 in
set_option maxHeartbeats 4000000 in
theorem c_area {k b : Nat} {h : ab_H} {s : sS} {x p : Int32} (hk : 2 ≤ k) (hC : at_C (ab_sh h) (ab_r h)) (hD : sh_C 19 s h) : ab_M k b mX11_area [.ref 5, .int x, .int p] h (ab_pl (ab_lX 37 (ab_gr [] [] h) (ab_gr [] [] h) (sp_area s x p))) := by
  have h11 := hD.W.2.1
  refine ab_enter ?_
  refine ab_aload_n dX11_area_0 rfl ?_
  refine ab_getR dX11_area_1 fl_X11_26 hC.hs hC.p5_2 ?_
  refine ab_iload_n dX11_area_4 rfl ?_
  refine ab_callVb [_] dX11_area_5 ml_X11_235 mk_X9_hasTriangle hC.shapes.1 (c_hasTriangle (k := 0) (b := 0) hC.shapes hD) (fun t1 hh0 hq => ?_)
  obtain ⟨hhe, rfl⟩ := hq
  rw [hhe]
  refine ab_bif_ne 17 dX11_area_8 (by decide) (fun c_8 => ?_) (fun c_8 => ?_)
  · skip
    refine ab_iload_n dX11_area_17 rfl ?_
    refine ab_callSb [_] dX11_area_18 ml_X11_145 mk_X11_isPartOfFraction (c_isPartOfFraction (k := 0) (b := 0)) (fun t2 hh2 hq => ?_)
    obtain ⟨hhe, rfl⟩ := hq
    rw [hhe]
    refine ab_bif_ne 31 dX11_area_21 (by decide) (fun c_21 => ?_) (fun c_21 => ?_)
    · skip
      have hin := c_8
      obtain ⟨i, rfl, hi, hi31⟩ := bd_inr_n (by omega) c_8
      have hT := hD.tr i hi
      refine ab_aload_n dX11_area_31 rfl ?_
      refine ab_getR dX11_area_32 fl_X11_26 hC.hs hC.p5_2 ?_
      refine ab_getR dX11_area_35 fl_X11_238 hC.shapes.1 hC.shapes.2.2.2.1 ?_
      refine ab_iload_n dX11_area_38 rfl ?_
      refine ab_aald (t := 7) dX11_area_39 hC.shapes.2.2.2.2 rfl (by omega) rfl ?_
      refine ab_getR dX11_area_40 fl_X11_260 hT.2.2.1 rfl ?_
      refine ab_iload_n dX11_area_43 rfl ?_
      refine ab_callVl [_] dX11_area_44 ml_X11_156 mk_X2_told hT.2.2.2.2.2.2.2.2.2.2.1 (c_fr_told (k := 0) (b := 0) hT.2.2.2.2.2.2.2.2) (fun v3 hh3 hq => ?_)
      obtain ⟨hhe, rfl⟩ := hq
      rw [hhe]
      refine ab_retl dX11_area_47 ?_
      exact ab_lX_ok (by unfold sp_area; rw [if_pos hin, if_pos c_21, nI_clamp hi31]) (ab_gr.rf h)
    · skip
      refine ab_aload_n dX11_area_24 rfl ?_
      refine ab_bipush (v := -2) dX11_area_25 (by decide) ?_
      refine ab_callVl [_] dX11_area_27 ml_X11_148 mk_X11_refuseFar hC.hs (c_refuseFar (k := 1) (b := 0) (c := 2) (Nat.le_refl _) hC (by decide) (by omega) (by omega)) (fun v1 hh1 hq => ?_)
      obtain ⟨hv, hh⟩ := hq
      refine ab_retl dX11_area_30 ?_
      exact ab_lX_no (by unfold sp_area; rw [if_pos c_8, if_neg (fun q => ab_tf q c_21)]) (ab_gr.rf h) hv hh
  · skip
    refine ab_aload_n dX11_area_11 rfl ?_
    refine ab_iconst (v := -1) dX11_area_12 (by decide) ?_
    refine ab_callVl [_] dX11_area_13 ml_X11_148 mk_X11_refuseFar hC.hs (c_refuseFar (k := 1) (b := 0) (c := 1) (Nat.le_refl _) hC (by decide) (by omega) (by omega)) (fun v1 hh1 hq => ?_)
    obtain ⟨hv, hh⟩ := hq
    refine ab_retl dX11_area_16 ?_
    exact ab_lX_no (by unfold sp_area; rw [if_neg (fun q => ab_tf q c_8)]) (ab_gr.rf h) hv hh
set_option maxRecDepth 100000 in
set_option maxHeartbeats 4000000 in
theorem m_area {k b : Nat} {h : ab_H} {s : sS} {x p : Int32} (hk : 4 ≤ k) (hM : at_M (ab_sh h) (ab_r h)) (hD : sh_M s h) : ab_M k b mX12_area [.ref 50, .int x, .int p] h (ab_pl (ab_lX 51 (ab_fM [] [] h) (ab_fM [] [] h) (sp_area s x p))) := by
  have h11 := hD.W.2.1
  refine ab_enter ?_
  refine ab_aload_n dX12_area_0 rfl ?_
  refine ab_iload_n dX12_area_1 rfl ?_
  refine ab_callVb [_] dX12_area_2 ml_X12_285 mk_X12_isTriangle hM.hs (m_isTriangle (k := 1) (b := 0) (Nat.le_refl _) hM hD) (fun t1 hh0 hq => ?_)
  obtain ⟨hhe, rfl⟩ := hq
  rw [hhe]
  refine ab_bif_ne 14 dX12_area_5 (by decide) (fun c_5 => ?_) (fun c_5 => ?_)
  · skip
    refine ab_iload_n dX12_area_14 rfl ?_
    refine ab_i2l dX12_area_15 ?_
    refine ab_lconst (v := 0) dX12_area_16 (by decide) ?_
    refine ab_lconst (v := 1) dX12_area_17 (by decide) ?_
    refine ab_callSb [_, _, _] dX12_area_18 ml_X12_123 mk_X12_isIn (m_isIn (k := 0) (b := 0) (Int32.toInt_toInt64 _) (lo := 0) (by decide) (hi := 1) (by decide)) (fun t2 hh2 hq => ?_)
    obtain ⟨hhe, rfl⟩ := hq
    rw [hhe]
    refine ab_bif_ne 31 dX12_area_21 (by decide) (fun c_21 => ?_) (fun c_21 => ?_)
    · skip
      have hin := c_5
      obtain ⟨i, rfl, hi, hi31⟩ := bd_inr_n (by omega) c_5
      refine ab_aload_n dX12_area_31 rfl ?_
      refine ab_iload_n dX12_area_32 rfl ?_
      refine ab_callVv [_] dX12_area_33 ml_X12_282 mk_X12_areaOf hM.hs (m_areaOf (k := 3) (b := 0) (Nat.le_refl _) hM hD hi) (fun h2 hq => ?_)
      obtain ⟨g, e1, e2⟩ := hq
      have hM1 := at_M.fL g hM
      refine ab_iload_n dX12_area_36 rfl ?_
      refine ab_if_ne 47 dX12_area_37 (by decide) (fun c_37 => ?_) (fun c_37 => ?_)
      · skip
        refine ab_aload_n dX12_area_47 rfl ?_
        refine ab_getL dX12_area_48 fl_X12_254 hM1.hs e2 ?_
        refine ab_retl dX12_area_51 ?_
        first | exact ab_lX_ok (by unfold sp_area; rw [if_pos hin, if_pos (show ab_inr 0 1 p = true from c_21), nI_clamp hi31, if_pos c_37]) (ab_fM.ofL g) | exact ab_lX_ok (by unfold sp_area; rw [if_pos hin, if_pos (show ab_inr 0 1 p = true from c_21), nI_clamp hi31, if_neg c_37]) (ab_fM.ofL g)
      · skip
        refine ab_aload_n dX12_area_40 rfl ?_
        refine ab_getL dX12_area_41 fl_X12_250 hM1.hs e1 ?_
        refine ab_goto 51 dX12_area_44 (by decide) ?_
        refine ab_retl dX12_area_51 ?_
        first | exact ab_lX_ok (by unfold sp_area; rw [if_pos hin, if_pos (show ab_inr 0 1 p = true from c_21), nI_clamp hi31, if_pos c_37]) (ab_fM.ofL g) | exact ab_lX_ok (by unfold sp_area; rw [if_pos hin, if_pos (show ab_inr 0 1 p = true from c_21), nI_clamp hi31, if_neg c_37]) (ab_fM.ofL g)
    · skip
      refine ab_aload_n dX12_area_24 rfl ?_
      refine ab_bipush (v := -2) dX12_area_25 (by decide) ?_
      refine ab_callVl [_] dX12_area_27 ml_X12_178 mk_X12_refusedFar hM.hs (m_refusedFar (k := 1) (b := 0) (c := 2) (Nat.le_refl _) hM (by decide) (by omega) (by omega)) (fun v1 hh1 hq => ?_)
      obtain ⟨hv, hh⟩ := hq
      refine ab_retl dX12_area_30 ?_
      exact ab_lX_no (by unfold sp_area; rw [if_pos c_5, if_neg (fun q : ab_inr 0 1 p = true => ab_tf q c_21)]) (ab_fM.rf h) hv hh
  · skip
    refine ab_aload_n dX12_area_8 rfl ?_
    refine ab_iconst (v := -1) dX12_area_9 (by decide) ?_
    refine ab_callVl [_] dX12_area_10 ml_X12_178 mk_X12_refusedFar hM.hs (m_refusedFar (k := 1) (b := 0) (c := 1) (Nat.le_refl _) hM (by decide) (by omega) (by omega)) (fun v1 hh1 hq => ?_)
    obtain ⟨hv, hh⟩ := hq
    refine ab_retl dX12_area_13 ?_
    exact ab_lX_no (by unfold sp_area; rw [if_neg (fun q => ab_tf q c_5)]) (ab_fM.rf h) hv hh
set_option maxRecDepth 100000 in
set_option maxHeartbeats 4000000 in
theorem c_even {k b : Nat} {h : ab_H} {s : sS} {x w : Int32} (hk : 3 ≤ k) (hC : at_C (ab_sh h) (ab_r h)) (hD : sh_C 19 s h) : ab_M k b mX11_even [.ref 5, .int x, .int w] h (ab_pi (ab_oX 37 (ab_gr [] [] h) (ab_gr [] [] h) (sp_even s x w))) := by
  have h11 := hD.W.2.1
  refine ab_enter ?_
  refine ab_aload_n dX11_even_0 rfl ?_
  refine ab_getR dX11_even_1 fl_X11_26 hC.hs hC.p5_2 ?_
  refine ab_iload_n dX11_even_4 rfl ?_
  refine ab_callVb [_] dX11_even_5 ml_X11_263 mk_X9_hasSet hC.shapes.1 (c_hasSet (k := 0) (b := 0) hC.shapes hD) (fun t1 hh0 hq => ?_)
  obtain ⟨hhe, rfl⟩ := hq
  rw [hhe]
  refine ab_bif_ne 17 dX11_even_8 (by decide) (fun c_8 => ?_) (fun c_8 => ?_)
  · skip
    have hin := c_8
    obtain ⟨n, rfl, hn1, hi31⟩ := st_nat c_8
    refine ab_iload_n dX11_even_17 rfl ?_
    rcases ab_swc 2 w with hsw | ⟨jsw, hjsw, rfl⟩
    · refine ab_tableOut 79 dX11_even_18 hsw (by decide) ?_
      refine ab_aload_n dX11_even_79 rfl ?_
      refine ab_bipush (v := -2) dX11_even_80 (by decide) ?_
      refine ab_callVi [_] dX11_even_82 ml_X11_66 mk_X11_refuse hC.hs (c_refuse (k := 0) (b := 0) (c := 2) hC (by decide) (by omega) (by omega)) (fun v1 hh1 hq => ?_)
      obtain ⟨hv, hh⟩ := hq
      refine ab_reti dX11_even_85 ?_
      exact ab_oX_no (by unfold sp_even; rw [if_pos hin, if_neg (show ¬ ab_inr 0 2 w = true from ab_out (n := 2) hsw)]) (ab_gr.rf h) hv hh
    · match jsw, hjsw with
      | 0, _ =>
        refine ab_tableIn (off := 26) 44 dX11_even_18 (by decide) (by decide) (by decide) (by decide) ?_
        refine ab_aload_n dX11_even_44 rfl ?_
        refine ab_getR dX11_even_45 fl_X11_26 hC.hs hC.p5_2 ?_
        refine ab_iload_n dX11_even_48 rfl ?_
        refine ab_callVi [_] dX11_even_49 ml_X11_269 mk_X9_evenOnes hC.shapes.1 (c_evenOnes (k := 2) (b := 0) (Nat.le_refl _) hC.shapes hD hi31) (fun v hh3 hq => ?_)
        obtain ⟨hhe, rfl⟩ := hq
        rw [hhe]
        refine ab_reti dX11_even_52 ?_
        exact ab_oX_ok (by unfold sp_even; rw [if_pos hin, if_pos (by decide), nI_clamp hi31]; rfl) (ab_gr.rf h)
      | 1, _ =>
        refine ab_tableIn (off := 35) 53 dX11_even_18 (by decide) (by decide) (by decide) (by decide) ?_
        refine ab_aload_n dX11_even_53 rfl ?_
        refine ab_getR dX11_even_54 fl_X11_26 hC.hs hC.p5_2 ?_
        refine ab_iload_n dX11_even_57 rfl ?_
        refine ab_callVi [_] dX11_even_58 ml_X11_272 mk_X9_rainbows hC.shapes.1 (c_rainbows (k := 2) (b := 0) (Nat.le_refl _) hC.shapes hD hi31) (fun v hh3 hq => ?_)
        obtain ⟨hhe, rfl⟩ := hq
        rw [hhe]
        refine ab_reti dX11_even_61 ?_
        exact ab_oX_ok (by unfold sp_even; rw [if_pos hin, if_pos (by decide), nI_clamp hi31]; rfl) (ab_gr.rf h)
      | 2, _ =>
        refine ab_tableIn (off := 44) 62 dX11_even_18 (by decide) (by decide) (by decide) (by decide) ?_
        refine ab_aload_n dX11_even_62 rfl ?_
        refine ab_getR dX11_even_63 fl_X11_26 hC.hs hC.p5_2 ?_
        refine ab_iload_n dX11_even_66 rfl ?_
        refine ab_callVb [_] dX11_even_67 ml_X11_275 mk_X9_areAlike hC.shapes.1 (c_areAlike (k := 1) (b := 0) (Nat.le_refl _) hC.shapes hD hi31) (fun v hh3 hq => ?_)
        obtain ⟨hhe, rfl⟩ := hq
        rw [hhe]
        refine ab_bif_eq 77 dX11_even_70 (by decide) (fun c_70 => ?_) (fun c_70 => ?_)
        · skip
          refine ab_iconst (v := nI 0) dX11_even_77 (by decide) ?_
          refine ab_reti dX11_even_78 ?_
          exact ab_oX_ok (by unfold sp_even; rw [if_pos hin, if_pos (by decide), nI_clamp hi31]; show Sum.inr (nI (al s n s.2.2.1).2.toNat) = _; rw [c_70]; rfl) (ab_gr.rf h)
        · skip
          refine ab_iconst (v := nI 1) dX11_even_73 (by decide) ?_
          refine ab_goto 78 dX11_even_74 (by decide) ?_
          refine ab_reti dX11_even_78 ?_
          exact ab_oX_ok (by unfold sp_even; rw [if_pos hin, if_pos (by decide), nI_clamp hi31]; show Sum.inr (nI (al s n s.2.2.1).2.toNat) = _; rw [c_70]; rfl) (ab_gr.rf h)
      | jj + 3, hq => exact absurd hq (by omega)
  · skip
    refine ab_aload_n dX11_even_11 rfl ?_
    refine ab_iconst (v := -1) dX11_even_12 (by decide) ?_
    refine ab_callVi [_] dX11_even_13 ml_X11_66 mk_X11_refuse hC.hs (c_refuse (k := 0) (b := 0) (c := 1) hC (by decide) (by omega) (by omega)) (fun v1 hh1 hq => ?_)
    obtain ⟨hv, hh⟩ := hq
    refine ab_reti dX11_even_16 ?_
    exact ab_oX_no (by unfold sp_even; rw [if_neg (fun q => ab_tf q c_8)]) (ab_gr.rf h) hv hh
set_option maxRecDepth 100000 in
set_option maxHeartbeats 4000000 in
theorem m_even {k b : Nat} {h : ab_H} {s : sS} {x w : Int32} (hk : 7 ≤ k) (hM : at_M (ab_sh h) (ab_r h)) (hD : sh_M s h) : ab_M k b mX12_even [.ref 50, .int x, .int w] h (ab_pi (ab_oX 51 (ab_fM [] [] h) (ab_fM [] [] h) (sp_even s x w))) := by
  have h11 := hD.W.2.1
  refine ab_enter ?_
  refine ab_aload_n dX12_even_0 rfl ?_
  refine ab_iload_n dX12_even_1 rfl ?_
  refine ab_callVb [_] dX12_even_2 ml_X12_296 mk_X12_isSet hM.hs (m_isSet (k := 1) (b := 0) (Nat.le_refl _) hM hD) (fun t1 hh0 hq => ?_)
  obtain ⟨hhe, rfl⟩ := hq
  rw [hhe]
  refine ab_bif_ne 14 dX12_even_5 (by decide) (fun c_5 => ?_) (fun c_5 => ?_)
  · skip
    refine ab_iload_n dX12_even_14 rfl ?_
    refine ab_i2l dX12_even_15 ?_
    refine ab_lconst (v := 0) dX12_even_16 (by decide) ?_
    refine ab_ldc2 dX12_even_17 kc_X12_230 ?_
    refine ab_callSb [_, _, _] dX12_even_20 ml_X12_123 mk_X12_isIn (m_isIn (k := 0) (b := 0) (Int32.toInt_toInt64 _) (lo := 0) (by decide) (hi := 2) (by decide)) (fun t2 hh2 hq => ?_)
    obtain ⟨hhe, rfl⟩ := hq
    rw [hhe]
    refine ab_bif_ne 33 dX12_even_23 (by decide) (fun c_23 => ?_) (fun c_23 => ?_)
    · skip
      have hin := c_5
      obtain ⟨n, rfl, hn1, hi31⟩ := st_nat c_5
      replace c_23 : ab_inr 0 2 w = true := c_23
      obtain ⟨j, rfl, hj, -⟩ := ab_inr_nat (n := 2) c_23
      rcases (show j = 0 ∨ j = 1 ∨ j = 2 by omega) with rfl | rfl | rfl
      · refine ab_iload_n dX12_even_33 rfl ?_
        refine ab_nif_ne 45 dX12_even_34 (by decide) (by omega) (fun c_34 => ?_) (fun c_34 => ?_)
        · skip
          exact absurd c_34 (by decide)
        · skip
          refine ab_aload_n dX12_even_37 rfl ?_
          refine ab_iload_n dX12_even_38 rfl ?_
          refine ab_callVi [_] dX12_even_39 ml_X12_303 mk_X12_evens hM.hs (m_evens (k := 6) (b := 0) (Nat.le_refl _) hM hD hi31) (fun v h2 hq => ?_)
          obtain ⟨g, rfl⟩ := hq
          refine ab_goto 71 dX12_even_42 (by decide) ?_
          refine ab_reti dX12_even_71 ?_
          exact ab_oX_ok (by unfold sp_even; rw [if_pos hin, if_pos (by decide), nI_clamp hi31]; rfl) (ab_fM.ofL g)
      · refine ab_iload_n dX12_even_33 rfl ?_
        refine ab_nif_ne 45 dX12_even_34 (by decide) (by omega) (fun c_34 => ?_) (fun c_34 => ?_)
        · skip
          refine ab_iload_n dX12_even_45 rfl ?_
          refine ab_iconst (v := nI 1) dX12_even_46 (by decide) ?_
          refine ab_nicmp_ne 58 dX12_even_47 (by decide) (by omega) (by omega) (fun c_47 => ?_) (fun c_47 => ?_)
          · skip
            exact absurd c_47 (by decide)
          · skip
            refine ab_aload_n dX12_even_50 rfl ?_
            refine ab_iload_n dX12_even_51 rfl ?_
            refine ab_callVi [_] dX12_even_52 ml_X12_306 mk_X12_rainbows hM.hs (m_rainbows (k := 6) (b := 0) (Nat.le_refl _) hM hD hi31) (fun v h2 hq => ?_)
            obtain ⟨g, rfl⟩ := hq
            refine ab_goto 71 dX12_even_55 (by decide) ?_
            refine ab_reti dX12_even_71 ?_
            exact ab_oX_ok (by unfold sp_even; rw [if_pos hin, if_pos (by decide), nI_clamp hi31]; rfl) (ab_fM.ofL g)
        · skip
          exact absurd c_34 (by decide)
      · refine ab_iload_n dX12_even_33 rfl ?_
        refine ab_nif_ne 45 dX12_even_34 (by decide) (by omega) (fun c_34 => ?_) (fun c_34 => ?_)
        · skip
          refine ab_iload_n dX12_even_45 rfl ?_
          refine ab_iconst (v := nI 1) dX12_even_46 (by decide) ?_
          refine ab_nicmp_ne 58 dX12_even_47 (by decide) (by omega) (by omega) (fun c_47 => ?_) (fun c_47 => ?_)
          · skip
            refine ab_aload_n dX12_even_58 rfl ?_
            refine ab_iload_n dX12_even_59 rfl ?_
            refine ab_callVb [_] dX12_even_60 ml_X12_309 mk_X12_isAlike hM.hs (m_isAlike (k := 4) (b := 0) (Nat.le_refl _) hM hD hi31) (fun v h2 hq => ?_)
            obtain ⟨g, rfl⟩ := hq
            refine ab_bif_eq 70 dX12_even_63 (by decide) (fun c_63 => ?_) (fun c_63 => ?_)
            · skip
              refine ab_iconst (v := nI 0) dX12_even_70 (by decide) ?_
              refine ab_reti dX12_even_71 ?_
              exact ab_oX_ok (by unfold sp_even; rw [if_pos hin, if_pos (by decide), nI_clamp hi31]; show Sum.inr (nI (al s n s.2.2.1).2.toNat) = _; rw [c_63]; rfl) (ab_fM.ofL g)
            · skip
              refine ab_iconst (v := nI 1) dX12_even_66 (by decide) ?_
              refine ab_goto 71 dX12_even_67 (by decide) ?_
              refine ab_reti dX12_even_71 ?_
              exact ab_oX_ok (by unfold sp_even; rw [if_pos hin, if_pos (by decide), nI_clamp hi31]; show Sum.inr (nI (al s n s.2.2.1).2.toNat) = _; rw [c_63]; rfl) (ab_fM.ofL g)
          · skip
            exact absurd c_47 (by decide)
        · skip
          exact absurd c_34 (by decide)
    · skip
      refine ab_aload_n dX12_even_26 rfl ?_
      refine ab_bipush (v := -2) dX12_even_27 (by decide) ?_
      refine ab_callVi [_] dX12_even_29 ml_X12_9 mk_X12_refused hM.hs (m_refused (k := 0) (b := 0) (c := 2) hM (by decide) (by omega) (by omega)) (fun v1 hh1 hq => ?_)
      obtain ⟨hv, hh⟩ := hq
      refine ab_reti dX12_even_32 ?_
      exact ab_oX_no (by unfold sp_even; rw [if_pos c_5, if_neg (fun q : ab_inr 0 2 w = true => ab_tf q c_23)]) (ab_fM.rf h) hv hh
  · skip
    refine ab_aload_n dX12_even_8 rfl ?_
    refine ab_iconst (v := -1) dX12_even_9 (by decide) ?_
    refine ab_callVi [_] dX12_even_10 ml_X12_9 mk_X12_refused hM.hs (m_refused (k := 0) (b := 0) (c := 1) hM (by decide) (by omega) (by omega)) (fun v1 hh1 hq => ?_)
    obtain ⟨hv, hh⟩ := hq
    refine ab_reti dX12_even_13 ?_
    exact ab_oX_no (by unfold sp_even; rw [if_neg (fun q => ab_tf q c_5)]) (ab_fM.rf h) hv hh
