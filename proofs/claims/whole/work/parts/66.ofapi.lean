/-! ===== both boards: of ===== -/
noncomputable def sp_of (n hx hy : Nat) (x a : Int32) : Nat ⊕ Int32 := if ab_inr 0 ((bd_n n : Int) - 1) x = true then (if a = nI 0 then .inr (nI (bd_P n hx hy x.toNatClampNeg).1) else if a = nI 1 then .inr (nI (bd_P n hx hy x.toNatClampNeg).2.1) else if a = nI 2 then .inr (nI (bd_cx (bd_P n hx hy x.toNatClampNeg))) else if a = nI 3 then .inr (nI (bd_cy (bd_P n hx hy x.toNatClampNeg))) else if a = nI 4 then .inr (nI (bd_num (fun j => j ≠ x.toNatClampNeg ∧ bd_adj n hx hy x.toNatClampNeg j) (bd_n n))) else .inl 2) else .inl 1
theorem bd_inr_n {m : Nat} {x : Int32} (hm : m < 2147483648) (h : ab_inr 0 ((m : Int) - 1) x = true) : ∃ i, x = nI i ∧ i < m ∧ i < 2147483648 := by
  have h := of_decide_eq_true h
  obtain ⟨i, rfl, hi⟩ := ab_of0 (x := x) (ab_ge0.mpr h.1)
  rw [nI_toInt hi] at h
  exact ⟨i, rfl, by omega, hi⟩
set_option maxRecDepth 100000 in
set_option maxHeartbeats 4000000 in
theorem c_of {k b n hx hy : Nat} {h : ab_H} {x a : Int32} (hk : 6 ≤ k) (hC : at_C (ab_sh h) (ab_r h)) (hD : bd_C n hx hy 6 h) : ab_M k b mX11_of [.ref 5, .int x, .int a] h (ab_pi (ab_oI 37 [12] h (sp_of n hx hy x a))) := by
  have hb85 := bd_n_le n hD.n4
  refine ab_enter ?_
  refine ab_aload_n dX11_of_0 rfl ?_
  refine ab_getR dX11_of_1 fl_X11_10 hC.hs hC.p5_0 ?_
  refine ab_iload_n dX11_of_4 rfl ?_
  refine ab_callVb [_] dX11_of_5 ml_X11_113 mk_X0_hasPiece hC.board.1 (c_hasPiece (k := 0) (b := 0) (p := bd_n n) hC.board hD.f3 hb85) (fun t1 hh0 hq => ?_)
  obtain ⟨hhe, rfl⟩ := hq
  rw [hhe]
  refine ab_bif_ne 17 dX11_of_8 (by decide) (fun c_8 => ?_) (fun c_8 => ?_)
  · skip
    have hin := c_8
    obtain ⟨i, rfl, hi, hi31⟩ := bd_inr_n (by omega) c_8
    refine ab_iload_n dX11_of_17 rfl ?_
    rcases ab_swc 4 a with hsw | ⟨jsw, hjsw, rfl⟩
    · refine ab_tableOut 97 dX11_of_18 hsw (by decide) ?_
      refine ab_aload_n dX11_of_97 rfl ?_
      refine ab_bipush (v := -2) dX11_of_98 (by decide) ?_
      refine ab_callVi [_] dX11_of_100 ml_X11_66 mk_X11_refuse hC.hs (c_refuse (k := 0) (b := 0) (c := 2) hC (by decide) (by omega) (by omega)) (fun v1 hh1 hq => ?_)
      obtain ⟨hv, hh⟩ := hq
      refine ab_reti dX11_of_103 ?_
      exact ab_oI_no (by unfold sp_of; rw [if_pos hin, if_neg (fun q => by rw [q] at hsw; revert hsw; decide), if_neg (fun q => by rw [q] at hsw; revert hsw; decide), if_neg (fun q => by rw [q] at hsw; revert hsw; decide), if_neg (fun q => by rw [q] at hsw; revert hsw; decide), if_neg (fun q => by rw [q] at hsw; revert hsw; decide)]) hv hh
    · match jsw, hjsw with
      | 0, _ =>
        refine ab_tableIn (off := 34) 52 dX11_of_18 (by decide) (by decide) (by decide) (by decide) ?_
        refine ab_aload_n dX11_of_52 rfl ?_
        refine ab_getR dX11_of_53 fl_X11_10 hC.hs hC.p5_0 ?_
        refine ab_iload_n dX11_of_56 rfl ?_
        refine ab_callVn [_] dX11_of_57 ml_X11_117 mk_X0_wayOf hC.board.1 (c_wayOf (k := 0) (b := 0) hC.board hD hi) (fun x h1 hq => ?_)
        obtain ⟨hhe, rfl⟩ := hq
        rw [hhe]
        refine ab_reti dX11_of_60 ?_
        exact ab_oI_ok (by unfold sp_of; rw [if_pos hin, if_pos rfl, nI_clamp hi31]) (ab_fr.rf h)
      | 1, _ =>
        refine ab_tableIn (off := 43) 61 dX11_of_18 (by decide) (by decide) (by decide) (by decide) ?_
        refine ab_aload_n dX11_of_61 rfl ?_
        refine ab_getR dX11_of_62 fl_X11_10 hC.hs hC.p5_0 ?_
        refine ab_iload_n dX11_of_65 rfl ?_
        refine ab_callVn [_] dX11_of_66 ml_X11_120 mk_X0_sizeOf hC.board.1 (c_sizeOf (k := 0) (b := 0) hC.board hD hi) (fun x h1 hq => ?_)
        obtain ⟨hhe, rfl⟩ := hq
        rw [hhe]
        refine ab_reti dX11_of_69 ?_
        exact ab_oI_ok (by unfold sp_of; rw [if_pos hin, if_neg (by decide), if_pos rfl, nI_clamp hi31]) (ab_fr.rf h)
      | 2, _ =>
        refine ab_tableIn (off := 52) 70 dX11_of_18 (by decide) (by decide) (by decide) (by decide) ?_
        refine ab_aload_n dX11_of_70 rfl ?_
        refine ab_getR dX11_of_71 fl_X11_10 hC.hs hC.p5_0 ?_
        refine ab_iload_n dX11_of_74 rfl ?_
        refine ab_callVn [_] dX11_of_75 ml_X11_123 mk_X0_cornerX hC.board.1 (c_cornerX (k := 0) (b := 0) hC.board hD hi) (fun x h1 hq => ?_)
        obtain ⟨hhe, rfl⟩ := hq
        rw [hhe]
        refine ab_reti dX11_of_78 ?_
        exact ab_oI_ok (by unfold sp_of; rw [if_pos hin, if_neg (by decide), if_neg (by decide), if_pos rfl, nI_clamp hi31]) (ab_fr.rf h)
      | 3, _ =>
        refine ab_tableIn (off := 61) 79 dX11_of_18 (by decide) (by decide) (by decide) (by decide) ?_
        refine ab_aload_n dX11_of_79 rfl ?_
        refine ab_getR dX11_of_80 fl_X11_10 hC.hs hC.p5_0 ?_
        refine ab_iload_n dX11_of_83 rfl ?_
        refine ab_callVn [_] dX11_of_84 ml_X11_126 mk_X0_cornerY hC.board.1 (c_cornerY (k := 0) (b := 0) hC.board hD hi) (fun x h1 hq => ?_)
        obtain ⟨hhe, rfl⟩ := hq
        rw [hhe]
        refine ab_reti dX11_of_87 ?_
        exact ab_oI_ok (by unfold sp_of; rw [if_pos hin, if_neg (by decide), if_neg (by decide), if_neg (by decide), if_pos rfl, nI_clamp hi31]) (ab_fr.rf h)
      | 4, _ =>
        refine ab_tableIn (off := 70) 88 dX11_of_18 (by decide) (by decide) (by decide) (by decide) ?_
        refine ab_aload_n dX11_of_88 rfl ?_
        refine ab_getR dX11_of_89 fl_X11_10 hC.hs hC.p5_0 ?_
        refine ab_iload_n dX11_of_92 rfl ?_
        refine ab_callVn [_] dX11_of_93 ml_X11_129 mk_X0_touching hC.board.1 (c_touching (k := 5) (b := 0) (Nat.le_refl _) hC.board hD hi) (fun x h1 hq => ?_)
        obtain ⟨f, rfl⟩ := hq
        refine ab_reti dX11_of_96 ?_
        exact ab_oI_ok (by unfold sp_of; rw [if_pos hin, if_neg (by decide), if_neg (by decide), if_neg (by decide), if_neg (by decide), if_pos rfl, nI_clamp hi31]) f
      | jj + 5, hq => exact absurd hq (by omega)
  · skip
    refine ab_aload_n dX11_of_11 rfl ?_
    refine ab_iconst (v := -1) dX11_of_12 (by decide) ?_
    refine ab_callVi [_] dX11_of_13 ml_X11_66 mk_X11_refuse hC.hs (c_refuse (k := 0) (b := 0) (c := 1) hC (by decide) (by omega) (by omega)) (fun v1 hh1 hq => ?_)
    obtain ⟨hv, hh⟩ := hq
    refine ab_reti dX11_of_16 ?_
    exact ab_oI_no (by unfold sp_of; rw [if_neg (fun q => ab_tf q c_8)]) hv hh
