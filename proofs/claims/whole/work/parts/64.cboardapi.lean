/-! ===== both boards: laying, cells ===== -/
def sp_board (p x y : Int32) : Nat ⊕ Int32 := if p.toInt < 0 then .inl 4 else if 4 < p.toInt then .inl 6 else if bd_isc p.toNatClampNeg x y = true then .inr (nI (bd_n p.toNatClampNeg)) else .inl 1
def sp_piece (n hx hy : Nat) (x y : Int32) : Nat ⊕ Int32 := if bd_isc n x y = true then .inr (bd_v n hx hy x.toNatClampNeg y.toNatClampNeg) else .inl 1
set_option maxRecDepth 100000 in
set_option maxHeartbeats 4000000 in
theorem c_board {k b : Nat} {h : ab_H} {p x y : Int32} (hk : 8 ≤ k) (hC : at_C (ab_sh h) (ab_r h)) : ab_M k b mX11_board [.ref 5, .int p, .int x, .int y] h (ab_pi (ab_oK 37 (fun h' => ab_fr [6, 7, 8, 9, 10, 11] h h' ∧ bd_C p.toNatClampNeg x.toNatClampNeg y.toNatClampNeg 6 h') h (sp_board p x y))) := by
  refine ab_enter ?_
  refine ab_iload_n dX11_board_0 rfl ?_
  refine ab_if_ge 11 dX11_board_1 (by decide) (fun c_1 => ?_) (fun c_1 => ?_)
  · skip
    refine ab_iload_n dX11_board_11 rfl ?_
    refine ab_iconst (v := nI 4) dX11_board_12 (by decide) ?_
    refine ab_icmp_le 23 dX11_board_13 (by decide) (fun c_13 => ?_) (fun c_13 => ?_)
    · skip
      obtain ⟨n, rfl, hn31⟩ := ab_of0 c_1
      have hn : n ≤ 4 := by have q := (ab_Nle (n := 4) (by omega)).mp c_13; rw [nI_toInt hn31] at q; omega
      have hpw := bd_pow4 hn
      refine ab_iload_n dX11_board_23 rfl ?_
      refine ab_iload_n dX11_board_24 rfl ?_
      refine ab_iload_n dX11_board_25 rfl ?_
      refine ab_callSb [_, _, _] dX11_board_26 ml_X11_98 mk_X0_isCell (c_isCell (k := 0) (b := 0) hn) (fun t1 hh0 hq => ?_)
      obtain ⟨hhe, rfl⟩ := hq
      rw [hhe]
      refine ab_bif_ne 38 dX11_board_29 (by decide) (fun c_29 => ?_) (fun c_29 => ?_)
      · skip
        obtain ⟨X, Y, rfl, rfl, hX, hY, hX1, hY1⟩ := bd_isc_nat c_29
        refine ab_aload_n dX11_board_38 rfl ?_
        refine ab_getR dX11_board_39 fl_X11_10 hC.hs hC.p5_0 ?_
        refine ab_iload_n dX11_board_42 rfl ?_
        refine ab_iload_n dX11_board_43 rfl ?_
        refine ab_iload_n dX11_board_44 rfl ?_
        refine ab_callVv [_, _, _] dX11_board_45 ml_X11_62 mk_X0_cutAnew hC.board.1 (c_cutAnew (k := 7) (b := 0) (r := 6) (Nat.le_refl _) hC.board hn hX hY) (fun h1 hq => ?_)
        have hC1 := at_C.fr hq.1 hC
        refine ab_aload_n dX11_board_48 rfl ?_
        refine ab_getR dX11_board_49 fl_X11_10 hC1.hs hC1.p5_0 ?_
        refine ab_getI dX11_board_52 fl_X11_102 hC1.board.1 hq.2.f3 ?_
        refine ab_reti dX11_board_55 ?_
        exact ab_oK_ok (by unfold sp_board; rw [if_neg (by rw [nI_toInt hn31]; omega), if_neg (by rw [nI_toInt hn31]; omega), nI_clamp hn31]; rw [if_pos c_29]) (by rw [nI_clamp hn31, nI_clamp hX1, nI_clamp hY1]; exact hq)
      · skip
        refine ab_aload_n dX11_board_32 rfl ?_
        refine ab_iconst (v := -1) dX11_board_33 (by decide) ?_
        refine ab_callVi [_] dX11_board_34 ml_X11_66 mk_X11_refuse hC.hs (c_refuse (k := 0) (b := 0) (c := 1) hC (by decide) (by omega) (by omega)) (fun v1 hh1 hq => ?_)
        obtain ⟨hv, hh⟩ := hq
        refine ab_reti dX11_board_37 ?_
        exact ab_oK_no (by unfold sp_board; rw [if_neg (by rw [nI_toInt hn31]; omega), if_neg (by rw [nI_toInt hn31]; omega), nI_clamp hn31]; rw [if_neg (fun q => ab_tf q c_29)]) hv hh
    · skip
      refine ab_aload_n dX11_board_16 rfl ?_
      refine ab_bipush (v := -6) dX11_board_17 (by decide) ?_
      refine ab_callVi [_] dX11_board_19 ml_X11_66 mk_X11_refuse hC.hs (c_refuse (k := 0) (b := 0) (c := 6) hC (by decide) (by omega) (by omega)) (fun v1 hh1 hq => ?_)
      obtain ⟨hv, hh⟩ := hq
      refine ab_reti dX11_board_22 ?_
      exact ab_oK_no (by unfold sp_board; rw [if_neg (by have := ab_ge0.mp c_1; omega), if_pos (by have := mt (ab_Nle (n := 4) (by omega)).mpr c_13; omega)]) hv hh
  · skip
    refine ab_aload_n dX11_board_4 rfl ?_
    refine ab_bipush (v := -4) dX11_board_5 (by decide) ?_
    refine ab_callVi [_] dX11_board_7 ml_X11_66 mk_X11_refuse hC.hs (c_refuse (k := 0) (b := 0) (c := 4) hC (by decide) (by omega) (by omega)) (fun v1 hh1 hq => ?_)
    obtain ⟨hv, hh⟩ := hq
    refine ab_reti dX11_board_10 ?_
    exact ab_oK_no (by unfold sp_board; rw [if_pos (by have := mt ab_ge0.mpr c_1; omega)]) hv hh
set_option maxRecDepth 100000 in
set_option maxHeartbeats 4000000 in
theorem c_piece {k b n hx hy : Nat} {h : ab_H} {x y : Int32} (hk : 3 ≤ k) (hC : at_C (ab_sh h) (ab_r h)) (hD : bd_C n hx hy 6 h) : ab_M k b mX11_piece [.ref 5, .int x, .int y] h (ab_pi (ab_oI 37 [] h (sp_piece n hx hy x y))) := by
  refine ab_enter ?_
  refine ab_aload_n dX11_piece_0 rfl ?_
  refine ab_getR dX11_piece_1 fl_X11_10 hC.hs hC.p5_0 ?_
  refine ab_iload_n dX11_piece_4 rfl ?_
  refine ab_iload_n dX11_piece_5 rfl ?_
  refine ab_callVb [_, _] dX11_piece_6 ml_X11_105 mk_X0_has hC.board.1 (c_has (k := 1) (b := 0) (by omega) hC.board hD.f0 hD.n4) (fun t1 hh0 hq => ?_)
  obtain ⟨hhe, rfl⟩ := hq
  rw [hhe]
  refine ab_bif_ne 18 dX11_piece_9 (by decide) (fun c_9 => ?_) (fun c_9 => ?_)
  · skip
    refine ab_aload_n dX11_piece_18 rfl ?_
    refine ab_getR dX11_piece_19 fl_X11_10 hC.hs hC.p5_0 ?_
    refine ab_iload_n dX11_piece_22 rfl ?_
    refine ab_iload_n dX11_piece_23 rfl ?_
    refine ab_callVi [_, _] dX11_piece_24 ml_X11_109 mk_X0_pieceAt hC.board.1 (c_pieceAt (k := 2) (b := 0) (by omega) hC.board hD) (fun v2 hh2 hq => ?_)
    obtain ⟨hhe, rfl⟩ := hq
    rw [hhe]
    refine ab_reti dX11_piece_27 ?_
    exact ab_oI_ok (by unfold sp_piece bd_at; rw [if_pos c_9, if_pos c_9]) (ab_fr.rf h)
  · skip
    refine ab_aload_n dX11_piece_12 rfl ?_
    refine ab_iconst (v := -1) dX11_piece_13 (by decide) ?_
    refine ab_callVi [_] dX11_piece_14 ml_X11_66 mk_X11_refuse hC.hs (c_refuse (k := 0) (b := 0) (c := 1) hC (by decide) (by omega) (by omega)) (fun v1 hh1 hq => ?_)
    obtain ⟨hv, hh⟩ := hq
    refine ab_reti dX11_piece_17 ?_
    exact ab_oI_no (by unfold sp_piece; rw [if_neg (fun q => ab_tf q c_9)]) hv hh
