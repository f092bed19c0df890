/-! ===== the model's board: laying, cells ===== -/
set_option maxRecDepth 100000 in
set_option maxHeartbeats 4000000 in
theorem m_board {k b : Nat} {h : ab_H} {p x y : Int32} (hk : 6 ≤ k) (hM : at_M (ab_sh h) (ab_r h)) : ab_M k b mX12_board [.ref 50, .int p, .int x, .int y] h (ab_pi (ab_oK 51 (fun h' => ab_fr [50, 52, 53, 54, 55, 56] h h' ∧ bd_Mo p.toNatClampNeg x.toNatClampNeg y.toNatClampNeg h') h (sp_board p x y))) := by
  refine ab_enter ?_
  refine ab_iload_n dX12_board_0 rfl ?_
  refine ab_if_ge 11 dX12_board_1 (by decide) (fun c_1 => ?_) (fun c_1 => ?_)
  · skip
    refine ab_iload_n dX12_board_11 rfl ?_
    refine ab_iconst (v := nI 4) dX12_board_12 (by decide) ?_
    refine ab_icmp_le 23 dX12_board_13 (by decide) (fun c_13 => ?_) (fun c_13 => ?_)
    · skip
      obtain ⟨n, rfl, hn31⟩ := ab_of0 c_1
      have hn : n ≤ 4 := by have q := (ab_Nle (n := 4) (by omega)).mp c_13; rw [nI_toInt hn31] at q; omega
      have hpw := bd_pow4 hn
      refine ab_iload_n dX12_board_23 rfl ?_
      refine ab_i2l dX12_board_24 ?_
      refine ab_lconst (v := 0) dX12_board_25 (by decide) ?_
      refine ab_iconst (v := nI 1) dX12_board_26 (by decide) ?_
      refine ab_iload_n dX12_board_27 rfl ?_
      refine ab_nshlR dX12_board_28 (by omega) ?_
      rw [ab_1shl]
      refine ab_iconst (v := nI 1) dX12_board_29 (by decide) ?_
      refine ab_nsubR dX12_board_30 (bd_pos n) ?_
      refine ab_i2l dX12_board_31 ?_
      refine ab_callSb [_, _, _] dX12_board_32 ml_X12_123 mk_X12_isIn (m_isIn (k := 0) (b := 0) (Int32.toInt_toInt64 _) (lo := 0) (by decide) (bd_side64 n hn)) (fun t1 hh_t1 hq_t1 => ?_)
      obtain ⟨hhe_t1, rfl⟩ := hq_t1
      rw [hhe_t1]
      refine ab_bif_eq 53 dX12_board_35 (by decide) (fun c_35 => ?_) (fun c_35 => ?_)
      · skip
        refine ab_aload_n dX12_board_53 rfl ?_
        refine ab_iconst (v := -1) dX12_board_54 (by decide) ?_
        refine ab_callVi [_] dX12_board_55 ml_X12_9 mk_X12_refused hM.hs (m_refused (k := 0) (b := 0) (c := 1) hM (by decide) (by omega) (by omega)) (fun v1 hh1 hq => ?_)
        obtain ⟨hv, hh⟩ := hq
        refine ab_reti dX12_board_58 ?_
        exact ab_oK_no (by unfold sp_board; rw [if_neg (by rw [nI_toInt hn31]; omega), if_neg (by rw [nI_toInt hn31]; omega), nI_clamp hn31]; rw [if_neg (fun q => by unfold bd_isc ab_inr at q; rw [Bool.and_eq_true] at q; first | exact ab_tf q.1 c_35 | exact ab_tf q.2 c_50)]) hv hh
      · skip
        refine ab_iload_n dX12_board_38 rfl ?_
        refine ab_i2l dX12_board_39 ?_
        refine ab_lconst (v := 0) dX12_board_40 (by decide) ?_
        refine ab_iconst (v := nI 1) dX12_board_41 (by decide) ?_
        refine ab_iload_n dX12_board_42 rfl ?_
        refine ab_nshlR dX12_board_43 (by omega) ?_
        rw [ab_1shl]
        refine ab_iconst (v := nI 1) dX12_board_44 (by decide) ?_
        refine ab_nsubR dX12_board_45 (bd_pos n) ?_
        refine ab_i2l dX12_board_46 ?_
        refine ab_callSb [_, _, _] dX12_board_47 ml_X12_123 mk_X12_isIn (m_isIn (k := 0) (b := 0) (Int32.toInt_toInt64 _) (lo := 0) (by decide) (bd_side64 n hn)) (fun t2 hh_t2 hq_t2 => ?_)
        obtain ⟨hhe_t2, rfl⟩ := hq_t2
        rw [hhe_t2]
        refine ab_bif_ne 59 dX12_board_50 (by decide) (fun c_50 => ?_) (fun c_50 => ?_)
        · skip
          have hin : bd_isc n x y = true := by unfold bd_isc ab_inr; rw [Bool.and_eq_true]; exact ⟨c_35, c_50⟩
          clear c_35 c_50
          obtain ⟨X, Y, rfl, rfl, hX, hY, hX1, hY1⟩ := bd_isc_nat hin
          refine ab_aload_n dX12_board_59 rfl ?_
          refine ab_iload_n dX12_board_60 rfl ?_
          refine ab_iload_n dX12_board_61 rfl ?_
          refine ab_iload_n dX12_board_62 rfl ?_
          refine ab_callVv [_, _, _] dX12_board_63 ml_X12_112 mk_X12_lays hM.hs (m_lays (k := 5) (b := 0) (Nat.le_refl _) hM hn hX hY) (fun h1 hq => ?_)
          have hM1 := at_M.fr hq.1 hM
          refine ab_aload_n dX12_board_66 rfl ?_
          refine ab_getI dX12_board_67 fl_X12_133 hM1.hs hq.2.f4 ?_
          refine ab_reti dX12_board_70 ?_
          exact ab_oK_ok (by unfold sp_board; rw [if_neg (by rw [nI_toInt hn31]; omega), if_neg (by rw [nI_toInt hn31]; omega), nI_clamp hn31]; rw [if_pos hin]) (by rw [nI_clamp hn31, nI_clamp hX1, nI_clamp hY1]; exact hq)
        · skip
          refine ab_aload_n dX12_board_53 rfl ?_
          refine ab_iconst (v := -1) dX12_board_54 (by decide) ?_
          refine ab_callVi [_] dX12_board_55 ml_X12_9 mk_X12_refused hM.hs (m_refused (k := 0) (b := 0) (c := 1) hM (by decide) (by omega) (by omega)) (fun v1 hh1 hq => ?_)
          obtain ⟨hv, hh⟩ := hq
          refine ab_reti dX12_board_58 ?_
          exact ab_oK_no (by unfold sp_board; rw [if_neg (by rw [nI_toInt hn31]; omega), if_neg (by rw [nI_toInt hn31]; omega), nI_clamp hn31]; rw [if_neg (fun q => by unfold bd_isc ab_inr at q; rw [Bool.and_eq_true] at q; first | exact ab_tf q.1 c_35 | exact ab_tf q.2 c_50)]) hv hh
    · skip
      refine ab_aload_n dX12_board_16 rfl ?_
      refine ab_bipush (v := -6) dX12_board_17 (by decide) ?_
      refine ab_callVi [_] dX12_board_19 ml_X12_9 mk_X12_refused hM.hs (m_refused (k := 0) (b := 0) (c := 6) hM (by decide) (by omega) (by omega)) (fun v1 hh1 hq => ?_)
      obtain ⟨hv, hh⟩ := hq
      refine ab_reti dX12_board_22 ?_
      exact ab_oK_no (by unfold sp_board; rw [if_neg (by have := ab_ge0.mp c_1; omega), if_pos (by have := mt (ab_Nle (n := 4) (by omega)).mpr c_13; omega)]) hv hh
  · skip
    refine ab_aload_n dX12_board_4 rfl ?_
    refine ab_bipush (v := -4) dX12_board_5 (by decide) ?_
    refine ab_callVi [_] dX12_board_7 ml_X12_9 mk_X12_refused hM.hs (m_refused (k := 0) (b := 0) (c := 4) hM (by decide) (by omega) (by omega)) (fun v1 hh1 hq => ?_)
    obtain ⟨hv, hh⟩ := hq
    refine ab_reti dX12_board_10 ?_
    exact ab_oK_no (by unfold sp_board; rw [if_pos (by have := mt ab_ge0.mpr c_1; omega)]) hv hh
set_option maxRecDepth 100000 in
set_option maxHeartbeats 4000000 in
theorem m_piece {k b n hx hy : Nat} {h : ab_H} {x y : Int32} (hk : 2 ≤ k) (hM : at_M (ab_sh h) (ab_r h)) (hD : bd_Mo n hx hy h) : ab_M k b mX12_piece [.ref 50, .int x, .int y] h (ab_pi (ab_oI 51 [] h (sp_piece n hx hy x y))) := by
  refine ab_enter ?_
  refine ab_aload_n dX12_piece_0 rfl ?_
  refine ab_iload_n dX12_piece_1 rfl ?_
  refine ab_iload_n dX12_piece_2 rfl ?_
  refine ab_callVb [_, _] dX12_piece_3 ml_X12_140 mk_X12_isCell hM.hs (m_isCell (k := 1) (b := 0) (by omega) hM hD.f1 hD.n4) (fun t1 hh0 hq => ?_)
  obtain ⟨hhe, rfl⟩ := hq
  rw [hhe]
  refine ab_bif_eq 18 dX12_piece_6 (by decide) (fun c_6 => ?_) (fun c_6 => ?_)
  · skip
    refine ab_aload_n dX12_piece_18 rfl ?_
    refine ab_iconst (v := -1) dX12_piece_19 (by decide) ?_
    refine ab_callVi [_] dX12_piece_20 ml_X12_9 mk_X12_refused hM.hs (m_refused (k := 0) (b := 0) (c := 1) hM (by decide) (by omega) (by omega)) (fun v1 hh1 hq => ?_)
    obtain ⟨hv, hh⟩ := hq
    refine ab_reti dX12_piece_23 ?_
    first | exact ab_oI_no (by unfold sp_piece; rw [if_neg (fun q => ab_tf q c_6)]) hv hh | exact ab_oI_ok (by unfold sp_piece; rw [if_pos c_6, nI_clamp hX1, nI_clamp hY1]) (ab_fr.rf h)
  · skip
    obtain ⟨X, Y, rfl, rfl, hX, hY, hX1, hY1⟩ := bd_isc_nat c_6
    refine ab_aload_n dX12_piece_9 rfl ?_
    refine ab_iload_n dX12_piece_10 rfl ?_
    refine ab_iload_n dX12_piece_11 rfl ?_
    refine ab_callVi [_, _] dX12_piece_12 ml_X12_144 mk_X12_cell hM.hs (m_cell (k := 0) (b := 0) hM hD hX hY) (fun x h1 hq => ?_)
    obtain ⟨hhe, rfl⟩ := hq
    rw [hhe]
    refine ab_goto 23 dX12_piece_15 (by decide) ?_
    refine ab_reti dX12_piece_23 ?_
    first | exact ab_oI_no (by unfold sp_piece; rw [if_neg (fun q => ab_tf q c_6)]) hv hh | exact ab_oI_ok (by unfold sp_piece; rw [if_pos c_6, nI_clamp hX1, nI_clamp hY1]) (ab_fr.rf h)
