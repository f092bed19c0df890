/-! ===== the model's board: pieces ===== -/
set_option maxRecDepth 100000 in
set_option maxHeartbeats 4000000 in
theorem m_pieces {k b n hx hy : Nat} {h : ab_H} {x : Int32} (hk : 2 ≤ k) (hM : at_M (ab_sh h) (ab_r h)) (hD : bd_Mo n hx hy h) : ab_M k b mX12_pieces [.ref 50, .int x] h (ab_pi (ab_oI 51 [] h (sp_pieces n hx hy x))) := by
  refine ab_enter ?_
  refine ab_iload_n dX12_pieces_0 rfl ?_
  refine ab_i2l dX12_pieces_1 ?_
  refine ab_ldc2 dX12_pieces_2 kc_X12_162 ?_
  refine ab_ldc2 dX12_pieces_5 kc_X12_164 ?_
  refine ab_callSb [_, _, _] dX12_pieces_8 ml_X12_123 mk_X12_isIn (m_isIn (k := 0) (b := 0) (Int32.toInt_toInt64 _) (lo := 10) (by decide) (hi := 13) (by decide)) (fun t1 hh0 hq => ?_)
  obtain ⟨hhe, rfl⟩ := hq
  rw [hhe]
  refine ab_bif_eq 23 dX12_pieces_11 (by decide) (fun c_11 => ?_) (fun c_11 => ?_)
  · skip
    refine ab_iload_n dX12_pieces_23 rfl ?_
    refine ab_if_ne 34 dX12_pieces_24 (by decide) (fun c_24 => ?_) (fun c_24 => ?_)
    · replace c_24 : ¬ x = nI 0 := c_24
      refine ab_iload_n dX12_pieces_34 rfl ?_
      refine ab_iconst (v := nI 1) dX12_pieces_35 (by decide) ?_
      refine ab_icmp_ne 46 dX12_pieces_36 (by decide) (fun c_36 => ?_) (fun c_36 => ?_)
      · skip
        refine ab_aload_n dX12_pieces_46 rfl ?_
        refine ab_bipush (v := -2) dX12_pieces_47 (by decide) ?_
        refine ab_callVi [_] dX12_pieces_49 ml_X12_9 mk_X12_refused hM.hs (m_refused (k := 0) (b := 0) (c := 2) hM (by decide) (by omega) (by omega)) (fun v1 hh1 hq => ?_)
        obtain ⟨hv, hh⟩ := hq
        refine ab_reti dX12_pieces_52 ?_
        first | exact ab_oI_ok (by unfold sp_pieces; rw [if_pos c_24]) (ab_fr.rf h) | exact ab_oI_ok (by unfold sp_pieces; rw [if_neg c_24, if_pos c_36]) (ab_fr.rf h) | exact ab_oI_no (by unfold sp_pieces; rw [if_neg c_24, if_neg c_36, if_neg (fun q : ab_inr 10 13 x = true => ab_tf q c_11)]) hv hh
      · skip
        refine ab_aload_n dX12_pieces_39 rfl ?_
        refine ab_callVn [] dX12_pieces_40 ml_X12_169 mk_X12_edge hM.hs (m_edge (k := 1) (b := 0) (Nat.le_refl _) hM hD) (fun x h1 hq => ?_)
        obtain ⟨hhe, rfl⟩ := hq
        rw [hhe]
        refine ab_goto 52 dX12_pieces_43 (by decide) ?_
        refine ab_reti dX12_pieces_52 ?_
        first | exact ab_oI_ok (by unfold sp_pieces; rw [if_pos c_24]) (ab_fr.rf h) | exact ab_oI_ok (by unfold sp_pieces; rw [if_neg c_24, if_pos c_36]) (ab_fr.rf h) | exact ab_oI_no (by unfold sp_pieces; rw [if_neg c_24, if_neg c_36, if_neg (fun q : ab_inr 10 13 x = true => ab_tf q c_11)]) hv hh
    · replace c_24 : x = nI 0 := c_24
      refine ab_aload_n dX12_pieces_27 rfl ?_
      refine ab_getI dX12_pieces_28 fl_X12_133 hM.hs hD.f4 ?_
      refine ab_goto 52 dX12_pieces_31 (by decide) ?_
      refine ab_reti dX12_pieces_52 ?_
      first | exact ab_oI_ok (by unfold sp_pieces; rw [if_pos c_24]) (ab_fr.rf h) | exact ab_oI_ok (by unfold sp_pieces; rw [if_neg c_24, if_pos c_36]) (ab_fr.rf h) | exact ab_oI_no (by unfold sp_pieces; rw [if_neg c_24, if_neg c_36, if_neg (fun q : ab_inr 10 13 x = true => ab_tf q c_11)]) hv hh
  · skip
    have hin : ab_inr 10 13 x = true := c_11
    obtain ⟨w, hw, hw4, hwx, hn0, hn1⟩ := bd_inr13 hin
    refine ab_aload_n dX12_pieces_14 rfl ?_
    refine ab_iload_n dX12_pieces_15 rfl ?_
    refine ab_bipush (v := nI 10) dX12_pieces_16 (by decide) ?_
    refine ab_isub dX12_pieces_18 ?_
    rw [hw]
    refine ab_callVn [_] dX12_pieces_19 ml_X12_166 mk_X12_inWay hM.hs (m_inWay (k := 0) (b := 0) hM hD hw4) (fun x h1 hq => ?_)
    obtain ⟨hhe, rfl⟩ := hq
    rw [hhe]
    refine ab_reti dX12_pieces_22 ?_
    exact ab_oI_ok (by unfold sp_pieces; rw [if_neg hn0, if_neg hn1, if_pos hin, hwx]) (ab_fr.rf h)
