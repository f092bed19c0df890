/-! ===== both boards: pieces ===== -/
theorem bd_sub10 {x : Int32} (h : 10 ≤ x.toInt) : (x - nI 10).toInt = x.toInt - 10 := by
  have h1 := Int32.toInt_lt x
  rw [Int32.toInt_sub, nI_toInt (by decide)]
  exact Int.bmod_eq_of_le (by simp; omega) (by simp; omega)
theorem bd_way10 {x : Int32} (h : 10 ≤ x.toInt) : ab_inr 0 3 (x - nI 10) = ab_inr 10 13 x := by
  unfold ab_inr
  rw [bd_sub10 h]
  exact decide_eq_decide.mpr (by omega)
theorem bd_inr13 {x : Int32} (h : ab_inr 10 13 x = true) : ∃ w, x - nI 10 = nI w ∧ w < 4 ∧ x.toNatClampNeg - 10 = w ∧ ¬ x = nI 0 ∧ ¬ x = nI 1 := by
  have q := of_decide_eq_true h
  obtain ⟨i, rfl, hi⟩ := ab_of0 (x := x) (ab_ge0.mpr (by omega))
  rw [nI_toInt hi] at q
  refine ⟨i - 10, ?_, by omega, by rw [nI_clamp hi], fun e => ?_, fun e => ?_⟩
  · rw [← Int32.toInt_inj, bd_sub10 (by rw [nI_toInt hi]; omega), nI_toInt hi, nI_toInt (by omega)]; omega
  · have := (ab_ninj hi (by omega)).mp e; omega
  · have := (ab_ninj hi (by omega)).mp e; omega
set_option maxRecDepth 100000 in
set_option maxHeartbeats 4000000 in
theorem c_pieces {k b n hx hy : Nat} {h : ab_H} {x : Int32} (hk : 2 ≤ k) (hC : at_C (ab_sh h) (ab_r h)) (hD : bd_C n hx hy 6 h) : ab_M k b mX11_pieces [.ref 5, .int x] h (ab_pi (ab_oI 37 [] h (sp_pieces n hx hy x))) := by
  refine ab_enter ?_
  refine ab_iload_n dX11_pieces_0 rfl ?_
  refine ab_if_ne 12 dX11_pieces_1 (by decide) (fun c_1 => ?_) (fun c_1 => ?_)
  · replace c_1 : ¬ x = nI 0 := c_1
    refine ab_iload_n dX11_pieces_12 rfl ?_
    refine ab_iconst (v := nI 1) dX11_pieces_13 (by decide) ?_
    refine ab_icmp_ne 25 dX11_pieces_14 (by decide) (fun c_14 => ?_) (fun c_14 => ?_)
    · skip
      refine ab_iload_n dX11_pieces_25 rfl ?_
      refine ab_bipush (v := nI 10) dX11_pieces_26 (by decide) ?_
      refine ab_icmp_lt 53 dX11_pieces_28 (by decide) (fun c_28 => ?_) (fun c_28 => ?_)
      · skip
        refine ab_aload_n dX11_pieces_53 rfl ?_
        refine ab_bipush (v := -2) dX11_pieces_54 (by decide) ?_
        refine ab_callVi [_] dX11_pieces_56 ml_X11_66 mk_X11_refuse hC.hs (c_refuse (k := 0) (b := 0) (c := 2) hC (by decide) (by omega) (by omega)) (fun v1 hh1 hq => ?_)
        obtain ⟨hv, hh⟩ := hq
        refine ab_reti dX11_pieces_59 ?_
        exact ab_oI_no (by unfold sp_pieces; rw [if_neg c_1, if_neg c_14, if_neg (fun q => by first | exact ab_tf q c_38 | (have q := of_decide_eq_true q; have := (ab_Nlt (n := 10) (by omega)).mp c_28; omega))]) hv hh
      · have c10 := Int.not_lt.mp (mt (ab_Nlt (n := 10) (by omega)).mpr c_28)
        refine ab_iload_n dX11_pieces_31 rfl ?_
        refine ab_bipush (v := nI 10) dX11_pieces_32 (by decide) ?_
        refine ab_isub dX11_pieces_34 ?_
        refine ab_callSb [_] dX11_pieces_35 ml_X11_139 mk_X11_isWay (c_isWay (k := 0) (b := 0)) (fun t1 hh0 hq => ?_)
        obtain ⟨hhe, rfl⟩ := hq
        rw [hhe]
        rw [bd_way10 c10]
        refine ab_bif_eq 53 dX11_pieces_38 (by decide) (fun c_38 => ?_) (fun c_38 => ?_)
        · skip
          refine ab_aload_n dX11_pieces_53 rfl ?_
          refine ab_bipush (v := -2) dX11_pieces_54 (by decide) ?_
          refine ab_callVi [_] dX11_pieces_56 ml_X11_66 mk_X11_refuse hC.hs (c_refuse (k := 0) (b := 0) (c := 2) hC (by decide) (by omega) (by omega)) (fun v1 hh1 hq => ?_)
          obtain ⟨hv, hh⟩ := hq
          refine ab_reti dX11_pieces_59 ?_
          exact ab_oI_no (by unfold sp_pieces; rw [if_neg c_1, if_neg c_14, if_neg (fun q => by first | exact ab_tf q c_38 | (have q := of_decide_eq_true q; have := (ab_Nlt (n := 10) (by omega)).mp c_28; omega))]) hv hh
        · skip
          obtain ⟨w, hw, hw4, hwx, -, -⟩ := bd_inr13 c_38
          refine ab_aload_n dX11_pieces_41 rfl ?_
          refine ab_getR dX11_pieces_42 fl_X11_10 hC.hs hC.p5_0 ?_
          refine ab_iload_n dX11_pieces_45 rfl ?_
          refine ab_bipush (v := nI 10) dX11_pieces_46 (by decide) ?_
          refine ab_isub dX11_pieces_48 ?_
          rw [hw]
          refine ab_callVn [_] dX11_pieces_49 ml_X11_142 mk_X0_lyingIn hC.board.1 (c_lyingIn (k := 0) (b := 0) hC.board hD hw4) (fun x h1 hq => ?_)
          obtain ⟨hhe, rfl⟩ := hq
          rw [hhe]
          refine ab_reti dX11_pieces_52 ?_
          exact ab_oI_ok (by unfold sp_pieces; rw [if_neg c_1, if_neg c_14, if_pos c_38, hwx]) (ab_fr.rf h)
    · skip
      refine ab_aload_n dX11_pieces_17 rfl ?_
      refine ab_getR dX11_pieces_18 fl_X11_10 hC.hs hC.p5_0 ?_
      refine ab_callVn [] dX11_pieces_21 ml_X11_136 mk_X0_atBorder hC.board.1 (c_atBorder (k := 1) (b := 0) (Nat.le_refl _) hC.board hD) (fun x h1 hq => ?_)
      obtain ⟨hhe, rfl⟩ := hq
      rw [hhe]
      refine ab_reti dX11_pieces_24 ?_
      exact ab_oI_ok (by unfold sp_pieces; rw [if_neg c_1, if_pos c_14]) (ab_fr.rf h)
  · replace c_1 : x = nI 0 := c_1
    refine ab_aload_n dX11_pieces_4 rfl ?_
    refine ab_getR dX11_pieces_5 fl_X11_10 hC.hs hC.p5_0 ?_
    refine ab_getI dX11_pieces_8 fl_X11_102 hC.board.1 hD.f3 ?_
    refine ab_reti dX11_pieces_11 ?_
    exact ab_oI_ok (by unfold sp_pieces; rw [if_pos c_1]) (ab_fr.rf h)
