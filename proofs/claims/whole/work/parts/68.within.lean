/-! ===== both boards: within, pieces ===== -/
noncomputable def sp_within (n hx hy : Nat) (x1 x2 y1 y2 : Int32) : Nat ⊕ Int32 := if bd_isc n x1 y1 = true ∧ bd_isc n x2 y2 = true then .inr (nI (bd_num (fun i => bd_win x1.toInt x2.toInt y1.toInt y2.toInt (bd_P n hx hy i)) (bd_n n))) else .inl 1
noncomputable def sp_pieces (n hx hy : Nat) (x : Int32) : Nat ⊕ Int32 := if x = nI 0 then .inr (nI (bd_n n)) else if x = nI 1 then .inr (nI (bd_n n - bd_num (bd_inside n hx hy) (bd_n n))) else if ab_inr 10 13 x = true then .inr (nI (bd_num (fun i => (bd_P n hx hy i).1 = x.toNatClampNeg - 10) (bd_n n))) else .inl 2
set_option maxRecDepth 100000 in
set_option maxHeartbeats 4000000 in
theorem c_within {k b n hx hy : Nat} {h : ab_H} {x1 x2 y1 y2 : Int32} (hk : 2 ≤ k) (hC : at_C (ab_sh h) (ab_r h)) (hD : bd_C n hx hy 6 h) : ab_M k b mX11_within [.ref 5, .int x1, .int x2, .int y1, .int y2] h (ab_pi (ab_oI 37 [] h (sp_within n hx hy x1 x2 y1 y2))) := by
  refine ab_enter ?_
  refine ab_aload_n dX11_within_0 rfl ?_
  refine ab_getR dX11_within_1 fl_X11_10 hC.hs hC.p5_0 ?_
  refine ab_iload_n dX11_within_4 rfl ?_
  refine ab_iload_n dX11_within_5 rfl ?_
  refine ab_callVb [_, _] dX11_within_6 ml_X11_105 mk_X0_has hC.board.1 (c_has (k := 1) (b := 0) (by omega) hC.board hD.f0 hD.n4) (fun t1 hh0 hq => ?_)
  obtain ⟨hhe, rfl⟩ := hq
  rw [hhe]
  refine ab_bif_eq 25 dX11_within_9 (by decide) (fun c_9 => ?_) (fun c_9 => ?_)
  · skip
    refine ab_aload_n dX11_within_25 rfl ?_
    refine ab_iconst (v := -1) dX11_within_26 (by decide) ?_
    refine ab_callVi [_] dX11_within_27 ml_X11_66 mk_X11_refuse hC.hs (c_refuse (k := 0) (b := 0) (c := 1) hC (by decide) (by omega) (by omega)) (fun v1 hh1 hq => ?_)
    obtain ⟨hv, hh⟩ := hq
    refine ab_reti dX11_within_30 ?_
    exact ab_oI_no (by unfold sp_within; rw [if_neg (fun q => by first | exact ab_tf q.1 c_9 | exact ab_tf q.2 c_22)]) hv hh
  · skip
    refine ab_aload_n dX11_within_12 rfl ?_
    refine ab_getR dX11_within_13 fl_X11_10 hC.hs hC.p5_0 ?_
    refine ab_iload_n dX11_within_16 rfl ?_
    refine ab_iload dX11_within_17 rfl ?_
    refine ab_callVb [_, _] dX11_within_19 ml_X11_105 mk_X0_has hC.board.1 (c_has (k := 1) (b := 0) (by omega) hC.board hD.f0 hD.n4) (fun t2 hh2 hq => ?_)
    obtain ⟨hhe, rfl⟩ := hq
    rw [hhe]
    refine ab_bif_ne 31 dX11_within_22 (by decide) (fun c_22 => ?_) (fun c_22 => ?_)
    · skip
      refine ab_aload_n dX11_within_31 rfl ?_
      refine ab_getR dX11_within_32 fl_X11_10 hC.hs hC.p5_0 ?_
      refine ab_iload_n dX11_within_35 rfl ?_
      refine ab_iload_n dX11_within_36 rfl ?_
      refine ab_iload_n dX11_within_37 rfl ?_
      refine ab_iload dX11_within_38 rfl ?_
      refine ab_callVn [_, _, _, _] dX11_within_40 ml_X11_132 mk_X0_inWindow hC.board.1 (c_inWindow (k := 0) (b := 0) hC.board hD) (fun x h1 hq => ?_)
      obtain ⟨hhe, rfl⟩ := hq
      rw [hhe]
      refine ab_reti dX11_within_43 ?_
      exact ab_oI_ok (by unfold sp_within; rw [if_pos ⟨c_9, c_22⟩]) (ab_fr.rf h)
    · skip
      refine ab_aload_n dX11_within_25 rfl ?_
      refine ab_iconst (v := -1) dX11_within_26 (by decide) ?_
      refine ab_callVi [_] dX11_within_27 ml_X11_66 mk_X11_refuse hC.hs (c_refuse (k := 0) (b := 0) (c := 1) hC (by decide) (by omega) (by omega)) (fun v1 hh1 hq => ?_)
      obtain ⟨hv, hh⟩ := hq
      refine ab_reti dX11_within_30 ?_
      exact ab_oI_no (by unfold sp_within; rw [if_neg (fun q => by first | exact ab_tf q.1 c_9 | exact ab_tf q.2 c_22)]) hv hh
