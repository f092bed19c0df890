/-! ===== points and triangles: what the calls answer ===== -/
def sp_point (s : sS) (x y : Int32) : Nat ⊕ Int32 := if x.toInt < 0 ∨ y.toInt < 0 ∨ x.toNatClampNeg % 100 = 0 ∨ y.toNatClampNeg % 100 = 0 then .inl 4 else if 9999 < x.toInt ∨ 9999 < y.toInt ∨ s.1 = 10 then .inl 6 else .inr (nI s.1)
def colV (P : Nat × Nat) : Nat → Int32
  | 0 => nI (sd false P)
  | 1 => nI 100 + iI (vQ (pq P.1))
  | _ => nI 100 + iI (vQ (pq P.2))
def sp_colour (s : sS) (x w : Int32) : Nat ⊕ Int32 := if ab_inr 0 ((s.1 : Int) - 1) x = true then (if ab_inr 0 2 w = true then .inr (colV (s.2.1 x.toNatClampNeg) w.toNatClampNeg) else .inl 2) else .inl 1
noncomputable def sp_triangle (s : sS) (k a b c : Int32) : Nat ⊕ Int32 := if ab_inr 0 5 k = true then (if @decide (th s.1 a b c) (Classical.propDecidable _) = true then (if s.2.2.1 = 10 then .inl 6 else .inr (nI s.2.2.1)) else .inl 1) else .inl 2
def triV (s : sS) (i : Nat) : Nat → Int32
  | 0 => nI (s.2.2.2 i).1
  | 1 => nI (s.2.2.2 i).2.1
  | 2 => nI (s.2.2.2 i).2.2.1
  | 3 => nI (s.2.2.2 i).2.2.2
  | 4 => nI (sC s i)
  | 5 => nI (decide (sC s i = 7)).toNat
  | _ => nI 100 + iI (vQ (sA s i))
def sp_tri (s : sS) (x w : Int32) : Nat ⊕ Int32 := if ab_inr 0 ((s.2.2.1 : Int) - 1) x = true then (if ab_inr 0 6 w = true then .inr (triV s x.toNatClampNeg w.toNatClampNeg) else .inl 2) else .inl 1
def sp_area (s : sS) (x p : Int32) : Nat ⊕ Int64 := if ab_inr 0 ((s.2.2.1 : Int) - 1) x = true then (if ab_inr 0 1 p = true then .inr (if p = 0 then zI (sA s x.toNatClampNeg).1 else zI ((sA s x.toNatClampNeg).2 : Int)) else .inl 2) else .inl 1
def evV (s : sS) (n : Nat) : Nat → Int32
  | 0 => nI (sOr (pE s n) s.2.2.1)
  | 1 => nI (sOr (pR s n) s.2.2.1)
  | _ => nI (al s n s.2.2.1).2.toNat
def sp_even (s : sS) (x w : Int32) : Nat ⊕ Int32 := if st_in s.2.2.1 x = true then (if ab_inr 0 2 w = true then .inr (evV s x.toNatClampNeg w.toNatClampNeg) else .inl 2) else .inl 1
theorem ab_out {n : Nat} {x : Int32} (h : x.toInt < 0 ∨ (n : Int) < x.toInt) : ¬ ab_inr 0 n x = true := fun q => ab_tf q (ab_inr_no h)
theorem th_nat {n : Nat} {x y z : Int32} (hn : n ≤ 10) (h : th n x y z) : ∃ a b c, x = nI a ∧ y = nI b ∧ z = nI c ∧ a < n ∧ b < n ∧ c < n := by
  obtain ⟨a, e1, ha, -⟩ := bd_inr_n (by omega) h.1
  obtain ⟨b, e2, hb, -⟩ := bd_inr_n (by omega) h.2.1
  obtain ⟨c, e3, hc, -⟩ := bd_inr_n (by omega) h.2.2.1
  exact ⟨a, b, c, e1, e2, e3, ha, hb, hc⟩
set_option maxRecDepth 100000 in
set_option maxHeartbeats 4000000 in
theorem c_point {k b : Nat} {h : ab_H} {s : sS} {x y : Int32} (hk : 5 ≤ k) (hb1 : 3 ≤ b) (hb : ab_bs h) (hC : at_C (ab_sh h) (ab_r h)) (hD : sh_C 19 s h) : ab_M k b mX11_point [.ref 5, .int x, .int y] h (ab_pi (ab_oX 37 (ab_gr [] [] h) (fun h' => ab_gr [19] [20] h h' ∧ sh_C 19 (sP s x.toNatClampNeg y.toNatClampNeg) h') (sp_point s x y))) := by
  have h10 := hD.W.1
  refine ab_enter ?_
  refine ab_iload_n dX11_point_0 rfl ?_
  refine ab_if_lt 22 dX11_point_1 (by decide) (fun c_1 => ?_) (fun c_1 => ?_)
  · skip
    refine ab_aload_n dX11_point_22 rfl ?_
    refine ab_bipush (v := -4) dX11_point_23 (by decide) ?_
    refine ab_callVi [_] dX11_point_25 ml_X11_66 mk_X11_refuse hC.hs (c_refuse (k := 0) (b := 0) (c := 4) hC (by decide) (by omega) (by omega)) (fun v1 hh1 hq => ?_)
    obtain ⟨hv, hh⟩ := hq
    refine ab_reti dX11_point_28 ?_
    exact ab_oX_no (by unfold sp_point; rw [if_pos (by first | exact Or.inl (ab_lt0.mp c_1) | exact Or.inr (Or.inl (ab_lt0.mp c_5)) | (rw [nI_clamp hx9, nI_clamp hy9]; first | exact Or.inr (Or.inr (Or.inl c_12)) | exact Or.inr (Or.inr (Or.inr c_19))))]) (ab_gr.rf h) hv hh
  · skip
    refine ab_iload_n dX11_point_4 rfl ?_
    refine ab_if_lt 22 dX11_point_5 (by decide) (fun c_5 => ?_) (fun c_5 => ?_)
    · skip
      refine ab_aload_n dX11_point_22 rfl ?_
      refine ab_bipush (v := -4) dX11_point_23 (by decide) ?_
      refine ab_callVi [_] dX11_point_25 ml_X11_66 mk_X11_refuse hC.hs (c_refuse (k := 0) (b := 0) (c := 4) hC (by decide) (by omega) (by omega)) (fun v1 hh1 hq => ?_)
      obtain ⟨hv, hh⟩ := hq
      refine ab_reti dX11_point_28 ?_
      exact ab_oX_no (by unfold sp_point; rw [if_pos (by first | exact Or.inl (ab_lt0.mp c_1) | exact Or.inr (Or.inl (ab_lt0.mp c_5)) | (rw [nI_clamp hx9, nI_clamp hy9]; first | exact Or.inr (Or.inr (Or.inl c_12)) | exact Or.inr (Or.inr (Or.inr c_19))))]) (ab_gr.rf h) hv hh
    · skip
      obtain ⟨X, rfl, hx9⟩ := ab_of0 (Int32.not_lt.mp c_1)
      obtain ⟨Y, rfl, hy9⟩ := ab_of0 (Int32.not_lt.mp c_5)
      refine ab_iload_n dX11_point_8 rfl ?_
      refine ab_bipush (v := nI 100) dX11_point_9 (by decide) ?_
      refine ab_nremR dX11_point_11 hx9 (by omega) (by omega) ?_
      refine ab_nif_eq 22 dX11_point_12 (by decide) (by omega) (fun c_12 => ?_) (fun c_12 => ?_)
      · skip
        refine ab_aload_n dX11_point_22 rfl ?_
        refine ab_bipush (v := -4) dX11_point_23 (by decide) ?_
        refine ab_callVi [_] dX11_point_25 ml_X11_66 mk_X11_refuse hC.hs (c_refuse (k := 0) (b := 0) (c := 4) hC (by decide) (by omega) (by omega)) (fun v1 hh1 hq => ?_)
        obtain ⟨hv, hh⟩ := hq
        refine ab_reti dX11_point_28 ?_
        exact ab_oX_no (by unfold sp_point; rw [if_pos (by first | exact Or.inl (ab_lt0.mp c_1) | exact Or.inr (Or.inl (ab_lt0.mp c_5)) | (rw [nI_clamp hx9, nI_clamp hy9]; first | exact Or.inr (Or.inr (Or.inl c_12)) | exact Or.inr (Or.inr (Or.inr c_19))))]) (ab_gr.rf h) hv hh
      · skip
        refine ab_iload_n dX11_point_15 rfl ?_
        refine ab_bipush (v := nI 100) dX11_point_16 (by decide) ?_
        refine ab_nremR dX11_point_18 hy9 (by omega) (by omega) ?_
        refine ab_nif_ne 29 dX11_point_19 (by decide) (by omega) (fun c_19 => ?_) (fun c_19 => ?_)
        · skip
          refine ab_iload_n dX11_point_29 rfl ?_
          refine ab_sipush (v := nI 9999) dX11_point_30 (by decide) ?_
          refine ab_nicmp_gt 55 dX11_point_33 (by decide) (by omega) (by omega) (fun c_33 => ?_) (fun c_33 => ?_)
          · skip
            refine ab_aload_n dX11_point_55 rfl ?_
            refine ab_bipush (v := -6) dX11_point_56 (by decide) ?_
            refine ab_callVi [_] dX11_point_58 ml_X11_66 mk_X11_refuse hC.hs (c_refuse (k := 0) (b := 0) (c := 6) hC (by decide) (by omega) (by omega)) (fun v1 hh1 hq => ?_)
            obtain ⟨hv, hh⟩ := hq
            refine ab_reti dX11_point_61 ?_
            exact ab_oX_no (by unfold sp_point; rw [nI_toInt hx9, nI_toInt hy9, nI_clamp hx9, nI_clamp hy9, if_neg (by omega), if_pos (by omega)]) (ab_gr.rf h) hv hh
          · skip
            refine ab_iload_n dX11_point_36 rfl ?_
            refine ab_sipush (v := nI 9999) dX11_point_37 (by decide) ?_
            refine ab_nicmp_gt 55 dX11_point_40 (by decide) (by omega) (by omega) (fun c_40 => ?_) (fun c_40 => ?_)
            · skip
              refine ab_aload_n dX11_point_55 rfl ?_
              refine ab_bipush (v := -6) dX11_point_56 (by decide) ?_
              refine ab_callVi [_] dX11_point_58 ml_X11_66 mk_X11_refuse hC.hs (c_refuse (k := 0) (b := 0) (c := 6) hC (by decide) (by omega) (by omega)) (fun v1 hh1 hq => ?_)
              obtain ⟨hv, hh⟩ := hq
              refine ab_reti dX11_point_61 ?_
              exact ab_oX_no (by unfold sp_point; rw [nI_toInt hx9, nI_toInt hy9, nI_clamp hx9, nI_clamp hy9, if_neg (by omega), if_pos (by omega)]) (ab_gr.rf h) hv hh
            · skip
              refine ab_aload_n dX11_point_43 rfl ?_
              refine ab_getR dX11_point_44 fl_X11_26 hC.hs hC.p5_2 ?_
              refine ab_getI dX11_point_47 fl_X11_189 hC.shapes.1 hD.np ?_
              refine ab_bipush (v := nI 10) dX11_point_50 (by decide) ?_
              refine ab_nicmp_lt 62 dX11_point_52 (by decide) (by omega) (by omega) (fun c_52 => ?_) (fun c_52 => ?_)
              · skip
                refine ab_aload_n dX11_point_62 rfl ?_
                refine ab_getR dX11_point_63 fl_X11_26 hC.hs hC.p5_2 ?_
                refine ab_iload_n dX11_point_66 rfl ?_
                refine ab_iload_n dX11_point_67 rfl ?_
                refine ab_callVv [_, _] dX11_point_68 ml_X11_192 mk_X9_addPoint hC.shapes.1 (c_addPoint (k := 4) (b := 3) (Nat.le_refl _) (Nat.le_refl _) hb (by decide) hC.shapes hD (by omega) ⟨by omega, c_12⟩ ⟨by omega, c_19⟩) (fun h1 hq => ?_)
                obtain ⟨g, hD1⟩ := hq
                have hC1 := hC.gr g hb (by simp)
                refine ab_aload_n dX11_point_71 rfl ?_
                refine ab_getR dX11_point_72 fl_X11_26 hC1.hs hC1.p5_2 ?_
                refine ab_getI dX11_point_75 fl_X11_189 hC1.shapes.1 (show _ = nI (s.1 + 1) from hD1.np) ?_
                refine ab_iconst (v := nI 1) dX11_point_78 (by decide) ?_
                refine ab_nsubR dX11_point_79 (by omega) ?_
                rw [Nat.add_sub_cancel]
                refine ab_reti dX11_point_80 ?_
                exact ab_oX_ok (by unfold sp_point; rw [nI_toInt hx9, nI_toInt hy9, nI_clamp hx9, nI_clamp hy9, if_neg (by omega), if_neg (by omega)]) (by rw [nI_clamp hx9, nI_clamp hy9]; exact ⟨g, hD1⟩)
              · skip
                refine ab_aload_n dX11_point_55 rfl ?_
                refine ab_bipush (v := -6) dX11_point_56 (by decide) ?_
                refine ab_callVi [_] dX11_point_58 ml_X11_66 mk_X11_refuse hC.hs (c_refuse (k := 0) (b := 0) (c := 6) hC (by decide) (by omega) (by omega)) (fun v1 hh1 hq => ?_)
                obtain ⟨hv, hh⟩ := hq
                refine ab_reti dX11_point_61 ?_
                exact ab_oX_no (by unfold sp_point; rw [nI_toInt hx9, nI_toInt hy9, nI_clamp hx9, nI_clamp hy9, if_neg (by omega), if_pos (by omega)]) (ab_gr.rf h) hv hh
        · skip
          refine ab_aload_n dX11_point_22 rfl ?_
          refine ab_bipush (v := -4) dX11_point_23 (by decide) ?_
          refine ab_callVi [_] dX11_point_25 ml_X11_66 mk_X11_refuse hC.hs (c_refuse (k := 0) (b := 0) (c := 4) hC (by decide) (by omega) (by omega)) (fun v1 hh1 hq => ?_)
          obtain ⟨hv, hh⟩ := hq
          refine ab_reti dX11_point_28 ?_
          exact ab_oX_no (by unfold sp_point; rw [if_pos (by first | exact Or.inl (ab_lt0.mp c_1) | exact Or.inr (Or.inl (ab_lt0.mp c_5)) | (rw [nI_clamp hx9, nI_clamp hy9]; first | exact Or.inr (Or.inr (Or.inl c_12)) | exact Or.inr (Or.inr (Or.inr c_19))))]) (ab_gr.rf h) hv hh
set_option maxRecDepth 100000 in
set_option maxHeartbeats 4000000 in
theorem m_point {k b : Nat} {h : ab_H} {s : sS} {x y : Int32} (hk : 1 ≤ k) (hM : at_M (ab_sh h) (ab_r h)) (hD : sh_M s h) : ab_M k b mX12_point [.ref 50, .int x, .int y] h (ab_pi (ab_oX 51 (ab_fM [] [] h) (fun h' => ab_fM [62] [15] h h' ∧ sh_M (sP s x.toNatClampNeg y.toNatClampNeg) h') (sp_point s x y))) := by
  have h10 := hD.W.1
  refine ab_enter ?_
  refine ab_iload_n dX12_point_0 rfl ?_
  refine ab_if_lt 22 dX12_point_1 (by decide) (fun c_1 => ?_) (fun c_1 => ?_)
  · skip
    refine ab_aload_n dX12_point_22 rfl ?_
    refine ab_bipush (v := -4) dX12_point_23 (by decide) ?_
    refine ab_callVi [_] dX12_point_25 ml_X12_9 mk_X12_refused hM.hs (m_refused (k := 0) (b := 0) (c := 4) hM (by decide) (by omega) (by omega)) (fun v1 hh1 hq => ?_)
    obtain ⟨hv, hh⟩ := hq
    refine ab_reti dX12_point_28 ?_
    exact ab_oX_no (by unfold sp_point; rw [if_pos (by first | exact Or.inl (ab_lt0.mp c_1) | exact Or.inr (Or.inl (ab_lt0.mp c_5)) | (rw [nI_clamp hx9, nI_clamp hy9]; first | exact Or.inr (Or.inr (Or.inl c_12)) | exact Or.inr (Or.inr (Or.inr c_19))))]) (ab_fM.rf h) hv hh
  · skip
    refine ab_iload_n dX12_point_4 rfl ?_
    refine ab_if_lt 22 dX12_point_5 (by decide) (fun c_5 => ?_) (fun c_5 => ?_)
    · skip
      refine ab_aload_n dX12_point_22 rfl ?_
      refine ab_bipush (v := -4) dX12_point_23 (by decide) ?_
      refine ab_callVi [_] dX12_point_25 ml_X12_9 mk_X12_refused hM.hs (m_refused (k := 0) (b := 0) (c := 4) hM (by decide) (by omega) (by omega)) (fun v1 hh1 hq => ?_)
      obtain ⟨hv, hh⟩ := hq
      refine ab_reti dX12_point_28 ?_
      exact ab_oX_no (by unfold sp_point; rw [if_pos (by first | exact Or.inl (ab_lt0.mp c_1) | exact Or.inr (Or.inl (ab_lt0.mp c_5)) | (rw [nI_clamp hx9, nI_clamp hy9]; first | exact Or.inr (Or.inr (Or.inl c_12)) | exact Or.inr (Or.inr (Or.inr c_19))))]) (ab_fM.rf h) hv hh
    · skip
      obtain ⟨X, rfl, hx9⟩ := ab_of0 (Int32.not_lt.mp c_1)
      obtain ⟨Y, rfl, hy9⟩ := ab_of0 (Int32.not_lt.mp c_5)
      refine ab_iload_n dX12_point_8 rfl ?_
      refine ab_bipush (v := nI 100) dX12_point_9 (by decide) ?_
      refine ab_nremR dX12_point_11 hx9 (by omega) (by omega) ?_
      refine ab_nif_eq 22 dX12_point_12 (by decide) (by omega) (fun c_12 => ?_) (fun c_12 => ?_)
      · skip
        refine ab_aload_n dX12_point_22 rfl ?_
        refine ab_bipush (v := -4) dX12_point_23 (by decide) ?_
        refine ab_callVi [_] dX12_point_25 ml_X12_9 mk_X12_refused hM.hs (m_refused (k := 0) (b := 0) (c := 4) hM (by decide) (by omega) (by omega)) (fun v1 hh1 hq => ?_)
        obtain ⟨hv, hh⟩ := hq
        refine ab_reti dX12_point_28 ?_
        exact ab_oX_no (by unfold sp_point; rw [if_pos (by first | exact Or.inl (ab_lt0.mp c_1) | exact Or.inr (Or.inl (ab_lt0.mp c_5)) | (rw [nI_clamp hx9, nI_clamp hy9]; first | exact Or.inr (Or.inr (Or.inl c_12)) | exact Or.inr (Or.inr (Or.inr c_19))))]) (ab_fM.rf h) hv hh
      · skip
        refine ab_iload_n dX12_point_15 rfl ?_
        refine ab_bipush (v := nI 100) dX12_point_16 (by decide) ?_
        refine ab_nremR dX12_point_18 hy9 (by omega) (by omega) ?_
        refine ab_nif_ne 29 dX12_point_19 (by decide) (by omega) (fun c_19 => ?_) (fun c_19 => ?_)
        · skip
          refine ab_iload_n dX12_point_29 rfl ?_
          refine ab_sipush (v := nI 9999) dX12_point_30 (by decide) ?_
          refine ab_nicmp_gt 52 dX12_point_33 (by decide) (by omega) (by omega) (fun c_33 => ?_) (fun c_33 => ?_)
          · skip
            refine ab_aload_n dX12_point_52 rfl ?_
            refine ab_bipush (v := -6) dX12_point_53 (by decide) ?_
            refine ab_callVi [_] dX12_point_55 ml_X12_9 mk_X12_refused hM.hs (m_refused (k := 0) (b := 0) (c := 6) hM (by decide) (by omega) (by omega)) (fun v1 hh1 hq => ?_)
            obtain ⟨hv, hh⟩ := hq
            refine ab_reti dX12_point_58 ?_
            exact ab_oX_no (by unfold sp_point; rw [nI_toInt hx9, nI_toInt hy9, nI_clamp hx9, nI_clamp hy9, if_neg (by omega), if_pos (by omega)]) (ab_fM.rf h) hv hh
          · skip
            refine ab_iload_n dX12_point_36 rfl ?_
            refine ab_sipush (v := nI 9999) dX12_point_37 (by decide) ?_
            refine ab_nicmp_gt 52 dX12_point_40 (by decide) (by omega) (by omega) (fun c_40 => ?_) (fun c_40 => ?_)
            · skip
              refine ab_aload_n dX12_point_52 rfl ?_
              refine ab_bipush (v := -6) dX12_point_53 (by decide) ?_
              refine ab_callVi [_] dX12_point_55 ml_X12_9 mk_X12_refused hM.hs (m_refused (k := 0) (b := 0) (c := 6) hM (by decide) (by omega) (by omega)) (fun v1 hh1 hq => ?_)
              obtain ⟨hv, hh⟩ := hq
              refine ab_reti dX12_point_58 ?_
              exact ab_oX_no (by unfold sp_point; rw [nI_toInt hx9, nI_toInt hy9, nI_clamp hx9, nI_clamp hy9, if_neg (by omega), if_pos (by omega)]) (ab_fM.rf h) hv hh
            · skip
              refine ab_aload_n dX12_point_43 rfl ?_
              refine ab_getI dX12_point_44 fl_X12_207 hM.hs hD.np ?_
              refine ab_bipush (v := nI 10) dX12_point_47 (by decide) ?_
              refine ab_nicmp_ne 59 dX12_point_49 (by decide) (by omega) (by omega) (fun c_49 => ?_) (fun c_49 => ?_)
              · skip
                refine ab_aload_n dX12_point_59 rfl ?_
                refine ab_iload_n dX12_point_60 rfl ?_
                refine ab_bipush (v := nI 100) dX12_point_61 (by decide) ?_
                refine ab_ndivR dX12_point_63 hx9 (by omega) (by omega) ?_
                refine ab_iload_n dX12_point_64 rfl ?_
                refine ab_bipush (v := nI 100) dX12_point_65 (by decide) ?_
                refine ab_nremR dX12_point_67 hx9 (by omega) (by omega) ?_
                refine ab_iload_n dX12_point_68 rfl ?_
                refine ab_bipush (v := nI 100) dX12_point_69 (by decide) ?_
                refine ab_ndivR dX12_point_71 hy9 (by omega) (by omega) ?_
                refine ab_iload_n dX12_point_72 rfl ?_
                refine ab_bipush (v := nI 100) dX12_point_73 (by decide) ?_
                refine ab_nremR dX12_point_75 hy9 (by omega) (by omega) ?_
                refine ab_callVv [_, _, _, _] dX12_point_76 ml_X12_210 mk_X12_comesPoint hM.hs (m_comesPoint (k := 0) (b := 0) (X := X) (Y := Y) hM hD (by omega) ⟨by omega, c_12⟩ ⟨by omega, c_19⟩) (fun h1 hq => ?_)
                obtain ⟨g, hD1⟩ := hq
                have hM1 := at_M.fM g hM
                refine ab_aload_n dX12_point_79 rfl ?_
                refine ab_getI dX12_point_80 fl_X12_207 hM1.hs (show _ = nI (s.1 + 1) from hD1.np) ?_
                refine ab_iconst (v := nI 1) dX12_point_83 (by decide) ?_
                refine ab_nsubR dX12_point_84 (by omega) ?_
                rw [Nat.add_sub_cancel]
                refine ab_reti dX12_point_85 ?_
                exact ab_oX_ok (by unfold sp_point; rw [nI_toInt hx9, nI_toInt hy9, nI_clamp hx9, nI_clamp hy9, if_neg (by omega), if_neg (by omega)]) (by rw [nI_clamp hx9, nI_clamp hy9]; exact ⟨g, hD1⟩)
              · skip
                refine ab_aload_n dX12_point_52 rfl ?_
                refine ab_bipush (v := -6) dX12_point_53 (by decide) ?_
                refine ab_callVi [_] dX12_point_55 ml_X12_9 mk_X12_refused hM.hs (m_refused (k := 0) (b := 0) (c := 6) hM (by decide) (by omega) (by omega)) (fun v1 hh1 hq => ?_)
                obtain ⟨hv, hh⟩ := hq
                refine ab_reti dX12_point_58 ?_
                exact ab_oX_no (by unfold sp_point; rw [nI_toInt hx9, nI_toInt hy9, nI_clamp hx9, nI_clamp hy9, if_neg (by omega), if_pos (by omega)]) (ab_fM.rf h) hv hh
        · skip
          refine ab_aload_n dX12_point_22 rfl ?_
          refine ab_bipush (v := -4) dX12_point_23 (by decide) ?_
          refine ab_callVi [_] dX12_point_25 ml_X12_9 mk_X12_refused hM.hs (m_refused (k := 0) (b := 0) (c := 4) hM (by decide) (by omega) (by omega)) (fun v1 hh1 hq => ?_)
          obtain ⟨hv, hh⟩ := hq
          refine ab_reti dX12_point_28 ?_
          exact ab_oX_no (by unfold sp_point; rw [if_pos (by first | exact Or.inl (ab_lt0.mp c_1) | exact Or.inr (Or.inl (ab_lt0.mp c_5)) | (rw [nI_clamp hx9, nI_clamp hy9]; first | exact Or.inr (Or.inr (Or.inl c_12)) | exact Or.inr (Or.inr (Or.inr c_19))))]) (ab_fM.rf h) hv hh
set_option maxRecDepth 100000 in
set_option maxHeartbeats 4000000 in
theorem c_colour {k b : Nat} {h : ab_H} {s : sS} {x w : Int32} (hk : 3 ≤ k) (hC : at_C (ab_sh h) (ab_r h)) (hD : sh_C 19 s h) : ab_M k b mX11_colour [.ref 5, .int x, .int w] h (ab_pi (ab_oX 37 (ab_gr [] [] h) (ab_gr [] [] h) (sp_colour s x w))) := by
  have h10 := hD.W.1
  refine ab_enter ?_
  refine ab_aload_n dX11_colour_0 rfl ?_
  refine ab_getR dX11_colour_1 fl_X11_26 hC.hs hC.p5_2 ?_
  refine ab_iload_n dX11_colour_4 rfl ?_
  refine ab_callVb [_] dX11_colour_5 ml_X11_196 mk_X9_hasPoint hC.shapes.1 (c_hasPoint (k := 0) (b := 0) hC.shapes hD) (fun t1 hh0 hq => ?_)
  obtain ⟨hhe, rfl⟩ := hq
  rw [hhe]
  refine ab_bif_ne 17 dX11_colour_8 (by decide) (fun c_8 => ?_) (fun c_8 => ?_)
  · skip
    have hin := c_8
    obtain ⟨i, rfl, hi, hi31⟩ := bd_inr_n (by omega) c_8
    have hP := hD.pt i hi
    have oP := hD.W.2.2.1 i hi
    refine ab_aload_n dX11_colour_17 rfl ?_
    refine ab_getR dX11_colour_18 fl_X11_26 hC.hs hC.p5_2 ?_
    refine ab_getR dX11_colour_21 fl_X11_199 hC.shapes.1 hC.shapes.2.1 ?_
    refine ab_iload_n dX11_colour_24 rfl ?_
    refine ab_aald (t := 6) dX11_colour_25 hC.shapes.2.2.1 rfl (by omega) rfl ?_
    refine ab_sta_n (ls' := [_, _, _, _]) dX11_colour_26 (by decide) rfl ?_
    refine ab_iload_n dX11_colour_27 rfl ?_
    rcases ab_swc 2 w with hsw | ⟨jsw, hjsw, rfl⟩
    · refine ab_tableOut 84 dX11_colour_28 hsw (by decide) ?_
      refine ab_aload_n dX11_colour_84 rfl ?_
      refine ab_bipush (v := -2) dX11_colour_85 (by decide) ?_
      refine ab_callVi [_] dX11_colour_87 ml_X11_66 mk_X11_refuse hC.hs (c_refuse (k := 0) (b := 0) (c := 2) hC (by decide) (by omega) (by omega)) (fun v1 hh1 hq => ?_)
      obtain ⟨hv, hh⟩ := hq
      refine ab_reti dX11_colour_90 ?_
      exact ab_oX_no (by unfold sp_colour; rw [if_pos hin, if_neg (show ¬ ab_inr 0 2 w = true from ab_out (n := 2) hsw)]) (ab_gr.rf h) hv hh
    · match jsw, hjsw with
      | 0, _ =>
        refine ab_tableIn (off := 28) 56 dX11_colour_28 (by decide) (by decide) (by decide) (by decide) ?_
        refine ab_aload_n dX11_colour_56 rfl ?_
        refine ab_iconst (v := nI 0) dX11_colour_57 (by decide) ?_
        refine ab_callVi [_] dX11_colour_58 ml_X11_203 mk_X6_shade hP.2.2.1 (c_shade (k := 2) (b := 0) (m := false) (Nat.le_refl _) hP oP) (fun x h1 hq => ?_)
        obtain ⟨hhe, rfl⟩ := hq
        rw [hhe]
        refine ab_reti dX11_colour_61 ?_
        exact ab_oX_ok (by unfold sp_colour; rw [if_pos hin, if_pos (by decide), nI_clamp hi31]; rfl) (ab_gr.rf h)
      | 1, _ =>
        refine ab_tableIn (off := 34) 62 dX11_colour_28 (by decide) (by decide) (by decide) (by decide) ?_
        refine ab_aload_n dX11_colour_62 rfl ?_
        refine ab_getR dX11_colour_63 fl_X11_209 hP.2.2.1 rfl ?_
        refine ab_callVi [] dX11_colour_66 ml_X11_213 mk_X2_valuation hP.2.2.2.1.2.2.1 (c_fr_val (k := 1) (b := 0) (Nat.le_refl _) hP.2.2.2.1 (fR_0 (pq_0 _)) ((pq_B oP.1).R.k1 (by decide)) (pq_B oP.1).R.2.1 ((pq_B oP.1).R.k2 (by decide))) (fun x h1 hq => ?_)
        obtain ⟨hhe, rfl⟩ := hq
        rw [hhe]
        rw [vQ_pq oP.1]
        refine ab_bipush (v := nI 100) dX11_colour_69 (by decide) ?_
        refine ab_iadd dX11_colour_71 ?_
        rw [Int32.add_comm]
        refine ab_reti dX11_colour_72 ?_
        exact ab_oX_ok (by unfold sp_colour; rw [if_pos hin, if_pos (by decide), nI_clamp hi31]; rfl) (ab_gr.rf h)
      | 2, _ =>
        refine ab_tableIn (off := 45) 73 dX11_colour_28 (by decide) (by decide) (by decide) (by decide) ?_
        refine ab_aload_n dX11_colour_73 rfl ?_
        refine ab_getR dX11_colour_74 fl_X11_216 hP.2.2.1 rfl ?_
        refine ab_callVi [] dX11_colour_77 ml_X11_213 mk_X2_valuation hP.2.2.2.2.2.2.1 (c_fr_val (k := 1) (b := 0) (Nat.le_refl _) hP.2.2.2.2 (fR_0 (pq_0 _)) ((pq_B oP.2).R.k1 (by decide)) (pq_B oP.2).R.2.1 ((pq_B oP.2).R.k2 (by decide))) (fun x h1 hq => ?_)
        obtain ⟨hhe, rfl⟩ := hq
        rw [hhe]
        rw [vQ_pq oP.2]
        refine ab_bipush (v := nI 100) dX11_colour_80 (by decide) ?_
        refine ab_iadd dX11_colour_82 ?_
        rw [Int32.add_comm]
        refine ab_reti dX11_colour_83 ?_
        exact ab_oX_ok (by unfold sp_colour; rw [if_pos hin, if_pos (by decide), nI_clamp hi31]; rfl) (ab_gr.rf h)
      | jj + 3, hq => exact absurd hq (by omega)
  · skip
    refine ab_aload_n dX11_colour_11 rfl ?_
    refine ab_iconst (v := -1) dX11_colour_12 (by decide) ?_
    refine ab_callVi [_] dX11_colour_13 ml_X11_66 mk_X11_refuse hC.hs (c_refuse (k := 0) (b := 0) (c := 1) hC (by decide) (by omega) (by omega)) (fun v1 hh1 hq => ?_)
    obtain ⟨hv, hh⟩ := hq
    refine ab_reti dX11_colour_16 ?_
    exact ab_oX_no (by unfold sp_colour; rw [if_neg (fun q => ab_tf q c_8)]) (ab_gr.rf h) hv hh
set_option maxRecDepth 100000 in
set_option maxHeartbeats 4000000 in
theorem m_colour {k b : Nat} {h : ab_H} {s : sS} {x w : Int32} (hk : 5 ≤ k) (hM : at_M (ab_sh h) (ab_r h)) (hD : sh_M s h) : ab_M k b mX12_colour [.ref 50, .int x, .int w] h (ab_pi (ab_oX 51 (ab_fM [] [] h) (ab_fM [] [] h) (sp_colour s x w))) := by
  have h10 := hD.W.1
  refine ab_enter ?_
  refine ab_aload_n dX12_colour_0 rfl ?_
  refine ab_iload_n dX12_colour_1 rfl ?_
  refine ab_callVb [_] dX12_colour_2 ml_X12_227 mk_X12_isPoint hM.hs (m_isPoint (k := 1) (b := 0) (Nat.le_refl _) hM hD) (fun t1 hh0 hq => ?_)
  obtain ⟨hhe, rfl⟩ := hq
  rw [hhe]
  refine ab_bif_ne 14 dX12_colour_5 (by decide) (fun c_5 => ?_) (fun c_5 => ?_)
  · skip
    refine ab_iload_n dX12_colour_14 rfl ?_
    refine ab_i2l dX12_colour_15 ?_
    refine ab_lconst (v := 0) dX12_colour_16 (by decide) ?_
    refine ab_ldc2 dX12_colour_17 kc_X12_230 ?_
    refine ab_callSb [_, _, _] dX12_colour_20 ml_X12_123 mk_X12_isIn (m_isIn (k := 0) (b := 0) (Int32.toInt_toInt64 _) (lo := 0) (by decide) (hi := 2) (by decide)) (fun t2 hh2 hq => ?_)
    obtain ⟨hhe, rfl⟩ := hq
    rw [hhe]
    refine ab_bif_ne 33 dX12_colour_23 (by decide) (fun c_23 => ?_) (fun c_23 => ?_)
    · skip
      have hin := c_5
      obtain ⟨i, rfl, hi, hi31⟩ := bd_inr_n (by omega) c_5
      replace c_23 : ab_inr 0 2 w = true := c_23
      obtain ⟨j, rfl, hj, -⟩ := ab_inr_nat (n := 2) c_23
      rcases (show j = 0 ∨ j = 1 ∨ j = 2 by omega) with rfl | rfl | rfl
      · refine ab_iload_n dX12_colour_33 rfl ?_
        refine ab_nif_ne 55 dX12_colour_34 (by decide) (by omega) (fun c_34 => ?_) (fun c_34 => ?_)
        · skip
          exact absurd c_34 (by decide)
        · skip
          refine ab_aload_n dX12_colour_37 rfl ?_
          refine ab_iload_n dX12_colour_38 rfl ?_
          refine ab_iconst (v := nI 0) dX12_colour_39 (by decide) ?_
          refine ab_callVi [_, _] dX12_colour_40 ml_X12_232 mk_X12_valuationOf hM.hs (m_valuationOf (k := 4) (b := 0) (e := 0) (Nat.le_refl _) hM hD hi (by decide)) (fun v1 hh3 hq => ?_)
          obtain ⟨hhe, rfl⟩ := hq
          rw [hhe]
          refine ab_aload_n dX12_colour_43 rfl ?_
          refine ab_iload_n dX12_colour_44 rfl ?_
          refine ab_iconst (v := nI 1) dX12_colour_45 (by decide) ?_
          refine ab_callVi [_, _] dX12_colour_46 ml_X12_232 mk_X12_valuationOf hM.hs (m_valuationOf (k := 4) (b := 0) (e := 1) (Nat.le_refl _) hM hD hi (by decide)) (fun v1 hh3 hq => ?_)
          obtain ⟨hhe, rfl⟩ := hq
          rw [hhe]
          refine ab_callSi [_, _] dX12_colour_49 ml_X12_235 mk_X12_colourBy (m_colourBy (k := 0) (b := 0)) (fun v3 hh4 hq => ?_)
          obtain ⟨hhe, rfl⟩ := hq
          rw [hhe]
          refine ab_goto 66 dX12_colour_52 (by decide) ?_
          refine ab_reti dX12_colour_66 ?_
          exact ab_oX_ok (by unfold sp_colour; rw [if_pos hin, if_pos (by decide), nI_clamp hi31]; rfl) (ab_fM.rf h)
      · refine ab_iload_n dX12_colour_33 rfl ?_
        refine ab_nif_ne 55 dX12_colour_34 (by decide) (by omega) (fun c_34 => ?_) (fun c_34 => ?_)
        · skip
          refine ab_bipush (v := nI 100) dX12_colour_55 (by decide) ?_
          refine ab_aload_n dX12_colour_57 rfl ?_
          refine ab_iload_n dX12_colour_58 rfl ?_
          refine ab_iload_n dX12_colour_59 rfl ?_
          refine ab_iconst (v := nI 1) dX12_colour_60 (by decide) ?_
          refine ab_nsubR dX12_colour_61 (by omega) ?_
          rw [show 1 - 1 = 0 from rfl]
          refine ab_callVi [_, _] dX12_colour_62 ml_X12_232 mk_X12_valuationOf hM.hs (m_valuationOf (k := 4) (b := 0) (e := 0) (Nat.le_refl _) hM hD hi (by decide)) (fun v1 hh3 hq => ?_)
          obtain ⟨hhe, rfl⟩ := hq
          rw [hhe]
          refine ab_iadd dX12_colour_65 ?_
          refine ab_reti dX12_colour_66 ?_
          exact ab_oX_ok (by unfold sp_colour; rw [if_pos hin, if_pos (by decide), nI_clamp hi31]; rfl) (ab_fM.rf h)
        · skip
          exact absurd c_34 (by decide)
      · refine ab_iload_n dX12_colour_33 rfl ?_
        refine ab_nif_ne 55 dX12_colour_34 (by decide) (by omega) (fun c_34 => ?_) (fun c_34 => ?_)
        · skip
          refine ab_bipush (v := nI 100) dX12_colour_55 (by decide) ?_
          refine ab_aload_n dX12_colour_57 rfl ?_
          refine ab_iload_n dX12_colour_58 rfl ?_
          refine ab_iload_n dX12_colour_59 rfl ?_
          refine ab_iconst (v := nI 1) dX12_colour_60 (by decide) ?_
          refine ab_nsubR dX12_colour_61 (by omega) ?_
          rw [show 2 - 1 = 1 from rfl]
          refine ab_callVi [_, _] dX12_colour_62 ml_X12_232 mk_X12_valuationOf hM.hs (m_valuationOf (k := 4) (b := 0) (e := 1) (Nat.le_refl _) hM hD hi (by decide)) (fun v1 hh3 hq => ?_)
          obtain ⟨hhe, rfl⟩ := hq
          rw [hhe]
          refine ab_iadd dX12_colour_65 ?_
          refine ab_reti dX12_colour_66 ?_
          exact ab_oX_ok (by unfold sp_colour; rw [if_pos hin, if_pos (by decide), nI_clamp hi31]; rfl) (ab_fM.rf h)
        · skip
          exact absurd c_34 (by decide)
    · skip
      refine ab_aload_n dX12_colour_26 rfl ?_
      refine ab_bipush (v := -2) dX12_colour_27 (by decide) ?_
      refine ab_callVi [_] dX12_colour_29 ml_X12_9 mk_X12_refused hM.hs (m_refused (k := 0) (b := 0) (c := 2) hM (by decide) (by omega) (by omega)) (fun v1 hh1 hq => ?_)
      obtain ⟨hv, hh⟩ := hq
      refine ab_reti dX12_colour_32 ?_
      exact ab_oX_no (by unfold sp_colour; rw [if_pos c_5, if_neg (fun q : ab_inr 0 2 w = true => ab_tf q c_23)]) (ab_fM.rf h) hv hh
  · skip
    refine ab_aload_n dX12_colour_8 rfl ?_
    refine ab_iconst (v := -1) dX12_colour_9 (by decide) ?_
    refine ab_callVi [_] dX12_colour_10 ml_X12_9 mk_X12_refused hM.hs (m_refused (k := 0) (b := 0) (c := 1) hM (by decide) (by omega) (by omega)) (fun v1 hh1 hq => ?_)
    obtain ⟨hv, hh⟩ := hq
    refine ab_reti dX12_colour_13 ?_
    exact ab_oX_no (by unfold sp_colour; rw [if_neg (fun q => ab_tf q c_5)]) (ab_fM.rf h) hv hh
set_option maxRecDepth 100000 in
set_option maxHeartbeats 4000000 in
theorem c_triangle {k b : Nat} {h : ab_H} {s : sS} {x y z u : Int32} (hk : 6 ≤ k) (hb1 : 9 ≤ b) (hb : ab_bs h) (hE : ab_cs h) (hC : at_C (ab_sh h) (ab_r h)) (hD : sh_C 19 s h) : ab_M k b mX11_triangle [.ref 5, .int x, .int y, .int z, .int u] h (ab_pi (ab_oX 37 (ab_gr [] [] h) (fun h' => ab_gr [19] [21] h h' ∧ sh_C 19 (sT s x.toNatClampNeg y.toNatClampNeg z.toNatClampNeg u.toNatClampNeg) h') (sp_triangle s x y z u))) := by
  have h10 := hD.W.1
  have h11 := hD.W.2.1
  refine ab_enter ?_
  refine ab_iload_n dX11_triangle_0 rfl ?_
  refine ab_callSb [_] dX11_triangle_1 ml_X11_219 mk_X10_isKind (c_isKind (k := 0) (b := 0)) (fun t1 hh0 hq => ?_)
  obtain ⟨hhe, rfl⟩ := hq
  rw [hhe]
  refine ab_bif_ne 14 dX11_triangle_4 (by decide) (fun c_4 => ?_) (fun c_4 => ?_)
  · skip
    refine ab_aload_n dX11_triangle_14 rfl ?_
    refine ab_getR dX11_triangle_15 fl_X11_26 hC.hs hC.p5_2 ?_
    refine ab_getI dX11_triangle_18 fl_X11_189 hC.shapes.1 hD.np ?_
    refine ab_iload_n dX11_triangle_21 rfl ?_
    refine ab_iload_n dX11_triangle_22 rfl ?_
    refine ab_iload dX11_triangle_23 rfl ?_
    refine ab_callSb [_, _, _, _] dX11_triangle_25 ml_X11_224 mk_X9_areThree (c_areThree (k := 0) (b := 0) h10) (fun t2 hh2 hq => ?_)
    obtain ⟨hhe, rfl⟩ := hq
    rw [hhe]
    refine ab_bif_ne 37 dX11_triangle_28 (by decide) (fun c_28 => ?_) (fun c_28 => ?_)
    · skip
      refine ab_aload_n dX11_triangle_37 rfl ?_
      refine ab_getR dX11_triangle_38 fl_X11_26 hC.hs hC.p5_2 ?_
      refine ab_getI dX11_triangle_41 fl_X11_228 hC.shapes.1 hD.nt ?_
      refine ab_bipush (v := nI 10) dX11_triangle_44 (by decide) ?_
      refine ab_nicmp_lt 56 dX11_triangle_46 (by decide) (by omega) (by omega) (fun c_46 => ?_) (fun c_46 => ?_)
      · skip
        have hth := ofT c_28
        obtain ⟨a, b9, c9, rfl, rfl, rfl, ha, hbb, hc⟩ := th_nat h10 hth
        obtain ⟨kd, rfl, hk5, hk31⟩ := ab_inr_nat (n := 5) c_4
        refine ab_aload_n dX11_triangle_56 rfl ?_
        refine ab_getR dX11_triangle_57 fl_X11_26 hC.hs hC.p5_2 ?_
        refine ab_iload_n dX11_triangle_60 rfl ?_
        refine ab_iload_n dX11_triangle_61 rfl ?_
        refine ab_iload_n dX11_triangle_62 rfl ?_
        refine ab_iload dX11_triangle_63 rfl ?_
        refine ab_callVv [_, _, _, _] dX11_triangle_65 ml_X11_231 mk_X9_addTriangle hC.shapes.1 (c_addTriangle (k := 5) (b := 9) (Nat.le_refl _) (Nat.le_refl _) hb hE (by decide) hC.shapes hD (by omega) (by omega) ha hbb hc hth) (fun h1 hq => ?_)
        obtain ⟨g, hD1⟩ := hq
        have hC1 := hC.gr g hb (by simp)
        refine ab_aload_n dX11_triangle_68 rfl ?_
        refine ab_getR dX11_triangle_69 fl_X11_26 hC1.hs hC1.p5_2 ?_
        refine ab_getI dX11_triangle_72 fl_X11_228 hC1.shapes.1 (show _ = nI (s.2.2.1 + 1) from hD1.nt) ?_
        refine ab_iconst (v := nI 1) dX11_triangle_75 (by decide) ?_
        refine ab_nsubR dX11_triangle_76 (by omega) ?_
        rw [Nat.add_sub_cancel]
        refine ab_reti dX11_triangle_77 ?_
        exact ab_oX_ok (by unfold sp_triangle; rw [if_pos c_4, if_pos c_28, if_neg (by omega)]) (by rw [nI_clamp (by omega), nI_clamp (by omega), nI_clamp (by omega), nI_clamp (by omega)]; exact ⟨g, hD1⟩)
      · skip
        refine ab_aload_n dX11_triangle_49 rfl ?_
        refine ab_bipush (v := -6) dX11_triangle_50 (by decide) ?_
        refine ab_callVi [_] dX11_triangle_52 ml_X11_66 mk_X11_refuse hC.hs (c_refuse (k := 0) (b := 0) (c := 6) hC (by decide) (by omega) (by omega)) (fun v1 hh1 hq => ?_)
        obtain ⟨hv, hh⟩ := hq
        refine ab_reti dX11_triangle_55 ?_
        exact ab_oX_no (by unfold sp_triangle; rw [if_pos c_4, if_pos c_28, if_pos (by omega)]) (ab_gr.rf h) hv hh
    · skip
      refine ab_aload_n dX11_triangle_31 rfl ?_
      refine ab_iconst (v := -1) dX11_triangle_32 (by decide) ?_
      refine ab_callVi [_] dX11_triangle_33 ml_X11_66 mk_X11_refuse hC.hs (c_refuse (k := 0) (b := 0) (c := 1) hC (by decide) (by omega) (by omega)) (fun v1 hh1 hq => ?_)
      obtain ⟨hv, hh⟩ := hq
      refine ab_reti dX11_triangle_36 ?_
      exact ab_oX_no (by unfold sp_triangle; rw [if_pos c_4, if_neg (fun q => ab_tf q c_28)]) (ab_gr.rf h) hv hh
  · skip
    refine ab_aload_n dX11_triangle_7 rfl ?_
    refine ab_bipush (v := -2) dX11_triangle_8 (by decide) ?_
    refine ab_callVi [_] dX11_triangle_10 ml_X11_66 mk_X11_refuse hC.hs (c_refuse (k := 0) (b := 0) (c := 2) hC (by decide) (by omega) (by omega)) (fun v1 hh1 hq => ?_)
    obtain ⟨hv, hh⟩ := hq
    refine ab_reti dX11_triangle_13 ?_
    exact ab_oX_no (by unfold sp_triangle; rw [if_neg (fun q => ab_tf q c_4)]) (ab_gr.rf h) hv hh
set_option maxRecDepth 100000 in
set_option maxHeartbeats 4000000 in
theorem m_triangle {k b : Nat} {h : ab_H} {s : sS} {x y z u : Int32} (hk : 3 ≤ k) (hM : at_M (ab_sh h) (ab_r h)) (hD : sh_M s h) : ab_M k b mX12_triangle [.ref 50, .int x, .int y, .int z, .int u] h (ab_pi (ab_oX 51 (ab_fM [] [] h) (fun h' => ab_fM [63, 64] [17] h h' ∧ sh_M (sT s x.toNatClampNeg y.toNatClampNeg z.toNatClampNeg u.toNatClampNeg) h') (sp_triangle s x y z u))) := by
  have h10 := hD.W.1
  have h11 := hD.W.2.1
  refine ab_enter ?_
  refine ab_iload_n dX12_triangle_0 rfl ?_
  refine ab_i2l dX12_triangle_1 ?_
  refine ab_lconst (v := 0) dX12_triangle_2 (by decide) ?_
  refine ab_ldc2 dX12_triangle_3 kc_X12_241 ?_
  refine ab_callSb [_, _, _] dX12_triangle_6 ml_X12_123 mk_X12_isIn (m_isIn (k := 0) (b := 0) (Int32.toInt_toInt64 _) (lo := 0) (by decide) (hi := 5) (by decide)) (fun t1 hh0 hq => ?_)
  obtain ⟨hhe, rfl⟩ := hq
  rw [hhe]
  refine ab_bif_ne 19 dX12_triangle_9 (by decide) (fun c_9 => ?_) (fun c_9 => ?_)
  · skip
    refine ab_aload_n dX12_triangle_19 rfl ?_
    refine ab_iload_n dX12_triangle_20 rfl ?_
    refine ab_iload_n dX12_triangle_21 rfl ?_
    refine ab_iload dX12_triangle_22 rfl ?_
    refine ab_callVb [_, _, _] dX12_triangle_24 ml_X12_243 mk_X12_areThree hM.hs (m_areThree (k := 2) (b := 0) (Nat.le_refl _) hM hD) (fun t2 hh2 hq => ?_)
    obtain ⟨hhe, rfl⟩ := hq
    rw [hhe]
    refine ab_bif_ne 36 dX12_triangle_27 (by decide) (fun c_27 => ?_) (fun c_27 => ?_)
    · skip
      refine ab_aload_n dX12_triangle_36 rfl ?_
      refine ab_getI dX12_triangle_37 fl_X12_238 hM.hs hD.nt ?_
      refine ab_bipush (v := nI 10) dX12_triangle_40 (by decide) ?_
      refine ab_nicmp_ne 52 dX12_triangle_42 (by decide) (by omega) (by omega) (fun c_42 => ?_) (fun c_42 => ?_)
      · skip
        replace c_9 : ab_inr 0 5 x = true := c_9
        have c_9k := c_9
        have hth := ofT c_27
        obtain ⟨a, b9, c9, rfl, rfl, rfl, ha, hbb, hc⟩ := th_nat h10 hth
        obtain ⟨kd, rfl, hk5, hk31⟩ := ab_inr_nat (n := 5) c_9
        refine ab_aload_n dX12_triangle_52 rfl ?_
        refine ab_iload_n dX12_triangle_53 rfl ?_
        refine ab_iload_n dX12_triangle_54 rfl ?_
        refine ab_iload_n dX12_triangle_55 rfl ?_
        refine ab_iload dX12_triangle_56 rfl ?_
        refine ab_callVv [_, _, _, _] dX12_triangle_58 ml_X12_247 mk_X12_comesTriangle hM.hs (m_comesTriangle (k := 0) (b := 0) hM hD (by omega) (by omega) ha hbb hc) (fun h1 hq => ?_)
        obtain ⟨g, hD1⟩ := hq
        have hM1 := at_M.fM g hM
        refine ab_aload_n dX12_triangle_61 rfl ?_
        refine ab_getI dX12_triangle_62 fl_X12_238 hM1.hs (show _ = nI (s.2.2.1 + 1) from hD1.nt) ?_
        refine ab_iconst (v := nI 1) dX12_triangle_65 (by decide) ?_
        refine ab_nsubR dX12_triangle_66 (by omega) ?_
        rw [Nat.add_sub_cancel]
        refine ab_reti dX12_triangle_67 ?_
        exact ab_oX_ok (by unfold sp_triangle; rw [if_pos c_9k, if_pos c_27, if_neg (by omega)]) (by rw [nI_clamp (by omega), nI_clamp (by omega), nI_clamp (by omega), nI_clamp (by omega)]; exact ⟨g, hD1⟩)
      · skip
        refine ab_aload_n dX12_triangle_45 rfl ?_
        refine ab_bipush (v := -6) dX12_triangle_46 (by decide) ?_
        refine ab_callVi [_] dX12_triangle_48 ml_X12_9 mk_X12_refused hM.hs (m_refused (k := 0) (b := 0) (c := 6) hM (by decide) (by omega) (by omega)) (fun v1 hh1 hq => ?_)
        obtain ⟨hv, hh⟩ := hq
        refine ab_reti dX12_triangle_51 ?_
        exact ab_oX_no (by unfold sp_triangle; rw [if_pos (show ab_inr 0 5 x = true from c_9), if_pos c_27, if_pos (by omega)]) (ab_fM.rf h) hv hh
    · skip
      refine ab_aload_n dX12_triangle_30 rfl ?_
      refine ab_iconst (v := -1) dX12_triangle_31 (by decide) ?_
      refine ab_callVi [_] dX12_triangle_32 ml_X12_9 mk_X12_refused hM.hs (m_refused (k := 0) (b := 0) (c := 1) hM (by decide) (by omega) (by omega)) (fun v1 hh1 hq => ?_)
      obtain ⟨hv, hh⟩ := hq
      refine ab_reti dX12_triangle_35 ?_
      exact ab_oX_no (by unfold sp_triangle; rw [if_pos (show ab_inr 0 5 x = true from c_9), if_neg (fun q => ab_tf q c_27)]) (ab_fM.rf h) hv hh
  · skip
    refine ab_aload_n dX12_triangle_12 rfl ?_
    refine ab_bipush (v := -2) dX12_triangle_13 (by decide) ?_
    refine ab_callVi [_] dX12_triangle_15 ml_X12_9 mk_X12_refused hM.hs (m_refused (k := 0) (b := 0) (c := 2) hM (by decide) (by omega) (by omega)) (fun v1 hh1 hq => ?_)
    obtain ⟨hv, hh⟩ := hq
    refine ab_reti dX12_triangle_18 ?_
    exact ab_oX_no (by unfold sp_triangle; rw [if_neg (fun q : ab_inr 0 5 x = true => ab_tf q c_9)]) (ab_fM.rf h) hv hh
