/-! ===== the model's board: within ===== -/
theorem bd_tot_win {n hx hy i x1 x2 y1 y2 : Nat} (hn : n ≤ 4) (ax : hx < 2 ^ n) (ay : hy < 2 ^ n) (hi : i < bd_n n) (hx1 : x1 < 2 ^ n) (hy1 : y1 < 2 ^ n) (hx2 : x2 < 2 ^ n) (hy2 : y2 < 2 ^ n) : bd_tot n hx hy i x1 y1 (x2 + 1 - x1) (y2 + 1 - y1) = 3 ↔ bd_win (x1 : Int) x2 y1 y2 (bd_P n hx hy i) := by
  rw [bd_tot_3 hn ax ay hi (by omega) (by omega)]
  unfold bd_win
  omega
set_option maxRecDepth 100000 in
set_option maxHeartbeats 4000000 in
theorem lp_mWithinAll {k b n hx hy x1 x2 y1 y2 : Nat} {h : ab_H} (hk : 2 ≤ k) (hM : at_M (ab_sh h) (ab_r h)) (hD : bd_Mo n hx hy h) (hx1 : x1 < 2 ^ n) (hy1 : y1 < 2 ^ n) (hx2 : x2 < 2 ^ n) (hy2 : y2 < 2 ^ n) : ∀ (j i : Nat), i + j = bd_n n → ab_R k b mX12_within 31 [some (.ref 50), some (.int (nI x1)), some (.int (nI x2)), some (.int (nI y1)), some (.int (nI y2)), some (.int (nI (bd_num (fun i => bd_win (x1 : Int) x2 y1 y2 (bd_P n hx hy i)) i))), some (.int (nI i))] [] h (ab_pn (fun v h' => h' = h ∧ v = bd_num (fun i => bd_win (x1 : Int) x2 y1 y2 (bd_P n hx hy i)) (bd_n n))) := by
  intro j
  induction j with
  | zero =>
    intro i hi
    have hb85 := bd_n_le n hD.n4
    have hpw := bd_pow4 hD.n4
    have hpo := bd_pos n
    obtain rfl : i = bd_n n := by omega
    refine ab_iload dX12_within_31 rfl ?_
    refine ab_aload_n dX12_within_33 rfl ?_
    refine ab_getI dX12_within_34 fl_X12_133 hM.hs hD.f4 ?_
    refine ab_nicmp_ge 70 dX12_within_37 (by decide) (by omega) (by omega) (fun c_37 => ?_) (fun c_37 => ?_)
    · skip
      refine ab_iload dX12_within_70 rfl ?_
      refine ab_retn dX12_within_72 ?_
      exact ⟨rfl, rfl⟩
    · skip
      exact absurd (Nat.le_refl _) c_37
  | succ j ih =>
    intro i hi
    have hb85 := bd_n_le n hD.n4
    have hpw := bd_pow4 hD.n4
    have hpo := bd_pos n
    refine ab_iload dX12_within_31 rfl ?_
    refine ab_aload_n dX12_within_33 rfl ?_
    refine ab_getI dX12_within_34 fl_X12_133 hM.hs hD.f4 ?_
    refine ab_nicmp_ge 70 dX12_within_37 (by decide) (by omega) (by omega) (fun c_37 => ?_) (fun c_37 => ?_)
    · skip
      exact absurd c_37 (by omega)
    · skip
      refine ab_iload dX12_within_40 rfl ?_
      refine ab_aload_n dX12_within_42 rfl ?_
      refine ab_iload dX12_within_43 rfl ?_
      refine ab_iload_n dX12_within_45 rfl ?_
      refine ab_iload_n dX12_within_46 rfl ?_
      refine ab_iload_n dX12_within_47 rfl ?_
      refine ab_iload dX12_within_48 rfl ?_
      refine ab_callVb [_, _, _, _, _] dX12_within_50 ml_X12_158 mk_X12_isWithin hM.hs (m_isWithin (k := 1) (b := 0) (by omega) hM hD hx1 hy1 hx2 hy2 (by omega)) (fun t1 hh1 hq => ?_)
      obtain ⟨hhe, hte⟩ := hq
      rw [hhe]
      rw [bd_tot_win hD.n4 hD.hx hD.hy (by omega) hx1 hy1 hx2 hy2] at hte
      refine ab_bif_eq 60 dX12_within_53 (by decide) (fun c_53 => ?_) (fun c_53 => ?_)
      · skip
        refine ab_iconst (v := nI 0) dX12_within_60 (by decide) ?_
        refine ab_naddR dX12_within_61 ?_
        refine ab_topI (y := nI (bd_num (fun i => bd_win (x1 : Int) x2 y1 y2 (bd_P n hx hy i)) (i + 1))) (by first | exact congrArg nI (bd_num_yes (P := (fun i => bd_win (x1 : Int) x2 y1 y2 (bd_P n hx hy i))) (hte.mp c_53)).symm | exact congrArg nI (bd_num_no (P := (fun i => bd_win (x1 : Int) x2 y1 y2 (bd_P n hx hy i))) (fun q => ab_tf (hte.mpr q) c_53)).symm) ?_
        refine ab_sti (ls' := [_, _, _, _, _, _, _]) dX12_within_62 (by decide) rfl ?_
        refine ab_nincR (ls' := [_, _, _, _, _, _, _]) dX12_within_64 rfl rfl ?_
        refine ab_goto 31 dX12_within_67 (by decide) ?_
        exact ih (i + 1) (by omega)
      · skip
        refine ab_iconst (v := nI 1) dX12_within_56 (by decide) ?_
        refine ab_goto 61 dX12_within_57 (by decide) ?_
        refine ab_naddR dX12_within_61 ?_
        refine ab_topI (y := nI (bd_num (fun i => bd_win (x1 : Int) x2 y1 y2 (bd_P n hx hy i)) (i + 1))) (by first | exact congrArg nI (bd_num_yes (P := (fun i => bd_win (x1 : Int) x2 y1 y2 (bd_P n hx hy i))) (hte.mp c_53)).symm | exact congrArg nI (bd_num_no (P := (fun i => bd_win (x1 : Int) x2 y1 y2 (bd_P n hx hy i))) (fun q => ab_tf (hte.mpr q) c_53)).symm) ?_
        refine ab_sti (ls' := [_, _, _, _, _, _, _]) dX12_within_62 (by decide) rfl ?_
        refine ab_nincR (ls' := [_, _, _, _, _, _, _]) dX12_within_64 rfl rfl ?_
        refine ab_goto 31 dX12_within_67 (by decide) ?_
        exact ih (i + 1) (by omega)
set_option maxRecDepth 100000 in
set_option maxHeartbeats 4000000 in
theorem m_within {k b n hx hy : Nat} {h : ab_H} {x1 x2 y1 y2 : Int32} (hk : 2 ≤ k) (hM : at_M (ab_sh h) (ab_r h)) (hD : bd_Mo n hx hy h) : ab_M k b mX12_within [.ref 50, .int x1, .int x2, .int y1, .int y2] h (ab_pi (ab_oI 51 [] h (sp_within n hx hy x1 x2 y1 y2))) := by
  refine ab_enter ?_
  refine ab_aload_n dX12_within_0 rfl ?_
  refine ab_iload_n dX12_within_1 rfl ?_
  refine ab_iload_n dX12_within_2 rfl ?_
  refine ab_callVb [_, _] dX12_within_3 ml_X12_140 mk_X12_isCell hM.hs (m_isCell (k := 1) (b := 0) (by omega) hM hD.f1 hD.n4) (fun t1 hh0 hq => ?_)
  obtain ⟨hhe, rfl⟩ := hq
  rw [hhe]
  refine ab_bif_eq 19 dX12_within_6 (by decide) (fun c_6 => ?_) (fun c_6 => ?_)
  · skip
    refine ab_aload_n dX12_within_19 rfl ?_
    refine ab_iconst (v := -1) dX12_within_20 (by decide) ?_
    refine ab_callVi [_] dX12_within_21 ml_X12_9 mk_X12_refused hM.hs (m_refused (k := 0) (b := 0) (c := 1) hM (by decide) (by omega) (by omega)) (fun v1 hh1 hq => ?_)
    obtain ⟨hv, hh⟩ := hq
    refine ab_reti dX12_within_24 ?_
    exact ab_oI_no (by unfold sp_within; rw [if_neg (fun q => by first | exact ab_tf q.1 c_6 | exact ab_tf q.2 c_16)]) hv hh
  · skip
    refine ab_aload_n dX12_within_9 rfl ?_
    refine ab_iload_n dX12_within_10 rfl ?_
    refine ab_iload dX12_within_11 rfl ?_
    refine ab_callVb [_, _] dX12_within_13 ml_X12_140 mk_X12_isCell hM.hs (m_isCell (k := 1) (b := 0) (by omega) hM hD.f1 hD.n4) (fun t2 hh2 hq => ?_)
    obtain ⟨hhe, rfl⟩ := hq
    rw [hhe]
    refine ab_bif_ne 25 dX12_within_16 (by decide) (fun c_16 => ?_) (fun c_16 => ?_)
    · skip
      have hin1 := c_6
      have hin2 := c_16
      clear c_6 c_16
      obtain ⟨X1, Y1, rfl, rfl, hX1, hY1, gX1, gY1⟩ := bd_isc_nat hin1
      obtain ⟨X2, Y2, rfl, rfl, hX2, hY2, gX2, gY2⟩ := bd_isc_nat hin2
      refine ab_iconst (v := nI 0) dX12_within_25 (by decide) ?_
      refine ab_sti (ls' := [_, _, _, _, _, _, _]) dX12_within_26 (by decide) rfl ?_
      refine ab_iconst (v := nI 0) dX12_within_28 (by decide) ?_
      refine ab_sti (ls' := [_, _, _, _, _, _, _]) dX12_within_29 (by decide) rfl ?_
      refine ab_mono ?_ (lp_mWithinAll hk hM hD hX1 hY1 hX2 hY2 (bd_n n) 0 (by omega))
      rintro v h3 ⟨x3, hx3, e3, f3⟩
      exact ⟨nI x3, hx3, ab_oI_ok (by unfold sp_within; rw [if_pos ⟨hin1, hin2⟩, nI_toInt gX1, nI_toInt gX2, nI_toInt gY1, nI_toInt gY2, f3]) (by rw [e3]; exact ab_fr.rf _)⟩
    · skip
      refine ab_aload_n dX12_within_19 rfl ?_
      refine ab_iconst (v := -1) dX12_within_20 (by decide) ?_
      refine ab_callVi [_] dX12_within_21 ml_X12_9 mk_X12_refused hM.hs (m_refused (k := 0) (b := 0) (c := 1) hM (by decide) (by omega) (by omega)) (fun v1 hh1 hq => ?_)
      obtain ⟨hv, hh⟩ := hq
      refine ab_reti dX12_within_24 ?_
      exact ab_oI_no (by unfold sp_within; rw [if_neg (fun q => by first | exact ab_tf q.1 c_6 | exact ab_tf q.2 c_16)]) hv hh
