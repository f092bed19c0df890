/-! ===== constructor: the model ===== -/
theorem mk_B_of {h : ab_H} {r k a : Nat} {s : Nat × Nat} {v : Int32} (ha : 5 + ab_n h = a) (hr : r < 5 + ab_n h) : (ab_n (ab_sr (ab_si (ab_si (ab_si (ab_new h s) (5 + ab_n h) 0 v) (5 + ab_n h) 1 v) (5 + ab_n h) 2 v) r k (5 + ab_n h)) = ab_n h + 1 ∧ ab_gr [] [r] h (ab_sr (ab_si (ab_si (ab_si (ab_new h s) (5 + ab_n h) 0 v) (5 + ab_n h) 1 v) (5 + ab_n h) 2 v) r k (5 + ab_n h)) ∧ ab_sh (ab_sr (ab_si (ab_si (ab_si (ab_new h s) (5 + ab_n h) 0 v) (5 + ab_n h) 1 v) (5 + ab_n h) 2 v) r k (5 + ab_n h)) a = s ∧ ab_r (ab_sr (ab_si (ab_si (ab_si (ab_new h s) (5 + ab_n h) 0 v) (5 + ab_n h) 1 v) (5 + ab_n h) 2 v) r k (5 + ab_n h)) r k = a ∧ (∀ j, j ≠ k → ab_r (ab_sr (ab_si (ab_si (ab_si (ab_new h s) (5 + ab_n h) 0 v) (5 + ab_n h) 1 v) (5 + ab_n h) 2 v) r k (5 + ab_n h)) r j = ab_r h r j) ∧ ∀ q, q < 3 → ab_i (ab_sr (ab_si (ab_si (ab_si (ab_new h s) (5 + ab_n h) 0 v) (5 + ab_n h) 1 v) (5 + ab_n h) 2 v) r k (5 + ab_n h)) a q = v) := by
  obtain ⟨q1, q2, q3, q4, q5, -⟩ := mk_A_of (s := s) (k := k) ha hr
  subst ha
  refine ⟨rfl, ⟨q2.1, q2.2.1, fun c hc => ⟨(q2.2.2 c hc).1, fun z => ⟨?_, ((q2.2.2 c hc).2.1 z).2⟩, (q2.2.2 c hc).2.2⟩⟩, q3, q4, q5, fun q hq => ?_⟩
  · show ab_i (ab_si (ab_si (ab_si (ab_new h s) (5 + ab_n h) 0 v) (5 + ab_n h) 1 v) (5 + ab_n h) 2 v) c = _
    rw [ab_i_off (by omega), ab_i_off (by omega), ab_i_off (by omega)]
    exact ab_up_ne _ _ (by omega)
  · show ab_i (ab_si (ab_si (ab_si (ab_new h s) (5 + ab_n h) 0 v) (5 + ab_n h) 1 v) (5 + ab_n h) 2 v) (5 + ab_n h) q = _
    rw [ab_i_si_same, ab_i_si_same, ab_i_si_same]
    rcases (show q = 0 ∨ q = 1 ∨ q = 2 by omega) with rfl | rfl | rfl
    · rfl
    · rfl
    · rfl
set_option maxRecDepth 100000 in
set_option maxHeartbeats 4000000 in
theorem lp_mri {k b : Nat} {h : ab_H} (hM : at_M (ab_sh h) (ab_r h)) : ∀ (j i : Nat) (h1 : ab_H), i + j = 4 → ab_fM [57] [] h h1 → (∀ u, u < 4 * i → ab_i h1 57 u = nI (rho0 u)) → ab_R k b mX12_rulesAtFirst 2 [some (.ref 50), some (.int (nI i))] [] h1 (ab_pv (fun h' => ab_fM [57] [] h h' ∧ ∀ u, u < 16 → ab_i h' 57 u = nI (rho0 u))) := by
  intro j
  induction j with
  | zero =>
    intro i h1 hi f hl
    have hM1 := at_M.fM f hM
    refine ab_iload_n dX12_rulesAtFirst_2 rfl ?_
    refine ab_iconst (v := nI 4) dX12_rulesAtFirst_3 (by decide) ?_
    refine ab_nicmp_ge 59 dX12_rulesAtFirst_4 (by decide) (by omega) (by omega) (fun c_4 => ?_) (fun c_4 => ?_)
    · skip
      refine ab_retv dX12_rulesAtFirst_59 ?_
      exact ⟨f, fun u hu => hl u (by omega)⟩
    · skip
      exact absurd (by omega) c_4
  | succ j ih =>
    intro i h1 hi f hl
    have hM1 := at_M.fM f hM
    refine ab_iload_n dX12_rulesAtFirst_2 rfl ?_
    refine ab_iconst (v := nI 4) dX12_rulesAtFirst_3 (by decide) ?_
    refine ab_nicmp_ge 59 dX12_rulesAtFirst_4 (by decide) (by omega) (by omega) (fun c_4 => ?_) (fun c_4 => ?_)
    · skip
      exact absurd c_4 (by omega)
    · skip
      refine ab_aload_n dX12_rulesAtFirst_7 rfl ?_
      refine ab_getR dX12_rulesAtFirst_8 fl_X12_48 hM1.hs hM1.p50_10 ?_
      refine ab_iconst (v := nI 4) dX12_rulesAtFirst_11 (by decide) ?_
      refine ab_iload_n dX12_rulesAtFirst_12 rfl ?_
      refine ab_nmulR dX12_rulesAtFirst_13 ?_
      refine ab_iload_n dX12_rulesAtFirst_14 rfl ?_
      refine ab_iast dX12_rulesAtFirst_15 hM1.s57 rfl (by omega) ?_
      refine ab_aload_n dX12_rulesAtFirst_16 rfl ?_
      refine ab_getR dX12_rulesAtFirst_17 fl_X12_48 hM1.hs hM1.p50_10 ?_
      refine ab_iconst (v := nI 4) dX12_rulesAtFirst_20 (by decide) ?_
      refine ab_iload_n dX12_rulesAtFirst_21 rfl ?_
      refine ab_nmulR dX12_rulesAtFirst_22 ?_
      refine ab_iconst (v := nI 1) dX12_rulesAtFirst_23 (by decide) ?_
      refine ab_naddR dX12_rulesAtFirst_24 ?_
      refine ab_iload_n dX12_rulesAtFirst_25 rfl ?_
      refine ab_iconst (v := nI 2) dX12_rulesAtFirst_26 (by decide) ?_
      refine ab_nxorR dX12_rulesAtFirst_27 ?_
      refine ab_iast dX12_rulesAtFirst_28 hM1.s57 rfl (by omega) ?_
      refine ab_aload_n dX12_rulesAtFirst_29 rfl ?_
      refine ab_getR dX12_rulesAtFirst_30 fl_X12_48 hM1.hs hM1.p50_10 ?_
      refine ab_iconst (v := nI 4) dX12_rulesAtFirst_33 (by decide) ?_
      refine ab_iload_n dX12_rulesAtFirst_34 rfl ?_
      refine ab_nmulR dX12_rulesAtFirst_35 ?_
      refine ab_iconst (v := nI 2) dX12_rulesAtFirst_36 (by decide) ?_
      refine ab_naddR dX12_rulesAtFirst_37 ?_
      refine ab_iload_n dX12_rulesAtFirst_38 rfl ?_
      refine ab_iconst (v := nI 1) dX12_rulesAtFirst_39 (by decide) ?_
      refine ab_nxorR dX12_rulesAtFirst_40 ?_
      refine ab_iast dX12_rulesAtFirst_41 hM1.s57 rfl (by omega) ?_
      refine ab_aload_n dX12_rulesAtFirst_42 rfl ?_
      refine ab_getR dX12_rulesAtFirst_43 fl_X12_48 hM1.hs hM1.p50_10 ?_
      refine ab_iconst (v := nI 4) dX12_rulesAtFirst_46 (by decide) ?_
      refine ab_iload_n dX12_rulesAtFirst_47 rfl ?_
      refine ab_nmulR dX12_rulesAtFirst_48 ?_
      refine ab_iconst (v := nI 3) dX12_rulesAtFirst_49 (by decide) ?_
      refine ab_naddR dX12_rulesAtFirst_50 ?_
      refine ab_iload_n dX12_rulesAtFirst_51 rfl ?_
      refine ab_iast dX12_rulesAtFirst_52 hM1.s57 rfl (by omega) ?_
      refine ab_nincR (ls' := [_, _]) dX12_rulesAtFirst_53 rfl rfl ?_
      refine ab_goto 2 dX12_rulesAtFirst_56 (by decide) ?_
      exact ih (i + 1) _ (by omega) ((((f.si _ _ (by simp) (by decide)).si _ _ (by simp) (by decide)).si _ _ (by simp) (by decide)).si _ _ (by simp) (by decide)) (rho0_st (by omega) hl (fun u => by rw [ab_i_si_same, ab_i_si_same, ab_i_si_same, ab_i_si_same]))
set_option maxRecDepth 100000 in
set_option maxHeartbeats 4000000 in
theorem m_rulesAtFirst {k b : Nat} {h : ab_H} (hM : at_M (ab_sh h) (ab_r h)) : ab_M k b mX12_rulesAtFirst [.ref 50] h (ab_pv (fun h' => ab_fM [57] [] h h' ∧ ∀ u, u < 16 → ab_i h' 57 u = nI (rho0 u))) := by
  refine ab_enter ?_
  refine ab_iconst (v := nI 0) dX12_rulesAtFirst_0 (by decide) ?_
  refine ab_sti_n (ls' := [_, _]) dX12_rulesAtFirst_1 (by decide) rfl ?_
  exact lp_mri hM 4 0 h rfl (ab_fM.rf h) (fun u hu => absurd hu (by omega))
set_option maxRecDepth 100000 in
set_option maxHeartbeats 4000000 in
theorem m_Init {k : Nat} {h0 : ab_H} (hk : 6 ≤ k) (n0 : 5 + ab_n h0 = 51) (hs0 : ab_sh h0 50 = (11 + 1, 0)) (hz0 : ab_i h0 50 = (fun _ => 0)) : ab_M k 109 mX12_init [.ref 50] h0 (ab_pv (fun h' => ab_gr [50] [50] h0 h' ∧ ab_n h' = 73 ∧ at_M (ab_sh h') (ab_r h') ∧ bd_Mo 2 0 0 h' ∧ ab_rho h' 57 rho0 ∧ sh_M s00 h' ∧ ab_i h' 50 33 = 0 ∧ ab_i h' 50 29 = 0 ∧ (∀ q, q < 3 → ab_i h' 65 q = -9 ∧ ab_i h' 69 q = -1) ∧ ∀ c, ab_i h' 51 c = 0)) := by
  refine ab_enter ?_
  refine ab_aload_n dX12_init_0 rfl ?_
  refine ab_objInit dX12_init_1 ml_X12_23 (by omega) ?_
  refine ab_aload_n dX12_init_4 rfl ?_
  refine ab_bipush (v := nI 8) dX12_init_5 (by decide) ?_
  refine ab_newa (t := 0) (b' := 108) dX12_init_7 ac_int (Or.inl ⟨rfl, rfl⟩) rfl ?_
  refine ab_putR dX12_init_9 fl_X12_1 ((nw_sh (by omega)).trans hs0) ?_
  have A0 := mk_A_of (h := h0) (r := 50) (k := 0) (s := (100 + 0, 8)) (a := 51) (by omega) (by omega)
  generalize ab_sr (ab_new h0 (100 + 0, 8)) 50 0 (5 + ab_n h0) = hp at A0 ⊢
  have hsp : ab_sh hp 50 = (11 + 1, 0) := ((A0.2.1.2.2 50 (by omega)).1).trans hs0
  refine ab_aload_n dX12_init_12 rfl ?_
  refine ab_iconst (v := nI 2) dX12_init_13 (by decide) ?_
  refine ab_putI dX12_init_14 fl_X12_29 hsp ?_
  have g1 : ab_gr [50] [50] h0 (ab_si hp 50 1 (nI 2)) := (A0.2.1.mono (S := [50]) (T := [50]) (fun _ q => by cases q) (fun _ q => q)).siN _ _ (Or.inl (by simp))
  have E1 : ∀ k, k ≠ 1 → ab_i (ab_si hp 50 1 (nI 2)) 50 k = 0 := fun k hk => by rw [ab_i_at, ab_up_ne _ _ hk, ((A0.2.1.2.2 50 (by omega)).2.1 (by simp)).1]; exact congrFun hz0 k
  have Z1 : ab_i (ab_si hp 50 1 (nI 2)) 51 = (fun _ => 0) := by rw [ab_i_off (by decide)]; exact A0.2.2.2.2.2.1
  have S1 : ab_sh (ab_si hp 50 1 (nI 2)) 51 = (100, 8) := A0.2.2.1
  have R1 : ab_r (ab_si hp 50 1 (nI 2)) 50 0 = 51 := A0.2.2.2.1
  have m1 : ab_n (ab_si hp 50 1 (nI 2)) = ab_n h0 + 1 := A0.1
  have hs1 : ab_sh (ab_si hp 50 1 (nI 2)) 50 = (11 + 1, 0) := hsp
  generalize ab_si hp 50 1 (nI 2) = h1 at g1 E1 Z1 S1 R1 m1 hs1 ⊢
  have n1 : 5 + ab_n h1 = 52 := by omega
  refine ab_aload_n dX12_init_17 rfl ?_
  refine ab_sipush (v := nI 256) dX12_init_18 (by decide) ?_
  refine ab_newa (t := 0) (b' := 86) dX12_init_21 ac_int (Or.inl ⟨rfl, rfl⟩) rfl ?_
  refine ab_putR dX12_init_23 fl_X12_33 ((nw_sh (by omega)).trans hs1) ?_
  have A2 := mk_A_of (h := h1) (r := 50) (k := 5) (s := (100 + 0, 256)) (a := 52) (by omega) (by omega)
  generalize ab_sr (ab_new h1 (100 + 0, 256)) 50 5 (5 + ab_n h1) = h2 at A2 ⊢
  have n2 : 5 + ab_n h2 = 53 := by (have := A2.1; omega)
  have hs2 : ab_sh h2 50 = (11 + 1, 0) := ((A2.2.1.2.2 50 (by omega)).1).trans hs1
  refine ab_aload_n dX12_init_26 rfl ?_
  refine ab_bipush (v := nI 88) dX12_init_27 (by decide) ?_
  refine ab_newa (t := 0) (b' := 78) dX12_init_29 ac_int (Or.inl ⟨rfl, rfl⟩) rfl ?_
  refine ab_putR dX12_init_31 fl_X12_36 ((nw_sh (by omega)).trans hs2) ?_
  have A3 := mk_A_of (h := h2) (r := 50) (k := 6) (s := (100 + 0, 88)) (a := 53) (by omega) (by omega)
  generalize ab_sr (ab_new h2 (100 + 0, 88)) 50 6 (5 + ab_n h2) = h3 at A3 ⊢
  have n3 : 5 + ab_n h3 = 54 := by (have := A3.1; omega)
  have hs3 : ab_sh h3 50 = (11 + 1, 0) := ((A3.2.1.2.2 50 (by omega)).1).trans hs2
  refine ab_aload_n dX12_init_34 rfl ?_
  refine ab_bipush (v := nI 88) dX12_init_35 (by decide) ?_
  refine ab_newa (t := 0) (b' := 70) dX12_init_37 ac_int (Or.inl ⟨rfl, rfl⟩) rfl ?_
  refine ab_putR dX12_init_39 fl_X12_39 ((nw_sh (by omega)).trans hs3) ?_
  have A4 := mk_A_of (h := h3) (r := 50) (k := 7) (s := (100 + 0, 88)) (a := 54) (by omega) (by omega)
  generalize ab_sr (ab_new h3 (100 + 0, 88)) 50 7 (5 + ab_n h3) = h4 at A4 ⊢
  have n4 : 5 + ab_n h4 = 55 := by (have := A4.1; omega)
  have hs4 : ab_sh h4 50 = (11 + 1, 0) := ((A4.2.1.2.2 50 (by omega)).1).trans hs3
  refine ab_aload_n dX12_init_42 rfl ?_
  refine ab_bipush (v := nI 88) dX12_init_43 (by decide) ?_
  refine ab_newa (t := 0) (b' := 62) dX12_init_45 ac_int (Or.inl ⟨rfl, rfl⟩) rfl ?_
  refine ab_putR dX12_init_47 fl_X12_42 ((nw_sh (by omega)).trans hs4) ?_
  have A5 := mk_A_of (h := h4) (r := 50) (k := 8) (s := (100 + 0, 88)) (a := 55) (by omega) (by omega)
  generalize ab_sr (ab_new h4 (100 + 0, 88)) 50 8 (5 + ab_n h4) = h5 at A5 ⊢
  have n5 : 5 + ab_n h5 = 56 := by (have := A5.1; omega)
  have hs5 : ab_sh h5 50 = (11 + 1, 0) := ((A5.2.1.2.2 50 (by omega)).1).trans hs4
  refine ab_aload_n dX12_init_50 rfl ?_
  refine ab_bipush (v := nI 88) dX12_init_51 (by decide) ?_
  refine ab_newa (t := 0) (b' := 54) dX12_init_53 ac_int (Or.inl ⟨rfl, rfl⟩) rfl ?_
  refine ab_putR dX12_init_55 fl_X12_45 ((nw_sh (by omega)).trans hs5) ?_
  have A6 := mk_A_of (h := h5) (r := 50) (k := 9) (s := (100 + 0, 88)) (a := 56) (by omega) (by omega)
  generalize ab_sr (ab_new h5 (100 + 0, 88)) 50 9 (5 + ab_n h5) = h6 at A6 ⊢
  have n6 : 5 + ab_n h6 = 57 := by (have := A6.1; omega)
  have hs6 : ab_sh h6 50 = (11 + 1, 0) := ((A6.2.1.2.2 50 (by omega)).1).trans hs5
  refine ab_aload_n dX12_init_58 rfl ?_
  refine ab_bipush (v := nI 16) dX12_init_59 (by decide) ?_
  refine ab_newa (t := 0) (b' := 52) dX12_init_61 ac_int (Or.inl ⟨rfl, rfl⟩) rfl ?_
  refine ab_putR dX12_init_63 fl_X12_48 ((nw_sh (by omega)).trans hs6) ?_
  have A7 := mk_A_of (h := h6) (r := 50) (k := 10) (s := (100 + 0, 16)) (a := 57) (by omega) (by omega)
  generalize ab_sr (ab_new h6 (100 + 0, 16)) 50 10 (5 + ab_n h6) = h7 at A7 ⊢
  have n7 : 5 + ab_n h7 = 58 := by (have := A7.1; omega)
  have hs7 : ab_sh h7 50 = (11 + 1, 0) := ((A7.2.1.2.2 50 (by omega)).1).trans hs6
  refine ab_aload_n dX12_init_66 rfl ?_
  refine ab_iconst (v := nI 4) dX12_init_67 (by decide) ?_
  refine ab_newa (t := 1) (b' := 51) dX12_init_68 ac_long (Or.inr (Or.inl ⟨rfl, rfl⟩)) rfl ?_
  refine ab_putR dX12_init_70 fl_X12_51 ((nw_sh (by omega)).trans hs7) ?_
  have A8 := mk_A_of (h := h7) (r := 50) (k := 11) (s := (100 + 1, 4)) (a := 58) (by omega) (by omega)
  generalize ab_sr (ab_new h7 (100 + 1, 4)) 50 11 (5 + ab_n h7) = h8 at A8 ⊢
  have n8 : 5 + ab_n h8 = 59 := by (have := A8.1; omega)
  have hs8 : ab_sh h8 50 = (11 + 1, 0) := ((A8.2.1.2.2 50 (by omega)).1).trans hs7
  refine ab_aload_n dX12_init_73 rfl ?_
  refine ab_iconst (v := nI 4) dX12_init_74 (by decide) ?_
  refine ab_newa (t := 1) (b' := 50) dX12_init_75 ac_long (Or.inr (Or.inl ⟨rfl, rfl⟩)) rfl ?_
  refine ab_putR dX12_init_77 fl_X12_55 ((nw_sh (by omega)).trans hs8) ?_
  have A9 := mk_A_of (h := h8) (r := 50) (k := 12) (s := (100 + 1, 4)) (a := 59) (by omega) (by omega)
  generalize ab_sr (ab_new h8 (100 + 1, 4)) 50 12 (5 + ab_n h8) = h9 at A9 ⊢
  have n9 : 5 + ab_n h9 = 60 := by (have := A9.1; omega)
  have hs9 : ab_sh h9 50 = (11 + 1, 0) := ((A9.2.1.2.2 50 (by omega)).1).trans hs8
  refine ab_aload_n dX12_init_80 rfl ?_
  refine ab_bipush (v := nI 16) dX12_init_81 (by decide) ?_
  refine ab_newa (t := 0) (b' := 48) dX12_init_83 ac_int (Or.inl ⟨rfl, rfl⟩) rfl ?_
  refine ab_putR dX12_init_85 fl_X12_58 ((nw_sh (by omega)).trans hs9) ?_
  have A10 := mk_A_of (h := h9) (r := 50) (k := 13) (s := (100 + 0, 16)) (a := 60) (by omega) (by omega)
  generalize ab_sr (ab_new h9 (100 + 0, 16)) 50 13 (5 + ab_n h9) = h10 at A10 ⊢
  have n10 : 5 + ab_n h10 = 61 := by (have := A10.1; omega)
  have hs10 : ab_sh h10 50 = (11 + 1, 0) := ((A10.2.1.2.2 50 (by omega)).1).trans hs9
  refine ab_aload_n dX12_init_88 rfl ?_
  refine ab_bipush (v := nI 16) dX12_init_89 (by decide) ?_
  refine ab_newa (t := 0) (b' := 46) dX12_init_91 ac_int (Or.inl ⟨rfl, rfl⟩) rfl ?_
  refine ab_putR dX12_init_93 fl_X12_61 ((nw_sh (by omega)).trans hs10) ?_
  have A11 := mk_A_of (h := h10) (r := 50) (k := 14) (s := (100 + 0, 16)) (a := 61) (by omega) (by omega)
  generalize ab_sr (ab_new h10 (100 + 0, 16)) 50 14 (5 + ab_n h10) = h11 at A11 ⊢
  have n11 : 5 + ab_n h11 = 62 := by (have := A11.1; omega)
  have hs11 : ab_sh h11 50 = (11 + 1, 0) := ((A11.2.1.2.2 50 (by omega)).1).trans hs10
  refine ab_aload_n dX12_init_96 rfl ?_
  refine ab_bipush (v := nI 40) dX12_init_97 (by decide) ?_
  refine ab_newa (t := 0) (b' := 42) dX12_init_99 ac_int (Or.inl ⟨rfl, rfl⟩) rfl ?_
  refine ab_putR dX12_init_101 fl_X12_64 ((nw_sh (by omega)).trans hs11) ?_
  have A12 := mk_A_of (h := h11) (r := 50) (k := 16) (s := (100 + 0, 40)) (a := 62) (by omega) (by omega)
  generalize ab_sr (ab_new h11 (100 + 0, 40)) 50 16 (5 + ab_n h11) = h12 at A12 ⊢
  have n12 : 5 + ab_n h12 = 63 := by (have := A12.1; omega)
  have hs12 : ab_sh h12 50 = (11 + 1, 0) := ((A12.2.1.2.2 50 (by omega)).1).trans hs11
  refine ab_aload_n dX12_init_104 rfl ?_
  refine ab_bipush (v := nI 10) dX12_init_105 (by decide) ?_
  refine ab_newa (t := 0) (b' := 41) dX12_init_107 ac_int (Or.inl ⟨rfl, rfl⟩) rfl ?_
  refine ab_putR dX12_init_109 fl_X12_67 ((nw_sh (by omega)).trans hs12) ?_
  have A13 := mk_A_of (h := h12) (r := 50) (k := 18) (s := (100 + 0, 10)) (a := 63) (by omega) (by omega)
  generalize ab_sr (ab_new h12 (100 + 0, 10)) 50 18 (5 + ab_n h12) = h13 at A13 ⊢
  have n13 : 5 + ab_n h13 = 64 := by (have := A13.1; omega)
  have hs13 : ab_sh h13 50 = (11 + 1, 0) := ((A13.2.1.2.2 50 (by omega)).1).trans hs12
  refine ab_aload_n dX12_init_112 rfl ?_
  refine ab_bipush (v := nI 30) dX12_init_113 (by decide) ?_
  refine ab_newa (t := 0) (b' := 38) dX12_init_115 ac_int (Or.inl ⟨rfl, rfl⟩) rfl ?_
  refine ab_putR dX12_init_117 fl_X12_70 ((nw_sh (by omega)).trans hs13) ?_
  have A14 := mk_A_of (h := h13) (r := 50) (k := 19) (s := (100 + 0, 30)) (a := 64) (by omega) (by omega)
  generalize ab_sr (ab_new h13 (100 + 0, 30)) 50 19 (5 + ab_n h13) = h14 at A14 ⊢
  have n14 : 5 + ab_n h14 = 65 := by (have := A14.1; omega)
  have hs14 : ab_sh h14 50 = (11 + 1, 0) := ((A14.2.1.2.2 50 (by omega)).1).trans hs13
  refine ab_aload_n dX12_init_120 rfl ?_
  refine ab_iconst (v := nI 3) dX12_init_121 (by decide) ?_
  refine ab_newa (t := 0) (b' := 37) dX12_init_122 ac_int (Or.inl ⟨rfl, rfl⟩) rfl ?_
  refine ab_dup dX12_init_124 rfl ?_
  refine ab_iconst (v := nI 0) dX12_init_125 (by decide) ?_
  refine ab_bipush (v := -9) dX12_init_126 (by decide) ?_
  refine ab_iast dX12_init_128 (ab_up_self _ _ _) rfl (by omega) ?_
  refine ab_dup dX12_init_129 rfl ?_
  refine ab_iconst (v := nI 1) dX12_init_130 (by decide) ?_
  refine ab_bipush (v := -9) dX12_init_131 (by decide) ?_
  refine ab_iast dX12_init_133 (ab_up_self _ _ _) rfl (by omega) ?_
  refine ab_dup dX12_init_134 rfl ?_
  refine ab_iconst (v := nI 2) dX12_init_135 (by decide) ?_
  refine ab_bipush (v := -9) dX12_init_136 (by decide) ?_
  refine ab_iast dX12_init_138 (ab_up_self _ _ _) rfl (by omega) ?_
  refine ab_putR dX12_init_139 fl_X12_73 ((nw_sh (by omega)).trans hs14) ?_
  have A15 := mk_B_of (h := h14) (r := 50) (k := 22) (s := (100 + 0, 3)) (v := -9) (a := 65) (by omega) (by omega)
  generalize ab_sr (ab_si (ab_si (ab_si (ab_new h14 (100 + 0, 3)) (5 + ab_n h14) 0 (-9)) (5 + ab_n h14) 1 (-9)) (5 + ab_n h14) 2 (-9)) 50 22 (5 + ab_n h14) = h15 at A15 ⊢
  have n15 : 5 + ab_n h15 = 66 := by (have := A15.1; omega)
  have hs15 : ab_sh h15 50 = (11 + 1, 0) := ((A15.2.1.2.2 50 (by omega)).1).trans hs14
  refine ab_aload_n dX12_init_142 rfl ?_
  refine ab_iconst (v := nI 3) dX12_init_143 (by decide) ?_
  refine ab_newa (t := 0) (b' := 36) dX12_init_144 ac_int (Or.inl ⟨rfl, rfl⟩) rfl ?_
  refine ab_putR dX12_init_146 fl_X12_76 ((nw_sh (by omega)).trans hs15) ?_
  have A16 := mk_A_of (h := h15) (r := 50) (k := 23) (s := (100 + 0, 3)) (a := 66) (by omega) (by omega)
  generalize ab_sr (ab_new h15 (100 + 0, 3)) 50 23 (5 + ab_n h15) = h16 at A16 ⊢
  have n16 : 5 + ab_n h16 = 67 := by (have := A16.1; omega)
  have hs16 : ab_sh h16 50 = (11 + 1, 0) := ((A16.2.1.2.2 50 (by omega)).1).trans hs15
  refine ab_aload_n dX12_init_149 rfl ?_
  refine ab_bipush (v := nI 27) dX12_init_150 (by decide) ?_
  refine ab_newa (t := 0) (b' := 33) dX12_init_152 ac_int (Or.inl ⟨rfl, rfl⟩) rfl ?_
  refine ab_putR dX12_init_154 fl_X12_79 ((nw_sh (by omega)).trans hs16) ?_
  have A17 := mk_A_of (h := h16) (r := 50) (k := 24) (s := (100 + 0, 27)) (a := 67) (by omega) (by omega)
  generalize ab_sr (ab_new h16 (100 + 0, 27)) 50 24 (5 + ab_n h16) = h17 at A17 ⊢
  have n17 : 5 + ab_n h17 = 68 := by (have := A17.1; omega)
  have hs17 : ab_sh h17 50 = (11 + 1, 0) := ((A17.2.1.2.2 50 (by omega)).1).trans hs16
  refine ab_aload_n dX12_init_157 rfl ?_
  refine ab_bipush (v := nI 27) dX12_init_158 (by decide) ?_
  refine ab_newa (t := 0) (b' := 30) dX12_init_160 ac_int (Or.inl ⟨rfl, rfl⟩) rfl ?_
  refine ab_putR dX12_init_162 fl_X12_82 ((nw_sh (by omega)).trans hs17) ?_
  have A18 := mk_A_of (h := h17) (r := 50) (k := 25) (s := (100 + 0, 27)) (a := 68) (by omega) (by omega)
  generalize ab_sr (ab_new h17 (100 + 0, 27)) 50 25 (5 + ab_n h17) = h18 at A18 ⊢
  have n18 : 5 + ab_n h18 = 69 := by (have := A18.1; omega)
  have hs18 : ab_sh h18 50 = (11 + 1, 0) := ((A18.2.1.2.2 50 (by omega)).1).trans hs17
  refine ab_aload_n dX12_init_165 rfl ?_
  refine ab_iconst (v := nI 3) dX12_init_166 (by decide) ?_
  refine ab_newa (t := 0) (b' := 29) dX12_init_167 ac_int (Or.inl ⟨rfl, rfl⟩) rfl ?_
  refine ab_dup dX12_init_169 rfl ?_
  refine ab_iconst (v := nI 0) dX12_init_170 (by decide) ?_
  refine ab_iconst (v := -1) dX12_init_171 (by decide) ?_
  refine ab_iast dX12_init_172 (ab_up_self _ _ _) rfl (by omega) ?_
  refine ab_dup dX12_init_173 rfl ?_
  refine ab_iconst (v := nI 1) dX12_init_174 (by decide) ?_
  refine ab_iconst (v := -1) dX12_init_175 (by decide) ?_
  refine ab_iast dX12_init_176 (ab_up_self _ _ _) rfl (by omega) ?_
  refine ab_dup dX12_init_177 rfl ?_
  refine ab_iconst (v := nI 2) dX12_init_178 (by decide) ?_
  refine ab_iconst (v := -1) dX12_init_179 (by decide) ?_
  refine ab_iast dX12_init_180 (ab_up_self _ _ _) rfl (by omega) ?_
  refine ab_putR dX12_init_181 fl_X12_85 ((nw_sh (by omega)).trans hs18) ?_
  have A19 := mk_B_of (h := h18) (r := 50) (k := 26) (s := (100 + 0, 3)) (v := -1) (a := 69) (by omega) (by omega)
  generalize ab_sr (ab_si (ab_si (ab_si (ab_new h18 (100 + 0, 3)) (5 + ab_n h18) 0 (-1)) (5 + ab_n h18) 1 (-1)) (5 + ab_n h18) 2 (-1)) 50 26 (5 + ab_n h18) = h19 at A19 ⊢
  have n19 : 5 + ab_n h19 = 70 := by (have := A19.1; omega)
  have hs19 : ab_sh h19 50 = (11 + 1, 0) := ((A19.2.1.2.2 50 (by omega)).1).trans hs18
  refine ab_aload_n dX12_init_184 rfl ?_
  refine ab_bipush (v := nI 120) dX12_init_185 (by decide) ?_
  refine ab_newa (t := 0) (b' := 19) dX12_init_187 ac_int (Or.inl ⟨rfl, rfl⟩) rfl ?_
  refine ab_putR dX12_init_189 fl_X12_88 ((nw_sh (by omega)).trans hs19) ?_
  have A20 := mk_A_of (h := h19) (r := 50) (k := 27) (s := (100 + 0, 120)) (a := 70) (by omega) (by omega)
  generalize ab_sr (ab_new h19 (100 + 0, 120)) 50 27 (5 + ab_n h19) = h20 at A20 ⊢
  have n20 : 5 + ab_n h20 = 71 := by (have := A20.1; omega)
  have hs20 : ab_sh h20 50 = (11 + 1, 0) := ((A20.2.1.2.2 50 (by omega)).1).trans hs19
  refine ab_aload_n dX12_init_192 rfl ?_
  refine ab_bipush (v := nI 72) dX12_init_193 (by decide) ?_
  refine ab_newa (t := 0) (b' := 13) dX12_init_195 ac_int (Or.inl ⟨rfl, rfl⟩) rfl ?_
  refine ab_putR dX12_init_197 fl_X12_91 ((nw_sh (by omega)).trans hs20) ?_
  have A21 := mk_A_of (h := h20) (r := 50) (k := 28) (s := (100 + 0, 72)) (a := 71) (by omega) (by omega)
  generalize ab_sr (ab_new h20 (100 + 0, 72)) 50 28 (5 + ab_n h20) = h21 at A21 ⊢
  have n21 : 5 + ab_n h21 = 72 := by (have := A21.1; omega)
  have hs21 : ab_sh h21 50 = (11 + 1, 0) := ((A21.2.1.2.2 50 (by omega)).1).trans hs20
  refine ab_aload_n dX12_init_200 rfl ?_
  refine ab_iconst (v := nI 5) dX12_init_201 (by decide) ?_
  refine ab_newa (t := 0) (b' := 12) dX12_init_202 ac_int (Or.inl ⟨rfl, rfl⟩) rfl ?_
  refine ab_putR dX12_init_204 fl_X12_94 ((nw_sh (by omega)).trans hs21) ?_
  have A22 := mk_A_of (h := h21) (r := 50) (k := 31) (s := (100 + 0, 5)) (a := 72) (by omega) (by omega)
  generalize ab_sr (ab_new h21 (100 + 0, 5)) 50 31 (5 + ab_n h21) = h22 at A22 ⊢
  have n22 : 5 + ab_n h22 = 73 := by (have := A22.1; omega)
  have hs22 : ab_sh h22 50 = (11 + 1, 0) := ((A22.2.1.2.2 50 (by omega)).1).trans hs21
  refine ab_aload_n dX12_init_207 rfl ?_
  refine ab_bipush (v := nI 16) dX12_init_208 (by decide) ?_
  refine ab_newa (t := 0) (b' := 10) dX12_init_210 ac_int (Or.inl ⟨rfl, rfl⟩) rfl ?_
  refine ab_putR dX12_init_212 fl_X12_97 ((nw_sh (by omega)).trans hs22) ?_
  have A23 := mk_A_of (h := h22) (r := 50) (k := 32) (s := (100 + 0, 16)) (a := 73) (by omega) (by omega)
  generalize ab_sr (ab_new h22 (100 + 0, 16)) 50 32 (5 + ab_n h22) = h23 at A23 ⊢
  have n23 : 5 + ab_n h23 = 74 := by (have := A23.1; omega)
  have hs23 : ab_sh h23 50 = (11 + 1, 0) := ((A23.2.1.2.2 50 (by omega)).1).trans hs22
  refine ab_aload_n dX12_init_215 rfl ?_
  refine ab_bipush (v := nI 16) dX12_init_216 (by decide) ?_
  refine ab_newa (t := 0) (b' := 8) dX12_init_218 ac_int (Or.inl ⟨rfl, rfl⟩) rfl ?_
  refine ab_putR dX12_init_220 fl_X12_100 ((nw_sh (by omega)).trans hs23) ?_
  have A24 := mk_A_of (h := h23) (r := 50) (k := 39) (s := (100 + 0, 16)) (a := 74) (by omega) (by omega)
  generalize ab_sr (ab_new h23 (100 + 0, 16)) 50 39 (5 + ab_n h23) = h24 at A24 ⊢
  have n24 : 5 + ab_n h24 = 75 := by (have := A24.1; omega)
  have hs24 : ab_sh h24 50 = (11 + 1, 0) := ((A24.2.1.2.2 50 (by omega)).1).trans hs23
  refine ab_aload_n dX12_init_223 rfl ?_
  refine ab_bipush (v := nI 40) dX12_init_224 (by decide) ?_
  refine ab_newa (t := 0) (b' := 4) dX12_init_226 ac_int (Or.inl ⟨rfl, rfl⟩) rfl ?_
  refine ab_putR dX12_init_228 fl_X12_103 ((nw_sh (by omega)).trans hs24) ?_
  have A25 := mk_A_of (h := h24) (r := 50) (k := 40) (s := (100 + 0, 40)) (a := 75) (by omega) (by omega)
  generalize ab_sr (ab_new h24 (100 + 0, 40)) 50 40 (5 + ab_n h24) = h25 at A25 ⊢
  have n25 : 5 + ab_n h25 = 76 := by (have := A25.1; omega)
  have hs25 : ab_sh h25 50 = (11 + 1, 0) := ((A25.2.1.2.2 50 (by omega)).1).trans hs24
  refine ab_aload_n dX12_init_231 rfl ?_
  refine ab_bipush (v := nI 10) dX12_init_232 (by decide) ?_
  refine ab_newa (t := 0) (b' := 3) dX12_init_234 ac_int (Or.inl ⟨rfl, rfl⟩) rfl ?_
  refine ab_putR dX12_init_236 fl_X12_106 ((nw_sh (by omega)).trans hs25) ?_
  have A26 := mk_A_of (h := h25) (r := 50) (k := 41) (s := (100 + 0, 10)) (a := 76) (by omega) (by omega)
  generalize ab_sr (ab_new h25 (100 + 0, 10)) 50 41 (5 + ab_n h25) = h26 at A26 ⊢
  have n26 : 5 + ab_n h26 = 77 := by (have := A26.1; omega)
  have hs26 : ab_sh h26 50 = (11 + 1, 0) := ((A26.2.1.2.2 50 (by omega)).1).trans hs25
  refine ab_aload_n dX12_init_239 rfl ?_
  refine ab_bipush (v := nI 30) dX12_init_240 (by decide) ?_
  refine ab_newa (t := 0) (b' := 0) dX12_init_242 ac_int (Or.inl ⟨rfl, rfl⟩) rfl ?_
  refine ab_putR dX12_init_244 fl_X12_109 ((nw_sh (by omega)).trans hs26) ?_
  have A27 := mk_A_of (h := h26) (r := 50) (k := 42) (s := (100 + 0, 30)) (a := 77) (by omega) (by omega)
  generalize ab_sr (ab_new h26 (100 + 0, 30)) 50 42 (5 + ab_n h26) = h27 at A27 ⊢
  have n27 : 5 + ab_n h27 = 78 := by (have := A27.1; omega)
  have hs27 : ab_sh h27 50 = (11 + 1, 0) := ((A27.2.1.2.2 50 (by omega)).1).trans hs26
  have G27 := ab_gr.rf (S := []) (T := [50]) h27
  have G26 := A27.2.1.trans G27 (fun _ q => q) (fun _ q => q)
  have G25 := A26.2.1.trans G26 (fun _ q => q) (fun _ q => q)
  have G24 := A25.2.1.trans G25 (fun _ q => q) (fun _ q => q)
  have G23 := A24.2.1.trans G24 (fun _ q => q) (fun _ q => q)
  have G22 := A23.2.1.trans G23 (fun _ q => q) (fun _ q => q)
  have G21 := A22.2.1.trans G22 (fun _ q => q) (fun _ q => q)
  have G20 := A21.2.1.trans G21 (fun _ q => q) (fun _ q => q)
  have G19 := A20.2.1.trans G20 (fun _ q => q) (fun _ q => q)
  have G18 := A19.2.1.trans G19 (fun _ q => q) (fun _ q => q)
  have G17 := A18.2.1.trans G18 (fun _ q => q) (fun _ q => q)
  have G16 := A17.2.1.trans G17 (fun _ q => q) (fun _ q => q)
  have G15 := A16.2.1.trans G16 (fun _ q => q) (fun _ q => q)
  have G14 := A15.2.1.trans G15 (fun _ q => q) (fun _ q => q)
  have G13 := A14.2.1.trans G14 (fun _ q => q) (fun _ q => q)
  have G12 := A13.2.1.trans G13 (fun _ q => q) (fun _ q => q)
  have G11 := A12.2.1.trans G12 (fun _ q => q) (fun _ q => q)
  have G10 := A11.2.1.trans G11 (fun _ q => q) (fun _ q => q)
  have G9 := A10.2.1.trans G10 (fun _ q => q) (fun _ q => q)
  have G8 := A9.2.1.trans G9 (fun _ q => q) (fun _ q => q)
  have G7 := A8.2.1.trans G8 (fun _ q => q) (fun _ q => q)
  have G6 := A7.2.1.trans G7 (fun _ q => q) (fun _ q => q)
  have G5 := A6.2.1.trans G6 (fun _ q => q) (fun _ q => q)
  have G4 := A5.2.1.trans G5 (fun _ q => q) (fun _ q => q)
  have G3 := A4.2.1.trans G4 (fun _ q => q) (fun _ q => q)
  have G2 := A3.2.1.trans G3 (fun _ q => q) (fun _ q => q)
  have G1 := A2.2.1.trans G2 (fun _ q => q) (fun _ q => q)
  have P1 : ab_r h27 50 0 = 51 := ((A27.2.2.2.2.1 0 (by decide)).trans ((A26.2.2.2.2.1 0 (by decide)).trans ((A25.2.2.2.2.1 0 (by decide)).trans ((A24.2.2.2.2.1 0 (by decide)).trans ((A23.2.2.2.2.1 0 (by decide)).trans ((A22.2.2.2.2.1 0 (by decide)).trans ((A21.2.2.2.2.1 0 (by decide)).trans ((A20.2.2.2.2.1 0 (by decide)).trans ((A19.2.2.2.2.1 0 (by decide)).trans ((A18.2.2.2.2.1 0 (by decide)).trans ((A17.2.2.2.2.1 0 (by decide)).trans ((A16.2.2.2.2.1 0 (by decide)).trans ((A15.2.2.2.2.1 0 (by decide)).trans ((A14.2.2.2.2.1 0 (by decide)).trans ((A13.2.2.2.2.1 0 (by decide)).trans ((A12.2.2.2.2.1 0 (by decide)).trans ((A11.2.2.2.2.1 0 (by decide)).trans ((A10.2.2.2.2.1 0 (by decide)).trans ((A9.2.2.2.2.1 0 (by decide)).trans ((A8.2.2.2.2.1 0 (by decide)).trans ((A7.2.2.2.2.1 0 (by decide)).trans ((A6.2.2.2.2.1 0 (by decide)).trans ((A5.2.2.2.2.1 0 (by decide)).trans ((A4.2.2.2.2.1 0 (by decide)).trans ((A3.2.2.2.2.1 0 (by decide)).trans ((A2.2.2.2.2.1 0 (by decide)).trans R1))))))))))))))))))))))))))
  have U1 : ab_sh h27 51 = (100, 8) := ((G1.2.2 51 (by omega)).1).trans S1
  have P2 : ab_r h27 50 5 = 52 := ((A27.2.2.2.2.1 5 (by decide)).trans ((A26.2.2.2.2.1 5 (by decide)).trans ((A25.2.2.2.2.1 5 (by decide)).trans ((A24.2.2.2.2.1 5 (by decide)).trans ((A23.2.2.2.2.1 5 (by decide)).trans ((A22.2.2.2.2.1 5 (by decide)).trans ((A21.2.2.2.2.1 5 (by decide)).trans ((A20.2.2.2.2.1 5 (by decide)).trans ((A19.2.2.2.2.1 5 (by decide)).trans ((A18.2.2.2.2.1 5 (by decide)).trans ((A17.2.2.2.2.1 5 (by decide)).trans ((A16.2.2.2.2.1 5 (by decide)).trans ((A15.2.2.2.2.1 5 (by decide)).trans ((A14.2.2.2.2.1 5 (by decide)).trans ((A13.2.2.2.2.1 5 (by decide)).trans ((A12.2.2.2.2.1 5 (by decide)).trans ((A11.2.2.2.2.1 5 (by decide)).trans ((A10.2.2.2.2.1 5 (by decide)).trans ((A9.2.2.2.2.1 5 (by decide)).trans ((A8.2.2.2.2.1 5 (by decide)).trans ((A7.2.2.2.2.1 5 (by decide)).trans ((A6.2.2.2.2.1 5 (by decide)).trans ((A5.2.2.2.2.1 5 (by decide)).trans ((A4.2.2.2.2.1 5 (by decide)).trans ((A3.2.2.2.2.1 5 (by decide)).trans A2.2.2.2.1)))))))))))))))))))))))))
  have U2 : ab_sh h27 52 = (100, 256) := ((G2.2.2 52 (by omega)).1).trans A2.2.2.1
  have P3 : ab_r h27 50 6 = 53 := ((A27.2.2.2.2.1 6 (by decide)).trans ((A26.2.2.2.2.1 6 (by decide)).trans ((A25.2.2.2.2.1 6 (by decide)).trans ((A24.2.2.2.2.1 6 (by decide)).trans ((A23.2.2.2.2.1 6 (by decide)).trans ((A22.2.2.2.2.1 6 (by decide)).trans ((A21.2.2.2.2.1 6 (by decide)).trans ((A20.2.2.2.2.1 6 (by decide)).trans ((A19.2.2.2.2.1 6 (by decide)).trans ((A18.2.2.2.2.1 6 (by decide)).trans ((A17.2.2.2.2.1 6 (by decide)).trans ((A16.2.2.2.2.1 6 (by decide)).trans ((A15.2.2.2.2.1 6 (by decide)).trans ((A14.2.2.2.2.1 6 (by decide)).trans ((A13.2.2.2.2.1 6 (by decide)).trans ((A12.2.2.2.2.1 6 (by decide)).trans ((A11.2.2.2.2.1 6 (by decide)).trans ((A10.2.2.2.2.1 6 (by decide)).trans ((A9.2.2.2.2.1 6 (by decide)).trans ((A8.2.2.2.2.1 6 (by decide)).trans ((A7.2.2.2.2.1 6 (by decide)).trans ((A6.2.2.2.2.1 6 (by decide)).trans ((A5.2.2.2.2.1 6 (by decide)).trans ((A4.2.2.2.2.1 6 (by decide)).trans A3.2.2.2.1))))))))))))))))))))))))
  have U3 : ab_sh h27 53 = (100, 88) := ((G3.2.2 53 (by omega)).1).trans A3.2.2.1
  have P4 : ab_r h27 50 7 = 54 := ((A27.2.2.2.2.1 7 (by decide)).trans ((A26.2.2.2.2.1 7 (by decide)).trans ((A25.2.2.2.2.1 7 (by decide)).trans ((A24.2.2.2.2.1 7 (by decide)).trans ((A23.2.2.2.2.1 7 (by decide)).trans ((A22.2.2.2.2.1 7 (by decide)).trans ((A21.2.2.2.2.1 7 (by decide)).trans ((A20.2.2.2.2.1 7 (by decide)).trans ((A19.2.2.2.2.1 7 (by decide)).trans ((A18.2.2.2.2.1 7 (by decide)).trans ((A17.2.2.2.2.1 7 (by decide)).trans ((A16.2.2.2.2.1 7 (by decide)).trans ((A15.2.2.2.2.1 7 (by decide)).trans ((A14.2.2.2.2.1 7 (by decide)).trans ((A13.2.2.2.2.1 7 (by decide)).trans ((A12.2.2.2.2.1 7 (by decide)).trans ((A11.2.2.2.2.1 7 (by decide)).trans ((A10.2.2.2.2.1 7 (by decide)).trans ((A9.2.2.2.2.1 7 (by decide)).trans ((A8.2.2.2.2.1 7 (by decide)).trans ((A7.2.2.2.2.1 7 (by decide)).trans ((A6.2.2.2.2.1 7 (by decide)).trans ((A5.2.2.2.2.1 7 (by decide)).trans A4.2.2.2.1)))))))))))))))))))))))
  have U4 : ab_sh h27 54 = (100, 88) := ((G4.2.2 54 (by omega)).1).trans A4.2.2.1
  have P5 : ab_r h27 50 8 = 55 := ((A27.2.2.2.2.1 8 (by decide)).trans ((A26.2.2.2.2.1 8 (by decide)).trans ((A25.2.2.2.2.1 8 (by decide)).trans ((A24.2.2.2.2.1 8 (by decide)).trans ((A23.2.2.2.2.1 8 (by decide)).trans ((A22.2.2.2.2.1 8 (by decide)).trans ((A21.2.2.2.2.1 8 (by decide)).trans ((A20.2.2.2.2.1 8 (by decide)).trans ((A19.2.2.2.2.1 8 (by decide)).trans ((A18.2.2.2.2.1 8 (by decide)).trans ((A17.2.2.2.2.1 8 (by decide)).trans ((A16.2.2.2.2.1 8 (by decide)).trans ((A15.2.2.2.2.1 8 (by decide)).trans ((A14.2.2.2.2.1 8 (by decide)).trans ((A13.2.2.2.2.1 8 (by decide)).trans ((A12.2.2.2.2.1 8 (by decide)).trans ((A11.2.2.2.2.1 8 (by decide)).trans ((A10.2.2.2.2.1 8 (by decide)).trans ((A9.2.2.2.2.1 8 (by decide)).trans ((A8.2.2.2.2.1 8 (by decide)).trans ((A7.2.2.2.2.1 8 (by decide)).trans ((A6.2.2.2.2.1 8 (by decide)).trans A5.2.2.2.1))))))))))))))))))))))
  have U5 : ab_sh h27 55 = (100, 88) := ((G5.2.2 55 (by omega)).1).trans A5.2.2.1
  have P6 : ab_r h27 50 9 = 56 := ((A27.2.2.2.2.1 9 (by decide)).trans ((A26.2.2.2.2.1 9 (by decide)).trans ((A25.2.2.2.2.1 9 (by decide)).trans ((A24.2.2.2.2.1 9 (by decide)).trans ((A23.2.2.2.2.1 9 (by decide)).trans ((A22.2.2.2.2.1 9 (by decide)).trans ((A21.2.2.2.2.1 9 (by decide)).trans ((A20.2.2.2.2.1 9 (by decide)).trans ((A19.2.2.2.2.1 9 (by decide)).trans ((A18.2.2.2.2.1 9 (by decide)).trans ((A17.2.2.2.2.1 9 (by decide)).trans ((A16.2.2.2.2.1 9 (by decide)).trans ((A15.2.2.2.2.1 9 (by decide)).trans ((A14.2.2.2.2.1 9 (by decide)).trans ((A13.2.2.2.2.1 9 (by decide)).trans ((A12.2.2.2.2.1 9 (by decide)).trans ((A11.2.2.2.2.1 9 (by decide)).trans ((A10.2.2.2.2.1 9 (by decide)).trans ((A9.2.2.2.2.1 9 (by decide)).trans ((A8.2.2.2.2.1 9 (by decide)).trans ((A7.2.2.2.2.1 9 (by decide)).trans A6.2.2.2.1)))))))))))))))))))))
  have U6 : ab_sh h27 56 = (100, 88) := ((G6.2.2 56 (by omega)).1).trans A6.2.2.1
  have P7 : ab_r h27 50 10 = 57 := ((A27.2.2.2.2.1 10 (by decide)).trans ((A26.2.2.2.2.1 10 (by decide)).trans ((A25.2.2.2.2.1 10 (by decide)).trans ((A24.2.2.2.2.1 10 (by decide)).trans ((A23.2.2.2.2.1 10 (by decide)).trans ((A22.2.2.2.2.1 10 (by decide)).trans ((A21.2.2.2.2.1 10 (by decide)).trans ((A20.2.2.2.2.1 10 (by decide)).trans ((A19.2.2.2.2.1 10 (by decide)).trans ((A18.2.2.2.2.1 10 (by decide)).trans ((A17.2.2.2.2.1 10 (by decide)).trans ((A16.2.2.2.2.1 10 (by decide)).trans ((A15.2.2.2.2.1 10 (by decide)).trans ((A14.2.2.2.2.1 10 (by decide)).trans ((A13.2.2.2.2.1 10 (by decide)).trans ((A12.2.2.2.2.1 10 (by decide)).trans ((A11.2.2.2.2.1 10 (by decide)).trans ((A10.2.2.2.2.1 10 (by decide)).trans ((A9.2.2.2.2.1 10 (by decide)).trans ((A8.2.2.2.2.1 10 (by decide)).trans A7.2.2.2.1))))))))))))))))))))
  have U7 : ab_sh h27 57 = (100, 16) := ((G7.2.2 57 (by omega)).1).trans A7.2.2.1
  have P8 : ab_r h27 50 11 = 58 := ((A27.2.2.2.2.1 11 (by decide)).trans ((A26.2.2.2.2.1 11 (by decide)).trans ((A25.2.2.2.2.1 11 (by decide)).trans ((A24.2.2.2.2.1 11 (by decide)).trans ((A23.2.2.2.2.1 11 (by decide)).trans ((A22.2.2.2.2.1 11 (by decide)).trans ((A21.2.2.2.2.1 11 (by decide)).trans ((A20.2.2.2.2.1 11 (by decide)).trans ((A19.2.2.2.2.1 11 (by decide)).trans ((A18.2.2.2.2.1 11 (by decide)).trans ((A17.2.2.2.2.1 11 (by decide)).trans ((A16.2.2.2.2.1 11 (by decide)).trans ((A15.2.2.2.2.1 11 (by decide)).trans ((A14.2.2.2.2.1 11 (by decide)).trans ((A13.2.2.2.2.1 11 (by decide)).trans ((A12.2.2.2.2.1 11 (by decide)).trans ((A11.2.2.2.2.1 11 (by decide)).trans ((A10.2.2.2.2.1 11 (by decide)).trans ((A9.2.2.2.2.1 11 (by decide)).trans A8.2.2.2.1)))))))))))))))))))
  have U8 : ab_sh h27 58 = (101, 4) := ((G8.2.2 58 (by omega)).1).trans A8.2.2.1
  have P9 : ab_r h27 50 12 = 59 := ((A27.2.2.2.2.1 12 (by decide)).trans ((A26.2.2.2.2.1 12 (by decide)).trans ((A25.2.2.2.2.1 12 (by decide)).trans ((A24.2.2.2.2.1 12 (by decide)).trans ((A23.2.2.2.2.1 12 (by decide)).trans ((A22.2.2.2.2.1 12 (by decide)).trans ((A21.2.2.2.2.1 12 (by decide)).trans ((A20.2.2.2.2.1 12 (by decide)).trans ((A19.2.2.2.2.1 12 (by decide)).trans ((A18.2.2.2.2.1 12 (by decide)).trans ((A17.2.2.2.2.1 12 (by decide)).trans ((A16.2.2.2.2.1 12 (by decide)).trans ((A15.2.2.2.2.1 12 (by decide)).trans ((A14.2.2.2.2.1 12 (by decide)).trans ((A13.2.2.2.2.1 12 (by decide)).trans ((A12.2.2.2.2.1 12 (by decide)).trans ((A11.2.2.2.2.1 12 (by decide)).trans ((A10.2.2.2.2.1 12 (by decide)).trans A9.2.2.2.1))))))))))))))))))
  have U9 : ab_sh h27 59 = (101, 4) := ((G9.2.2 59 (by omega)).1).trans A9.2.2.1
  have P10 : ab_r h27 50 13 = 60 := ((A27.2.2.2.2.1 13 (by decide)).trans ((A26.2.2.2.2.1 13 (by decide)).trans ((A25.2.2.2.2.1 13 (by decide)).trans ((A24.2.2.2.2.1 13 (by decide)).trans ((A23.2.2.2.2.1 13 (by decide)).trans ((A22.2.2.2.2.1 13 (by decide)).trans ((A21.2.2.2.2.1 13 (by decide)).trans ((A20.2.2.2.2.1 13 (by decide)).trans ((A19.2.2.2.2.1 13 (by decide)).trans ((A18.2.2.2.2.1 13 (by decide)).trans ((A17.2.2.2.2.1 13 (by decide)).trans ((A16.2.2.2.2.1 13 (by decide)).trans ((A15.2.2.2.2.1 13 (by decide)).trans ((A14.2.2.2.2.1 13 (by decide)).trans ((A13.2.2.2.2.1 13 (by decide)).trans ((A12.2.2.2.2.1 13 (by decide)).trans ((A11.2.2.2.2.1 13 (by decide)).trans A10.2.2.2.1)))))))))))))))))
  have U10 : ab_sh h27 60 = (100, 16) := ((G10.2.2 60 (by omega)).1).trans A10.2.2.1
  have P11 : ab_r h27 50 14 = 61 := ((A27.2.2.2.2.1 14 (by decide)).trans ((A26.2.2.2.2.1 14 (by decide)).trans ((A25.2.2.2.2.1 14 (by decide)).trans ((A24.2.2.2.2.1 14 (by decide)).trans ((A23.2.2.2.2.1 14 (by decide)).trans ((A22.2.2.2.2.1 14 (by decide)).trans ((A21.2.2.2.2.1 14 (by decide)).trans ((A20.2.2.2.2.1 14 (by decide)).trans ((A19.2.2.2.2.1 14 (by decide)).trans ((A18.2.2.2.2.1 14 (by decide)).trans ((A17.2.2.2.2.1 14 (by decide)).trans ((A16.2.2.2.2.1 14 (by decide)).trans ((A15.2.2.2.2.1 14 (by decide)).trans ((A14.2.2.2.2.1 14 (by decide)).trans ((A13.2.2.2.2.1 14 (by decide)).trans ((A12.2.2.2.2.1 14 (by decide)).trans A11.2.2.2.1))))))))))))))))
  have U11 : ab_sh h27 61 = (100, 16) := ((G11.2.2 61 (by omega)).1).trans A11.2.2.1
  have P12 : ab_r h27 50 16 = 62 := ((A27.2.2.2.2.1 16 (by decide)).trans ((A26.2.2.2.2.1 16 (by decide)).trans ((A25.2.2.2.2.1 16 (by decide)).trans ((A24.2.2.2.2.1 16 (by decide)).trans ((A23.2.2.2.2.1 16 (by decide)).trans ((A22.2.2.2.2.1 16 (by decide)).trans ((A21.2.2.2.2.1 16 (by decide)).trans ((A20.2.2.2.2.1 16 (by decide)).trans ((A19.2.2.2.2.1 16 (by decide)).trans ((A18.2.2.2.2.1 16 (by decide)).trans ((A17.2.2.2.2.1 16 (by decide)).trans ((A16.2.2.2.2.1 16 (by decide)).trans ((A15.2.2.2.2.1 16 (by decide)).trans ((A14.2.2.2.2.1 16 (by decide)).trans ((A13.2.2.2.2.1 16 (by decide)).trans A12.2.2.2.1)))))))))))))))
  have U12 : ab_sh h27 62 = (100, 40) := ((G12.2.2 62 (by omega)).1).trans A12.2.2.1
  have P13 : ab_r h27 50 18 = 63 := ((A27.2.2.2.2.1 18 (by decide)).trans ((A26.2.2.2.2.1 18 (by decide)).trans ((A25.2.2.2.2.1 18 (by decide)).trans ((A24.2.2.2.2.1 18 (by decide)).trans ((A23.2.2.2.2.1 18 (by decide)).trans ((A22.2.2.2.2.1 18 (by decide)).trans ((A21.2.2.2.2.1 18 (by decide)).trans ((A20.2.2.2.2.1 18 (by decide)).trans ((A19.2.2.2.2.1 18 (by decide)).trans ((A18.2.2.2.2.1 18 (by decide)).trans ((A17.2.2.2.2.1 18 (by decide)).trans ((A16.2.2.2.2.1 18 (by decide)).trans ((A15.2.2.2.2.1 18 (by decide)).trans ((A14.2.2.2.2.1 18 (by decide)).trans A13.2.2.2.1))))))))))))))
  have U13 : ab_sh h27 63 = (100, 10) := ((G13.2.2 63 (by omega)).1).trans A13.2.2.1
  have P14 : ab_r h27 50 19 = 64 := ((A27.2.2.2.2.1 19 (by decide)).trans ((A26.2.2.2.2.1 19 (by decide)).trans ((A25.2.2.2.2.1 19 (by decide)).trans ((A24.2.2.2.2.1 19 (by decide)).trans ((A23.2.2.2.2.1 19 (by decide)).trans ((A22.2.2.2.2.1 19 (by decide)).trans ((A21.2.2.2.2.1 19 (by decide)).trans ((A20.2.2.2.2.1 19 (by decide)).trans ((A19.2.2.2.2.1 19 (by decide)).trans ((A18.2.2.2.2.1 19 (by decide)).trans ((A17.2.2.2.2.1 19 (by decide)).trans ((A16.2.2.2.2.1 19 (by decide)).trans ((A15.2.2.2.2.1 19 (by decide)).trans A14.2.2.2.1)))))))))))))
  have U14 : ab_sh h27 64 = (100, 30) := ((G14.2.2 64 (by omega)).1).trans A14.2.2.1
  have P15 : ab_r h27 50 22 = 65 := ((A27.2.2.2.2.1 22 (by decide)).trans ((A26.2.2.2.2.1 22 (by decide)).trans ((A25.2.2.2.2.1 22 (by decide)).trans ((A24.2.2.2.2.1 22 (by decide)).trans ((A23.2.2.2.2.1 22 (by decide)).trans ((A22.2.2.2.2.1 22 (by decide)).trans ((A21.2.2.2.2.1 22 (by decide)).trans ((A20.2.2.2.2.1 22 (by decide)).trans ((A19.2.2.2.2.1 22 (by decide)).trans ((A18.2.2.2.2.1 22 (by decide)).trans ((A17.2.2.2.2.1 22 (by decide)).trans ((A16.2.2.2.2.1 22 (by decide)).trans A15.2.2.2.1))))))))))))
  have U15 : ab_sh h27 65 = (100, 3) := ((G15.2.2 65 (by omega)).1).trans A15.2.2.1
  have P16 : ab_r h27 50 23 = 66 := ((A27.2.2.2.2.1 23 (by decide)).trans ((A26.2.2.2.2.1 23 (by decide)).trans ((A25.2.2.2.2.1 23 (by decide)).trans ((A24.2.2.2.2.1 23 (by decide)).trans ((A23.2.2.2.2.1 23 (by decide)).trans ((A22.2.2.2.2.1 23 (by decide)).trans ((A21.2.2.2.2.1 23 (by decide)).trans ((A20.2.2.2.2.1 23 (by decide)).trans ((A19.2.2.2.2.1 23 (by decide)).trans ((A18.2.2.2.2.1 23 (by decide)).trans ((A17.2.2.2.2.1 23 (by decide)).trans A16.2.2.2.1)))))))))))
  have U16 : ab_sh h27 66 = (100, 3) := ((G16.2.2 66 (by omega)).1).trans A16.2.2.1
  have P17 : ab_r h27 50 24 = 67 := ((A27.2.2.2.2.1 24 (by decide)).trans ((A26.2.2.2.2.1 24 (by decide)).trans ((A25.2.2.2.2.1 24 (by decide)).trans ((A24.2.2.2.2.1 24 (by decide)).trans ((A23.2.2.2.2.1 24 (by decide)).trans ((A22.2.2.2.2.1 24 (by decide)).trans ((A21.2.2.2.2.1 24 (by decide)).trans ((A20.2.2.2.2.1 24 (by decide)).trans ((A19.2.2.2.2.1 24 (by decide)).trans ((A18.2.2.2.2.1 24 (by decide)).trans A17.2.2.2.1))))))))))
  have U17 : ab_sh h27 67 = (100, 27) := ((G17.2.2 67 (by omega)).1).trans A17.2.2.1
  have P18 : ab_r h27 50 25 = 68 := ((A27.2.2.2.2.1 25 (by decide)).trans ((A26.2.2.2.2.1 25 (by decide)).trans ((A25.2.2.2.2.1 25 (by decide)).trans ((A24.2.2.2.2.1 25 (by decide)).trans ((A23.2.2.2.2.1 25 (by decide)).trans ((A22.2.2.2.2.1 25 (by decide)).trans ((A21.2.2.2.2.1 25 (by decide)).trans ((A20.2.2.2.2.1 25 (by decide)).trans ((A19.2.2.2.2.1 25 (by decide)).trans A18.2.2.2.1)))))))))
  have U18 : ab_sh h27 68 = (100, 27) := ((G18.2.2 68 (by omega)).1).trans A18.2.2.1
  have P19 : ab_r h27 50 26 = 69 := ((A27.2.2.2.2.1 26 (by decide)).trans ((A26.2.2.2.2.1 26 (by decide)).trans ((A25.2.2.2.2.1 26 (by decide)).trans ((A24.2.2.2.2.1 26 (by decide)).trans ((A23.2.2.2.2.1 26 (by decide)).trans ((A22.2.2.2.2.1 26 (by decide)).trans ((A21.2.2.2.2.1 26 (by decide)).trans ((A20.2.2.2.2.1 26 (by decide)).trans A19.2.2.2.1))))))))
  have U19 : ab_sh h27 69 = (100, 3) := ((G19.2.2 69 (by omega)).1).trans A19.2.2.1
  have P20 : ab_r h27 50 27 = 70 := ((A27.2.2.2.2.1 27 (by decide)).trans ((A26.2.2.2.2.1 27 (by decide)).trans ((A25.2.2.2.2.1 27 (by decide)).trans ((A24.2.2.2.2.1 27 (by decide)).trans ((A23.2.2.2.2.1 27 (by decide)).trans ((A22.2.2.2.2.1 27 (by decide)).trans ((A21.2.2.2.2.1 27 (by decide)).trans A20.2.2.2.1)))))))
  have U20 : ab_sh h27 70 = (100, 120) := ((G20.2.2 70 (by omega)).1).trans A20.2.2.1
  have P21 : ab_r h27 50 28 = 71 := ((A27.2.2.2.2.1 28 (by decide)).trans ((A26.2.2.2.2.1 28 (by decide)).trans ((A25.2.2.2.2.1 28 (by decide)).trans ((A24.2.2.2.2.1 28 (by decide)).trans ((A23.2.2.2.2.1 28 (by decide)).trans ((A22.2.2.2.2.1 28 (by decide)).trans A21.2.2.2.1))))))
  have U21 : ab_sh h27 71 = (100, 72) := ((G21.2.2 71 (by omega)).1).trans A21.2.2.1
  have P22 : ab_r h27 50 31 = 72 := ((A27.2.2.2.2.1 31 (by decide)).trans ((A26.2.2.2.2.1 31 (by decide)).trans ((A25.2.2.2.2.1 31 (by decide)).trans ((A24.2.2.2.2.1 31 (by decide)).trans ((A23.2.2.2.2.1 31 (by decide)).trans A22.2.2.2.1)))))
  have U22 : ab_sh h27 72 = (100, 5) := ((G22.2.2 72 (by omega)).1).trans A22.2.2.1
  have P23 : ab_r h27 50 32 = 73 := ((A27.2.2.2.2.1 32 (by decide)).trans ((A26.2.2.2.2.1 32 (by decide)).trans ((A25.2.2.2.2.1 32 (by decide)).trans ((A24.2.2.2.2.1 32 (by decide)).trans A23.2.2.2.1))))
  have U23 : ab_sh h27 73 = (100, 16) := ((G23.2.2 73 (by omega)).1).trans A23.2.2.1
  have P24 : ab_r h27 50 39 = 74 := ((A27.2.2.2.2.1 39 (by decide)).trans ((A26.2.2.2.2.1 39 (by decide)).trans ((A25.2.2.2.2.1 39 (by decide)).trans A24.2.2.2.1)))
  have U24 : ab_sh h27 74 = (100, 16) := ((G24.2.2 74 (by omega)).1).trans A24.2.2.1
  have P25 : ab_r h27 50 40 = 75 := ((A27.2.2.2.2.1 40 (by decide)).trans ((A26.2.2.2.2.1 40 (by decide)).trans A25.2.2.2.1))
  have U25 : ab_sh h27 75 = (100, 40) := ((G25.2.2 75 (by omega)).1).trans A25.2.2.1
  have P26 : ab_r h27 50 41 = 76 := ((A27.2.2.2.2.1 41 (by decide)).trans A26.2.2.2.1)
  have U26 : ab_sh h27 76 = (100, 10) := ((G26.2.2 76 (by omega)).1).trans A26.2.2.1
  have P27 : ab_r h27 50 42 = 77 := A27.2.2.2.1
  have U27 : ab_sh h27 77 = (100, 30) := ((G27.2.2 77 (by omega)).1).trans A27.2.2.1
  have AT : at_M (ab_sh h27) (ab_r h27) := ⟨hs27, P1, U1, P2, U2, P3, U3, P4, U4, P5, U5, P6, U6, P7, U7, P8, U8, P9, U9, P10, U10, P11, U11, P12, U12, P13, U13, P14, U14, P15, U15, P16, U16, P17, U17, P18, U18, P19, U19, P20, U20, P21, U21, P22, U22, P23, U23, P24, U24, P25, U25, P26, U26, P27, U27⟩
  have E9 : ∀ k, k ≠ 1 → ab_i h27 50 k = 0 := fun k hk => by rw [((G1.2.2 50 (by omega)).2.1 (by simp)).1]; exact E1 k hk
  have I51 : ab_i h27 51 = (fun _ => 0) := (((G1.2.2 51 (by omega)).2.1 (by simp)).1).trans Z1
  have I65 : ∀ q, q < 3 → ab_i h27 65 q = -9 := fun q hq => by rw [((G15.2.2 65 (by omega)).2.1 (by simp)).1]; exact A15.2.2.2.2.2 q hq
  have I69 : ∀ q, q < 3 → ab_i h27 69 q = -1 := fun q hq => by rw [((G19.2.2 69 (by omega)).2.1 (by simp)).1]; exact A19.2.2.2.2.2 q hq
  have GG := g1.trans (G1.mono (S := [50]) (T := [50]) (fun _ q => by cases q) (fun _ q => q)) (fun _ q => q) (fun _ q => q)
  refine ab_aload_n dX12_init_247 rfl ?_
  refine ab_iconst (v := nI 2) dX12_init_248 (by decide) ?_
  refine ab_iconst (v := nI 0) dX12_init_249 (by decide) ?_
  refine ab_iconst (v := nI 0) dX12_init_250 (by decide) ?_
  refine ab_callVv [_, _, _] dX12_init_251 ml_X12_112 mk_X12_lays AT.hs (m_lays2 (k := 5) (b := 0) (Nat.le_refl _) AT (by decide) (by decide) (by decide)) (fun h8 hq => ?_)
  obtain ⟨f8, hB8⟩ := hq
  have hM8 := at_M.fM f8 AT
  refine ab_aload_n dX12_init_254 rfl ?_
  refine ab_callVv [] dX12_init_255 ml_X12_116 mk_X12_rulesAtFirst hM8.hs (m_rulesAtFirst (k := 0) (b := 0) hM8) (fun h9 hq => ?_)
  obtain ⟨f9, hr9⟩ := hq
  have f7 : ab_fM [52, 53, 54, 55, 56, 57] [1, 2, 3, 4] h27 h9 := (f8.mono (by simp) (by simp)).trans f9 (by simp) (by simp)
  refine ab_retv dX12_init_258 ?_
  have e9 : ∀ a, a ≠ 50 → ¬ (52 ≤ a ∧ a ≤ 57) → ab_i h9 a = ab_i h27 a := fun a h0 ha => (f7.2.2.2.2.1 a h0 (by simp; omega)).1
  have k9 : ∀ k, ¬ (1 ≤ k ∧ k ≤ 4) → ab_i h9 50 k = 0 := fun k hk => by rw [f7.2.2.2.2.2 k (by simp; omega)]; exact E9 k (by omega)
  refine ⟨⟨by rw [f7.1]; exact GG.1, by rw [f7.2.2.2.1]; exact GG.2.1, fun c hc => ⟨by rw [f7.2.1]; exact (GG.2.2 c hc).1, fun z => ⟨by rw [e9 c (fun y => z (by rw [y]; simp)) (by omega)]; exact ((GG.2.2 c hc).2.1 z).1, by rw [(f7.2.2.2.2.1 c (fun y => z (by rw [y]; simp)) (by simp; omega)).2]; exact ((GG.2.2 c hc).2.1 z).2⟩, fun z => by rw [f7.2.2.1]; exact (GG.2.2 c hc).2.2 z⟩⟩, by rw [f7.1]; omega, at_M.fM f7 AT, hB8.fM f9 (by intro a q1 q2; simp; omega) (by simp), fun u hu => ⟨hr9 u hu, rho0_lt u hu⟩, ⟨⟨by decide, by decide, fun i hi => absurd hi (Nat.not_lt_zero i), fun i hi => absurd hi (Nat.not_lt_zero i)⟩, k9 15 (by decide), k9 17 (by decide), fun i e hi => absurd hi (Nat.not_lt_zero i), fun i hi => absurd hi (Nat.not_lt_zero i)⟩, k9 33 (by decide), k9 29 (by decide), fun q hq => ⟨by rw [e9 65 (by decide) (by decide)]; exact I65 q hq, by rw [e9 69 (by decide) (by decide)]; exact I69 q hq⟩, fun c => by rw [e9 51 (by decide) (by decide), I51]⟩
