/-! ===== constructor: the class ===== -/
def s00 : sS := (0, fun _ => (0, 0), 0, fun _ => (0, 0, 0, 0))
theorem sg_A {h h1 : ab_H} {r k a : Nat} {s : Nat × Nat} (A : mk_A h h1 r k s a) : sg h h1 r k a := ⟨A.2.1, A.2.2.2.1, A.2.2.2.2.1⟩
theorem gr_r {S T : List Nat} {h h1 : ab_H} (f : ab_gr S T h h1) {a : Nat} (ha : a < 5 + ab_n h) (n : a ∉ T) (k : Nat) : ab_r h1 a k = ab_r h a k := congrFun ((f.2.2 a ha).2.2 n) k
set_option maxRecDepth 100000 in
set_option maxHeartbeats 4000000 in
theorem c_Init {k : Nat} {H0 : ab_H} (hk : 8 ≤ k) (n0 : 5 + ab_n H0 = 6) (hs5_0 : ab_sh H0 5 = (10 + 1, 0)) : ab_M k 120 mX11_init [.ref 5] H0 (ab_pv (fun h' => ab_gr [] [5] H0 h' ∧ ab_n h' = 45 ∧ at_C (ab_sh h') (ab_r h') ∧ bd_C 2 0 0 6 h' ∧ ab_rho h' 14 rho0 ∧ sh_C 19 s00 h' ∧ ab_i h' 25 0 = 0 ∧ ab_i h' 22 0 = 0 ∧ (∀ q, q < 3 → ab_i h' (38 + 4 * q) 1 = -1 ∧ ab_i h' (40 + 4 * q) 1 = -1) ∧ ∀ c, ab_i h' 37 c = 0)) := by
  refine ab_enter ?_
  refine ab_aload_n dX11_init_0 rfl ?_
  refine ab_objInit dX11_init_1 ml_X11_1 (by omega) ?_
  refine ab_aload_n dX11_init_4 rfl ?_
  refine ab_newo (ci := 0) (b' := 119) (hb2 := (by have q : ab_N 0 ≤ 12 := (by decide); omega)) dX11_init_5 cl_X11_7 is_X0 it_X0 ?_
  rw [n0]
  refine ab_dup dX11_init_8 rfl ?_
  refine ab_callI [] dX11_init_9 ml_X11_9 mk_X0_init (by omega) (c_BoardInit (k := 1) (Nat.le_refl _) (by show 5 + (ab_n H0 + 1) = _; omega) (by omega) (nw_s n0)) (fun _ hh hq => ?_)
  obtain ⟨g1, m1, a1⟩ := hq
  have m1 : ab_n hh = (ab_n H0 + 1) + 6 := m1
  have Q1 := sg_of (r := 5) (k := 0) n0 (by omega) g1 (fun c z => by cases z)
  have hq5 : ab_sh hh 5 = ab_sh H0 5 := ((g1.2.2 5 (by show _ < 5 + (ab_n H0 + 1); omega)).1).trans (nw_sh (by omega))
  refine ab_putR dX11_init_12 fl_X11_10 (hq5.trans hs5_0) ?_
  have k1 : ab_n (ab_sr hh 5 0 6) = (ab_n H0 + 1) + 6 := m1
  have a1 : at_Board (ab_sh (ab_sr hh 5 0 6)) (ab_r (ab_sr hh 5 0 6)) 6 := gq_Board sr_gr (by omega) (by simp) a1
  generalize ab_sr hh 5 0 6 = H1 at Q1 k1 a1 ⊢
  have n1 : 5 + ab_n H1 = 13 := by omega
  have hs5_1 : ab_sh H1 5 = (10 + 1, 0) := ((Q1.1.2.2 5 (by omega)).1).trans hs5_0
  have pB_1 : ab_r H1 5 0 = 6 := Q1.2.1
  refine ab_aload_n dX11_init_15 rfl ?_
  refine ab_newo (ci := 7) (b' := 56) (hb2 := (by have q : ab_N 7 ≤ 12 := (by decide); omega)) dX11_init_16 cl_X11_16 is_X8 it_X8 ?_
  rw [n1]
  refine ab_dup dX11_init_19 rfl ?_
  refine ab_callI [] dX11_init_20 ml_X11_18 mk_X8_init (by omega) (c_RuleInit (k := 1) (Nat.le_refl _) (by show 5 + (ab_n H1 + 1) = _; omega) (by omega) (nw_s n1)) (fun _ hh hq => ?_)
  obtain ⟨g2, m2, a2, z2⟩ := hq
  have m2 : ab_n hh = (ab_n H1 + 1) + 5 := m2
  have Q2 := sg_of (r := 5) (k := 1) n1 (by omega) g2 (fun c z => by cases z)
  have hq5 : ab_sh hh 5 = ab_sh H1 5 := ((g2.2.2 5 (by show _ < 5 + (ab_n H1 + 1); omega)).1).trans (nw_sh (by omega))
  have u2 := nw_z n1 g2
  refine ab_putR dX11_init_23 fl_X11_19 (hq5.trans hs5_1) ?_
  have k2 : ab_n (ab_sr hh 5 1 13) = (ab_n H1 + 1) + 5 := m2
  have a2 : at_Rule (ab_sh (ab_sr hh 5 1 13)) (ab_r (ab_sr hh 5 1 13)) 13 := gq_Rule sr_gr (by omega) (by simp) a2
  have z2 : ab_rho (ab_sr hh 5 1 13) 14 rho0 := z2
  have u2 : ab_i (ab_sr hh 5 1 13) 13 = (fun _ => 0) := u2
  generalize ab_sr hh 5 1 13 = H2 at Q2 k2 a2 z2 u2 ⊢
  have n2 : 5 + ab_n H2 = 19 := by omega
  have hs5_2 : ab_sh H2 5 = (10 + 1, 0) := ((Q2.1.2.2 5 (by omega)).1).trans hs5_1
  have pB_2 : ab_r H2 5 0 = 6 := (Q2.2.2 0 (by decide)).trans pB_1
  refine ab_aload_n dX11_init_26 rfl ?_
  refine ab_newo (ci := 8) (b' := 47) (hb2 := (by have q : ab_N 8 ≤ 12 := (by decide); omega)) dX11_init_27 cl_X11_23 is_X9 it_X9 ?_
  rw [n2]
  refine ab_dup dX11_init_30 rfl ?_
  refine ab_callI [] dX11_init_31 ml_X11_25 mk_X9_init (by omega) (c_ShapesInit (k := 1) (Nat.le_refl _) (by show 5 + (ab_n H2 + 1) = _; omega) (by omega) (nw_s n2)) (fun _ hh hq => ?_)
  obtain ⟨g3, m3, a3, z3, y3⟩ := hq
  have m3 : ab_n hh = (ab_n H2 + 1) + 2 := m3
  have Q3 := sg_of (r := 5) (k := 2) n2 (by omega) g3 (fun c z => by cases z)
  have hq5 : ab_sh hh 5 = ab_sh H2 5 := ((g3.2.2 5 (by show _ < 5 + (ab_n H2 + 1); omega)).1).trans (nw_sh (by omega))
  have u3 := nw_z n2 g3
  refine ab_putR dX11_init_34 fl_X11_26 (hq5.trans hs5_2) ?_
  have k3 : ab_n (ab_sr hh 5 2 19) = (ab_n H2 + 1) + 2 := m3
  have a3 : at_Shapes (ab_sh (ab_sr hh 5 2 19)) (ab_r (ab_sr hh 5 2 19)) 19 := gq_Shapes sr_gr (by omega) (by simp) a3
  have z3 : ab_r (ab_sr hh 5 2 19) 20 = (fun _ => 0) := (funext (fun c => gr_r sr_gr (by omega) (by simp) c)).trans z3
  have y3 : ab_r (ab_sr hh 5 2 19) 21 = (fun _ => 0) := (funext (fun c => gr_r sr_gr (by omega) (by simp) c)).trans y3
  have u3 : ab_i (ab_sr hh 5 2 19) 19 = (fun _ => 0) := u3
  generalize ab_sr hh 5 2 19 = H3 at Q3 k3 a3 z3 y3 u3 ⊢
  have n3 : 5 + ab_n H3 = 22 := by omega
  have hs5_3 : ab_sh H3 5 = (10 + 1, 0) := ((Q3.1.2.2 5 (by omega)).1).trans hs5_2
  have pB_3 : ab_r H3 5 0 = 6 := (Q3.2.2 0 (by decide)).trans pB_2
  refine ab_aload_n dX11_init_37 rfl ?_
  refine ab_newo (ci := 3) (b' := 44) (hb2 := (by have q : ab_N 3 ≤ 12 := (by decide); omega)) dX11_init_38 cl_X11_30 is_X4 it_X4 ?_
  rw [n3]
  refine ab_dup dX11_init_41 rfl ?_
  refine ab_callI [] dX11_init_42 ml_X11_32 mk_X4_init (by omega) (c_LettersInit (k := 1) (Nat.le_refl _) (by show 5 + (ab_n H3 + 1) = _; omega) (by omega) (nw_s n3)) (fun _ hh hq => ?_)
  obtain ⟨g4, m4, a4⟩ := hq
  have m4 : ab_n hh = (ab_n H3 + 1) + 2 := m4
  have Q4 := sg_of (r := 5) (k := 3) n3 (by omega) g4 (fun c z => by cases z)
  have hq5 : ab_sh hh 5 = ab_sh H3 5 := ((g4.2.2 5 (by show _ < 5 + (ab_n H3 + 1); omega)).1).trans (nw_sh (by omega))
  have u4 := nw_z n3 g4
  refine ab_putR dX11_init_45 fl_X11_33 (hq5.trans hs5_3) ?_
  have k4 : ab_n (ab_sr hh 5 3 22) = (ab_n H3 + 1) + 2 := m4
  have a4 : at_Letters (ab_sh (ab_sr hh 5 3 22)) (ab_r (ab_sr hh 5 3 22)) 22 := gq_Letters sr_gr (by omega) (by simp) a4
  have u4 : ab_i (ab_sr hh 5 3 22) 22 = (fun _ => 0) := u4
  generalize ab_sr hh 5 3 22 = H4 at Q4 k4 a4 u4 ⊢
  have n4 : 5 + ab_n H4 = 25 := by omega
  have hs5_4 : ab_sh H4 5 = (10 + 1, 0) := ((Q4.1.2.2 5 (by omega)).1).trans hs5_3
  have pB_4 : ab_r H4 5 0 = 6 := (Q4.2.2 0 (by decide)).trans pB_3
  refine ab_aload_n dX11_init_48 rfl ?_
  refine ab_newo (ci := 2) (b' := 36) (hb2 := (by have q : ab_N 2 ≤ 12 := (by decide); omega)) dX11_init_49 cl_X11_37 is_X3 it_X3 ?_
  rw [n4]
  refine ab_dup dX11_init_52 rfl ?_
  refine ab_callI [] dX11_init_53 ml_X11_39 mk_X3_init (by omega) (c_ImageInit (k := 2) (Nat.le_refl _) (by show 5 + (ab_n H4 + 1) = _; omega) (by omega) (nw_s n4)) (fun _ hh hq => ?_)
  obtain ⟨g5, m5, x5, w5, a5, v5⟩ := hq
  have m5 : ab_n hh = (ab_n H4 + 1) + 9 := m5
  have Q5 := sg_of (r := 5) (k := 4) n4 (by omega) g5 (fun c z => by cases z)
  have hq5 : ab_sh hh 5 = ab_sh H4 5 := ((g5.2.2 5 (by show _ < 5 + (ab_n H4 + 1); omega)).1).trans (nw_sh (by omega))
  have u5 := nw_z n4 g5
  refine ab_putR dX11_init_56 fl_X11_40 (hq5.trans hs5_4) ?_
  have k5 : ab_n (ab_sr hh 5 4 25) = (ab_n H4 + 1) + 9 := m5
  have a5 : at_Rule (ab_sh (ab_sr hh 5 4 25)) (ab_r (ab_sr hh 5 4 25)) 26 := gq_Rule sr_gr (by omega) (by simp) a5
  have v5 : at_Shapes (ab_sh (ab_sr hh 5 4 25)) (ab_r (ab_sr hh 5 4 25)) 32 := gq_Shapes sr_gr (by omega) (by simp) v5
  have x5 : ab_r (ab_sr hh 5 4 25) 25 4 = 26 := (gr_r sr_gr (by omega) (by simp) 4).trans x5
  have w5 : ab_r (ab_sr hh 5 4 25) 25 5 = 32 := (gr_r sr_gr (by omega) (by simp) 5).trans w5
  have hsI : ab_sh (ab_sr hh 5 4 25) 25 = (2 + 1, 0) := ((g5.2.2 25 (by show _ < 5 + (ab_n H4 + 1); omega)).1).trans (nw_s n4)
  have u5 : ab_i (ab_sr hh 5 4 25) 25 = (fun _ => 0) := u5
  generalize ab_sr hh 5 4 25 = H5 at Q5 k5 a5 v5 x5 w5 hsI u5 ⊢
  have n5 : 5 + ab_n H5 = 35 := by omega
  have hs5_5 : ab_sh H5 5 = (10 + 1, 0) := ((Q5.1.2.2 5 (by omega)).1).trans hs5_4
  have pB_5 : ab_r H5 5 0 = 6 := (Q5.2.2 0 (by decide)).trans pB_4
  refine ab_aload_n dX11_init_59 rfl ?_
  refine ab_iconst (v := nI 3) dX11_init_60 (by decide) ?_
  refine ab_newq (t := 4) (b' := 23) dX11_init_61 cl_X11_44 rfl ?_
  refine ab_putR dX11_init_64 fl_X11_46 ((nw_sh (by omega)).trans hs5_5) ?_
  have A6 := mk_A_of (h := H5) (r := 5) (k := 5) (s := (100 + 4, 3)) (a := 35) (by omega) (by omega)
  generalize ab_sr (ab_new H5 (100 + 4, 3)) 5 5 (5 + ab_n H5) = H6 at A6 ⊢
  have k6 := A6.1
  have Q6 := sg_A A6
  have n6 : 5 + ab_n H6 = 36 := by omega
  have hs5_6 : ab_sh H6 5 = (10 + 1, 0) := ((Q6.1.2.2 5 (by omega)).1).trans hs5_5
  have pB_6 : ab_r H6 5 0 = 6 := (Q6.2.2 0 (by decide)).trans pB_5
  have hsR_6 : ab_sh H6 35 = (104, 3) := A6.2.2.1
  have pR_6 : ab_r H6 5 5 = 35 := Q6.2.1
  refine ab_aload_n dX11_init_67 rfl ?_
  refine ab_iconst (v := nI 3) dX11_init_68 (by decide) ?_
  refine ab_newq (t := 5) (b' := 22) dX11_init_69 cl_X11_50 rfl ?_
  refine ab_putR dX11_init_72 fl_X11_52 ((nw_sh (by omega)).trans hs5_6) ?_
  have A7 := mk_A_of (h := H6) (r := 5) (k := 6) (s := (100 + 5, 3)) (a := 36) (by omega) (by omega)
  generalize ab_sr (ab_new H6 (100 + 5, 3)) 5 6 (5 + ab_n H6) = H7 at A7 ⊢
  have k7 := A7.1
  have Q7 := sg_A A7
  have n7 : 5 + ab_n H7 = 37 := by omega
  have hs5_7 : ab_sh H7 5 = (10 + 1, 0) := ((Q7.1.2.2 5 (by omega)).1).trans hs5_6
  have hsR_7 : ab_sh H7 35 = (104, 3) := ((Q7.1.2.2 35 (by omega)).1).trans hsR_6
  have pR_7 : ab_r H7 5 5 = 35 := (Q7.2.2 5 (by decide)).trans pR_6
  have pB_7 : ab_r H7 5 0 = 6 := (Q7.2.2 0 (by decide)).trans pB_6
  have hsN_7 : ab_sh H7 36 = (105, 3) := A7.2.2.1
  have pN_7 : ab_r H7 5 6 = 36 := Q7.2.1
  refine ab_aload_n dX11_init_75 rfl ?_
  refine ab_bipush (v := nI 7) dX11_init_76 (by decide) ?_
  refine ab_newa (t := 0) (b' := 21) dX11_init_78 ac_int (Or.inl ⟨rfl, rfl⟩) rfl ?_
  refine ab_putR dX11_init_80 fl_X11_56 ((nw_sh (by omega)).trans hs5_7) ?_
  have A8 := mk_A_of (h := H7) (r := 5) (k := 7) (s := (100 + 0, 7)) (a := 37) (by omega) (by omega)
  generalize ab_sr (ab_new H7 (100 + 0, 7)) 5 7 (5 + ab_n H7) = H8 at A8 ⊢
  have k8 := A8.1
  have Q8 := sg_A A8
  have n8 : 5 + ab_n H8 = 38 := by omega
  have hs5_8 : ab_sh H8 5 = (10 + 1, 0) := ((Q8.1.2.2 5 (by omega)).1).trans hs5_7
  have hsR_8 : ab_sh H8 35 = (104, 3) := ((Q8.1.2.2 35 (by omega)).1).trans hsR_7
  have hsN_8 : ab_sh H8 36 = (105, 3) := ((Q8.1.2.2 36 (by omega)).1).trans hsN_7
  have pR_8 : ab_r H8 5 5 = 35 := (Q8.2.2 5 (by decide)).trans pR_7
  have pN_8 : ab_r H8 5 6 = 36 := (Q8.2.2 6 (by decide)).trans pN_7
  have pB_8 : ab_r H8 5 0 = 6 := (Q8.2.2 0 (by decide)).trans pB_7
  refine ab_iconst (v := nI 0) dX11_init_83 (by decide) ?_
  refine ab_sti_n (ls' := [_, _]) dX11_init_84 (by decide) rfl ?_
  skip
  refine ab_iload_n dX11_init_85 rfl ?_
  refine ab_iconst (v := nI 3) dX11_init_86 (by decide) ?_
  refine ab_nicmp_ge 122 dX11_init_87 (by decide) (by omega) (by omega) (fun c_87 => ?_) (fun c_87 => ?_)
  · skip
    exact absurd c_87 (by omega)
  · skip
    refine ab_aload_n dX11_init_90 rfl ?_
    refine ab_getR dX11_init_91 fl_X11_46 hs5_8 pR_8 ?_
    refine ab_iload_n dX11_init_94 rfl ?_
    refine ab_newo (ci := 6) (b' := 20) (hb2 := (by have q : ab_N 6 ≤ 12 := (by decide); omega)) dX11_init_95 cl_X11_44 is_X7 it_X7 ?_
    rw [n8]
    refine ab_dup dX11_init_98 rfl ?_
    refine ab_callI [] dX11_init_99 ml_X11_60 mk_X7_init (by omega) (c_RackInit (k := 1) (Nat.le_refl _) (by show 5 + (ab_n H8 + 1) = _; omega) (by omega) (nw_s n8)) (fun _ hh hq => ?_)
    obtain ⟨g9, m9, a9, z9, y9⟩ := hq
    have m9 : ab_n hh = (ab_n H8 + 1) + 1 := m9
    have Q9 := sg_of (r := 35) (k := 0) n8 (by omega) g9 (fun c z => List.mem_singleton.mp z)
    have hq5 : ab_sh hh 35 = ab_sh H8 35 := ((g9.2.2 35 (by show _ < 5 + (ab_n H8 + 1); omega)).1).trans (nw_sh (by omega))
    refine ab_aast (t := 4) dX11_init_102 (hq5.trans hsR_8) (Or.inr a9.1) rfl (by omega) ?_
    have k9 : ab_n (ab_sr hh 35 0 38) = (ab_n H8 + 1) + 1 := m9
    have a9 : at_Rack (ab_sh (ab_sr hh 35 0 38)) (ab_r (ab_sr hh 35 0 38)) 38 := gq_Rack sr_gr (by omega) (by simp) a9
    have y9 : ab_i (ab_sr hh 35 0 38) 38 1 = -1 := y9
    generalize ab_sr hh 35 0 38 = H9 at Q9 k9 a9 y9 ⊢
    have n9 : 5 + ab_n H9 = 40 := by omega
    have hs5_9 : ab_sh H9 5 = (10 + 1, 0) := ((Q9.1.2.2 5 (by omega)).1).trans hs5_8
    have hsR_9 : ab_sh H9 35 = (104, 3) := ((Q9.1.2.2 35 (by omega)).1).trans hsR_8
    have hsN_9 : ab_sh H9 36 = (105, 3) := ((Q9.1.2.2 36 (by omega)).1).trans hsN_8
    have pR_9 : ab_r H9 5 5 = 35 := (gr_r Q9.1 (by omega) (by simp) 5).trans pR_8
    have pN_9 : ab_r H9 5 6 = 36 := (gr_r Q9.1 (by omega) (by simp) 6).trans pN_8
    have pB_9 : ab_r H9 5 0 = 6 := (gr_r Q9.1 (by omega) (by simp) 0).trans pB_8
    refine ab_aload_n dX11_init_103 rfl ?_
    refine ab_getR dX11_init_104 fl_X11_52 hs5_9 pN_9 ?_
    refine ab_iload_n dX11_init_107 rfl ?_
    refine ab_newo (ci := 4) (b' := 18) (hb2 := (by have q : ab_N 4 ≤ 12 := (by decide); omega)) dX11_init_108 cl_X11_50 is_X5 it_X5 ?_
    rw [n9]
    refine ab_dup dX11_init_111 rfl ?_
    refine ab_callI [] dX11_init_112 ml_X11_61 mk_X5_init (by omega) (c_NumbersInit (k := 1) (Nat.le_refl _) (by show 5 + (ab_n H9 + 1) = _; omega) (by omega) (nw_s n9)) (fun _ hh hq => ?_)
    obtain ⟨g10, m10, a10, y10⟩ := hq
    have m10 : ab_n hh = (ab_n H9 + 1) + 1 := m10
    have Q10 := sg_of (r := 36) (k := 0) n9 (by omega) g10 (fun c z => List.mem_singleton.mp z)
    have hq5 : ab_sh hh 36 = ab_sh H9 36 := ((g10.2.2 36 (by show _ < 5 + (ab_n H9 + 1); omega)).1).trans (nw_sh (by omega))
    refine ab_aast (t := 5) dX11_init_115 (hq5.trans hsN_9) (Or.inr a10.1) rfl (by omega) ?_
    have k10 : ab_n (ab_sr hh 36 0 40) = (ab_n H9 + 1) + 1 := m10
    have a10 : at_Numbers (ab_sh (ab_sr hh 36 0 40)) (ab_r (ab_sr hh 36 0 40)) 40 := gq_Numbers sr_gr (by omega) (by simp) a10
    have y10 : ab_i (ab_sr hh 36 0 40) 40 1 = -1 := y10
    generalize ab_sr hh 36 0 40 = H10 at Q10 k10 a10 y10 ⊢
    have n10 : 5 + ab_n H10 = 42 := by omega
    have hs5_10 : ab_sh H10 5 = (10 + 1, 0) := ((Q10.1.2.2 5 (by omega)).1).trans hs5_9
    have hsR_10 : ab_sh H10 35 = (104, 3) := ((Q10.1.2.2 35 (by omega)).1).trans hsR_9
    have hsN_10 : ab_sh H10 36 = (105, 3) := ((Q10.1.2.2 36 (by omega)).1).trans hsN_9
    have pR_10 : ab_r H10 5 5 = 35 := (gr_r Q10.1 (by omega) (by simp) 5).trans pR_9
    have pN_10 : ab_r H10 5 6 = 36 := (gr_r Q10.1 (by omega) (by simp) 6).trans pN_9
    have pB_10 : ab_r H10 5 0 = 6 := (gr_r Q10.1 (by omega) (by simp) 0).trans pB_9
    refine ab_nincR (ls' := [_, _]) dX11_init_116 rfl rfl ?_
    refine ab_goto 85 dX11_init_119 (by decide) ?_
    rw [show 0 + 1 = 1 from rfl]
    refine ab_iload_n dX11_init_85 rfl ?_
    refine ab_iconst (v := nI 3) dX11_init_86 (by decide) ?_
    refine ab_nicmp_ge 122 dX11_init_87 (by decide) (by omega) (by omega) (fun c_87 => ?_) (fun c_87 => ?_)
    · skip
      exact absurd c_87 (by omega)
    · skip
      refine ab_aload_n dX11_init_90 rfl ?_
      refine ab_getR dX11_init_91 fl_X11_46 hs5_10 pR_10 ?_
      refine ab_iload_n dX11_init_94 rfl ?_
      refine ab_newo (ci := 6) (b' := 13) (hb2 := (by have q : ab_N 6 ≤ 12 := (by decide); omega)) dX11_init_95 cl_X11_44 is_X7 it_X7 ?_
      rw [n10]
      refine ab_dup dX11_init_98 rfl ?_
      refine ab_callI [] dX11_init_99 ml_X11_60 mk_X7_init (by omega) (c_RackInit (k := 1) (Nat.le_refl _) (by show 5 + (ab_n H10 + 1) = _; omega) (by omega) (nw_s n10)) (fun _ hh hq => ?_)
      obtain ⟨g11, m11, a11, z11, y11⟩ := hq
      have m11 : ab_n hh = (ab_n H10 + 1) + 1 := m11
      have Q11 := sg_of (r := 35) (k := 1) n10 (by omega) g11 (fun c z => List.mem_singleton.mp z)
      have hq5 : ab_sh hh 35 = ab_sh H10 35 := ((g11.2.2 35 (by show _ < 5 + (ab_n H10 + 1); omega)).1).trans (nw_sh (by omega))
      refine ab_aast (t := 4) dX11_init_102 (hq5.trans hsR_10) (Or.inr a11.1) rfl (by omega) ?_
      have k11 : ab_n (ab_sr hh 35 1 42) = (ab_n H10 + 1) + 1 := m11
      have a11 : at_Rack (ab_sh (ab_sr hh 35 1 42)) (ab_r (ab_sr hh 35 1 42)) 42 := gq_Rack sr_gr (by omega) (by simp) a11
      have y11 : ab_i (ab_sr hh 35 1 42) 42 1 = -1 := y11
      generalize ab_sr hh 35 1 42 = H11 at Q11 k11 a11 y11 ⊢
      have n11 : 5 + ab_n H11 = 44 := by omega
      have hs5_11 : ab_sh H11 5 = (10 + 1, 0) := ((Q11.1.2.2 5 (by omega)).1).trans hs5_10
      have hsR_11 : ab_sh H11 35 = (104, 3) := ((Q11.1.2.2 35 (by omega)).1).trans hsR_10
      have hsN_11 : ab_sh H11 36 = (105, 3) := ((Q11.1.2.2 36 (by omega)).1).trans hsN_10
      have pR_11 : ab_r H11 5 5 = 35 := (gr_r Q11.1 (by omega) (by simp) 5).trans pR_10
      have pN_11 : ab_r H11 5 6 = 36 := (gr_r Q11.1 (by omega) (by simp) 6).trans pN_10
      have pB_11 : ab_r H11 5 0 = 6 := (gr_r Q11.1 (by omega) (by simp) 0).trans pB_10
      refine ab_aload_n dX11_init_103 rfl ?_
      refine ab_getR dX11_init_104 fl_X11_52 hs5_11 pN_11 ?_
      refine ab_iload_n dX11_init_107 rfl ?_
      refine ab_newo (ci := 4) (b' := 11) (hb2 := (by have q : ab_N 4 ≤ 12 := (by decide); omega)) dX11_init_108 cl_X11_50 is_X5 it_X5 ?_
      rw [n11]
      refine ab_dup dX11_init_111 rfl ?_
      refine ab_callI [] dX11_init_112 ml_X11_61 mk_X5_init (by omega) (c_NumbersInit (k := 1) (Nat.le_refl _) (by show 5 + (ab_n H11 + 1) = _; omega) (by omega) (nw_s n11)) (fun _ hh hq => ?_)
      obtain ⟨g12, m12, a12, y12⟩ := hq
      have m12 : ab_n hh = (ab_n H11 + 1) + 1 := m12
      have Q12 := sg_of (r := 36) (k := 1) n11 (by omega) g12 (fun c z => List.mem_singleton.mp z)
      have hq5 : ab_sh hh 36 = ab_sh H11 36 := ((g12.2.2 36 (by show _ < 5 + (ab_n H11 + 1); omega)).1).trans (nw_sh (by omega))
      refine ab_aast (t := 5) dX11_init_115 (hq5.trans hsN_11) (Or.inr a12.1) rfl (by omega) ?_
      have k12 : ab_n (ab_sr hh 36 1 44) = (ab_n H11 + 1) + 1 := m12
      have a12 : at_Numbers (ab_sh (ab_sr hh 36 1 44)) (ab_r (ab_sr hh 36 1 44)) 44 := gq_Numbers sr_gr (by omega) (by simp) a12
      have y12 : ab_i (ab_sr hh 36 1 44) 44 1 = -1 := y12
      generalize ab_sr hh 36 1 44 = H12 at Q12 k12 a12 y12 ⊢
      have n12 : 5 + ab_n H12 = 46 := by omega
      have hs5_12 : ab_sh H12 5 = (10 + 1, 0) := ((Q12.1.2.2 5 (by omega)).1).trans hs5_11
      have hsR_12 : ab_sh H12 35 = (104, 3) := ((Q12.1.2.2 35 (by omega)).1).trans hsR_11
      have hsN_12 : ab_sh H12 36 = (105, 3) := ((Q12.1.2.2 36 (by omega)).1).trans hsN_11
      have pR_12 : ab_r H12 5 5 = 35 := (gr_r Q12.1 (by omega) (by simp) 5).trans pR_11
      have pN_12 : ab_r H12 5 6 = 36 := (gr_r Q12.1 (by omega) (by simp) 6).trans pN_11
      have pB_12 : ab_r H12 5 0 = 6 := (gr_r Q12.1 (by omega) (by simp) 0).trans pB_11
      refine ab_nincR (ls' := [_, _]) dX11_init_116 rfl rfl ?_
      refine ab_goto 85 dX11_init_119 (by decide) ?_
      rw [show 1 + 1 = 2 from rfl]
      refine ab_iload_n dX11_init_85 rfl ?_
      refine ab_iconst (v := nI 3) dX11_init_86 (by decide) ?_
      refine ab_nicmp_ge 122 dX11_init_87 (by decide) (by omega) (by omega) (fun c_87 => ?_) (fun c_87 => ?_)
      · skip
        exact absurd c_87 (by omega)
      · skip
        refine ab_aload_n dX11_init_90 rfl ?_
        refine ab_getR dX11_init_91 fl_X11_46 hs5_12 pR_12 ?_
        refine ab_iload_n dX11_init_94 rfl ?_
        refine ab_newo (ci := 6) (b' := 6) (hb2 := (by have q : ab_N 6 ≤ 12 := (by decide); omega)) dX11_init_95 cl_X11_44 is_X7 it_X7 ?_
        rw [n12]
        refine ab_dup dX11_init_98 rfl ?_
        refine ab_callI [] dX11_init_99 ml_X11_60 mk_X7_init (by omega) (c_RackInit (k := 1) (Nat.le_refl _) (by show 5 + (ab_n H12 + 1) = _; omega) (by omega) (nw_s n12)) (fun _ hh hq => ?_)
        obtain ⟨g13, m13, a13, z13, y13⟩ := hq
        have m13 : ab_n hh = (ab_n H12 + 1) + 1 := m13
        have Q13 := sg_of (r := 35) (k := 2) n12 (by omega) g13 (fun c z => List.mem_singleton.mp z)
        have hq5 : ab_sh hh 35 = ab_sh H12 35 := ((g13.2.2 35 (by show _ < 5 + (ab_n H12 + 1); omega)).1).trans (nw_sh (by omega))
        refine ab_aast (t := 4) dX11_init_102 (hq5.trans hsR_12) (Or.inr a13.1) rfl (by omega) ?_
        have k13 : ab_n (ab_sr hh 35 2 46) = (ab_n H12 + 1) + 1 := m13
        have a13 : at_Rack (ab_sh (ab_sr hh 35 2 46)) (ab_r (ab_sr hh 35 2 46)) 46 := gq_Rack sr_gr (by omega) (by simp) a13
        have y13 : ab_i (ab_sr hh 35 2 46) 46 1 = -1 := y13
        generalize ab_sr hh 35 2 46 = H13 at Q13 k13 a13 y13 ⊢
        have n13 : 5 + ab_n H13 = 48 := by omega
        have hs5_13 : ab_sh H13 5 = (10 + 1, 0) := ((Q13.1.2.2 5 (by omega)).1).trans hs5_12
        have hsR_13 : ab_sh H13 35 = (104, 3) := ((Q13.1.2.2 35 (by omega)).1).trans hsR_12
        have hsN_13 : ab_sh H13 36 = (105, 3) := ((Q13.1.2.2 36 (by omega)).1).trans hsN_12
        have pR_13 : ab_r H13 5 5 = 35 := (gr_r Q13.1 (by omega) (by simp) 5).trans pR_12
        have pN_13 : ab_r H13 5 6 = 36 := (gr_r Q13.1 (by omega) (by simp) 6).trans pN_12
        have pB_13 : ab_r H13 5 0 = 6 := (gr_r Q13.1 (by omega) (by simp) 0).trans pB_12
        refine ab_aload_n dX11_init_103 rfl ?_
        refine ab_getR dX11_init_104 fl_X11_52 hs5_13 pN_13 ?_
        refine ab_iload_n dX11_init_107 rfl ?_
        refine ab_newo (ci := 4) (b' := 4) (hb2 := (by have q : ab_N 4 ≤ 12 := (by decide); omega)) dX11_init_108 cl_X11_50 is_X5 it_X5 ?_
        rw [n13]
        refine ab_dup dX11_init_111 rfl ?_
        refine ab_callI [] dX11_init_112 ml_X11_61 mk_X5_init (by omega) (c_NumbersInit (k := 1) (Nat.le_refl _) (by show 5 + (ab_n H13 + 1) = _; omega) (by omega) (nw_s n13)) (fun _ hh hq => ?_)
        obtain ⟨g14, m14, a14, y14⟩ := hq
        have m14 : ab_n hh = (ab_n H13 + 1) + 1 := m14
        have Q14 := sg_of (r := 36) (k := 2) n13 (by omega) g14 (fun c z => List.mem_singleton.mp z)
        have hq5 : ab_sh hh 36 = ab_sh H13 36 := ((g14.2.2 36 (by show _ < 5 + (ab_n H13 + 1); omega)).1).trans (nw_sh (by omega))
        refine ab_aast (t := 5) dX11_init_115 (hq5.trans hsN_13) (Or.inr a14.1) rfl (by omega) ?_
        have k14 : ab_n (ab_sr hh 36 2 48) = (ab_n H13 + 1) + 1 := m14
        have a14 : at_Numbers (ab_sh (ab_sr hh 36 2 48)) (ab_r (ab_sr hh 36 2 48)) 48 := gq_Numbers sr_gr (by omega) (by simp) a14
        have y14 : ab_i (ab_sr hh 36 2 48) 48 1 = -1 := y14
        generalize ab_sr hh 36 2 48 = H14 at Q14 k14 a14 y14 ⊢
        have n14 : 5 + ab_n H14 = 50 := by omega
        have hs5_14 : ab_sh H14 5 = (10 + 1, 0) := ((Q14.1.2.2 5 (by omega)).1).trans hs5_13
        have hsR_14 : ab_sh H14 35 = (104, 3) := ((Q14.1.2.2 35 (by omega)).1).trans hsR_13
        have hsN_14 : ab_sh H14 36 = (105, 3) := ((Q14.1.2.2 36 (by omega)).1).trans hsN_13
        have pR_14 : ab_r H14 5 5 = 35 := (gr_r Q14.1 (by omega) (by simp) 5).trans pR_13
        have pN_14 : ab_r H14 5 6 = 36 := (gr_r Q14.1 (by omega) (by simp) 6).trans pN_13
        have pB_14 : ab_r H14 5 0 = 6 := (gr_r Q14.1 (by omega) (by simp) 0).trans pB_13
        refine ab_nincR (ls' := [_, _]) dX11_init_116 rfl rfl ?_
        refine ab_goto 85 dX11_init_119 (by decide) ?_
        rw [show 2 + 1 = 3 from rfl]
        refine ab_iload_n dX11_init_85 rfl ?_
        refine ab_iconst (v := nI 3) dX11_init_86 (by decide) ?_
        refine ab_nicmp_ge 122 dX11_init_87 (by decide) (by omega) (by omega) (fun c_87 => ?_) (fun c_87 => ?_)
        · skip
          have G14 := ab_gr.rf (S := []) (T := [5, 35, 36]) H14
          have G13 := (Q14.1.mono (S := []) (T := [5, 35, 36]) (fun _ q => q) (by simp)).trans G14 (fun _ q => q) (fun _ q => q)
          have G12 := (Q13.1.mono (S := []) (T := [5, 35, 36]) (fun _ q => q) (by simp)).trans G13 (fun _ q => q) (fun _ q => q)
          have G11 := (Q12.1.mono (S := []) (T := [5, 35, 36]) (fun _ q => q) (by simp)).trans G12 (fun _ q => q) (fun _ q => q)
          have G10 := (Q11.1.mono (S := []) (T := [5, 35, 36]) (fun _ q => q) (by simp)).trans G11 (fun _ q => q) (fun _ q => q)
          have G9 := (Q10.1.mono (S := []) (T := [5, 35, 36]) (fun _ q => q) (by simp)).trans G10 (fun _ q => q) (fun _ q => q)
          have G8 := (Q9.1.mono (S := []) (T := [5, 35, 36]) (fun _ q => q) (by simp)).trans G9 (fun _ q => q) (fun _ q => q)
          have G7 := (Q8.1.mono (S := []) (T := [5, 35, 36]) (fun _ q => q) (by simp)).trans G8 (fun _ q => q) (fun _ q => q)
          have G6 := (Q7.1.mono (S := []) (T := [5, 35, 36]) (fun _ q => q) (by simp)).trans G7 (fun _ q => q) (fun _ q => q)
          have G5 := (Q6.1.mono (S := []) (T := [5, 35, 36]) (fun _ q => q) (by simp)).trans G6 (fun _ q => q) (fun _ q => q)
          have G4 := (Q5.1.mono (S := []) (T := [5, 35, 36]) (fun _ q => q) (by simp)).trans G5 (fun _ q => q) (fun _ q => q)
          have G3 := (Q4.1.mono (S := []) (T := [5, 35, 36]) (fun _ q => q) (by simp)).trans G4 (fun _ q => q) (fun _ q => q)
          have G2 := (Q3.1.mono (S := []) (T := [5, 35, 36]) (fun _ q => q) (by simp)).trans G3 (fun _ q => q) (fun _ q => q)
          have G1 := (Q2.1.mono (S := []) (T := [5, 35, 36]) (fun _ q => q) (by simp)).trans G2 (fun _ q => q) (fun _ q => q)
          have G0 := (Q1.1.mono (S := []) (T := [5, 35, 36]) (fun _ q => q) (by simp)).trans G1 (fun _ q => q) (fun _ q => q)
          have P1 : ab_r H14 5 0 = 6 := ((gr_r Q14.1 (by omega) (by simp) 0).trans ((gr_r Q13.1 (by omega) (by simp) 0).trans ((gr_r Q12.1 (by omega) (by simp) 0).trans ((gr_r Q11.1 (by omega) (by simp) 0).trans ((gr_r Q10.1 (by omega) (by simp) 0).trans ((gr_r Q9.1 (by omega) (by simp) 0).trans ((Q8.2.2 0 (by decide)).trans ((Q7.2.2 0 (by decide)).trans ((Q6.2.2 0 (by decide)).trans ((Q5.2.2 0 (by decide)).trans ((Q4.2.2 0 (by decide)).trans ((Q3.2.2 0 (by decide)).trans ((Q2.2.2 0 (by decide)).trans Q1.2.1)))))))))))))
          have P2 : ab_r H14 5 1 = 13 := ((gr_r Q14.1 (by omega) (by simp) 1).trans ((gr_r Q13.1 (by omega) (by simp) 1).trans ((gr_r Q12.1 (by omega) (by simp) 1).trans ((gr_r Q11.1 (by omega) (by simp) 1).trans ((gr_r Q10.1 (by omega) (by simp) 1).trans ((gr_r Q9.1 (by omega) (by simp) 1).trans ((Q8.2.2 1 (by decide)).trans ((Q7.2.2 1 (by decide)).trans ((Q6.2.2 1 (by decide)).trans ((Q5.2.2 1 (by decide)).trans ((Q4.2.2 1 (by decide)).trans ((Q3.2.2 1 (by decide)).trans Q2.2.1))))))))))))
          have P3 : ab_r H14 5 2 = 19 := ((gr_r Q14.1 (by omega) (by simp) 2).trans ((gr_r Q13.1 (by omega) (by simp) 2).trans ((gr_r Q12.1 (by omega) (by simp) 2).trans ((gr_r Q11.1 (by omega) (by simp) 2).trans ((gr_r Q10.1 (by omega) (by simp) 2).trans ((gr_r Q9.1 (by omega) (by simp) 2).trans ((Q8.2.2 2 (by decide)).trans ((Q7.2.2 2 (by decide)).trans ((Q6.2.2 2 (by decide)).trans ((Q5.2.2 2 (by decide)).trans ((Q4.2.2 2 (by decide)).trans Q3.2.1)))))))))))
          have P4 : ab_r H14 5 3 = 22 := ((gr_r Q14.1 (by omega) (by simp) 3).trans ((gr_r Q13.1 (by omega) (by simp) 3).trans ((gr_r Q12.1 (by omega) (by simp) 3).trans ((gr_r Q11.1 (by omega) (by simp) 3).trans ((gr_r Q10.1 (by omega) (by simp) 3).trans ((gr_r Q9.1 (by omega) (by simp) 3).trans ((Q8.2.2 3 (by decide)).trans ((Q7.2.2 3 (by decide)).trans ((Q6.2.2 3 (by decide)).trans ((Q5.2.2 3 (by decide)).trans Q4.2.1))))))))))
          have P5 : ab_r H14 5 4 = 25 := ((gr_r Q14.1 (by omega) (by simp) 4).trans ((gr_r Q13.1 (by omega) (by simp) 4).trans ((gr_r Q12.1 (by omega) (by simp) 4).trans ((gr_r Q11.1 (by omega) (by simp) 4).trans ((gr_r Q10.1 (by omega) (by simp) 4).trans ((gr_r Q9.1 (by omega) (by simp) 4).trans ((Q8.2.2 4 (by decide)).trans ((Q7.2.2 4 (by decide)).trans ((Q6.2.2 4 (by decide)).trans Q5.2.1)))))))))
          have P6 : ab_r H14 5 5 = 35 := ((gr_r Q14.1 (by omega) (by simp) 5).trans ((gr_r Q13.1 (by omega) (by simp) 5).trans ((gr_r Q12.1 (by omega) (by simp) 5).trans ((gr_r Q11.1 (by omega) (by simp) 5).trans ((gr_r Q10.1 (by omega) (by simp) 5).trans ((gr_r Q9.1 (by omega) (by simp) 5).trans ((Q8.2.2 5 (by decide)).trans ((Q7.2.2 5 (by decide)).trans Q6.2.1))))))))
          have P7 : ab_r H14 5 6 = 36 := ((gr_r Q14.1 (by omega) (by simp) 6).trans ((gr_r Q13.1 (by omega) (by simp) 6).trans ((gr_r Q12.1 (by omega) (by simp) 6).trans ((gr_r Q11.1 (by omega) (by simp) 6).trans ((gr_r Q10.1 (by omega) (by simp) 6).trans ((gr_r Q9.1 (by omega) (by simp) 6).trans ((Q8.2.2 6 (by decide)).trans Q7.2.1)))))))
          have P8 : ab_r H14 5 7 = 37 := ((gr_r Q14.1 (by omega) (by simp) 7).trans ((gr_r Q13.1 (by omega) (by simp) 7).trans ((gr_r Q12.1 (by omega) (by simp) 7).trans ((gr_r Q11.1 (by omega) (by simp) 7).trans ((gr_r Q10.1 (by omega) (by simp) 7).trans ((gr_r Q9.1 (by omega) (by simp) 7).trans Q8.2.1))))))
          have P9 : ab_r H14 35 0 = 38 := ((gr_r Q14.1 (by omega) (by simp) 0).trans ((Q13.2.2 0 (by decide)).trans ((gr_r Q12.1 (by omega) (by simp) 0).trans ((Q11.2.2 0 (by decide)).trans ((gr_r Q10.1 (by omega) (by simp) 0).trans Q9.2.1)))))
          have P10 : ab_r H14 36 0 = 40 := ((Q14.2.2 0 (by decide)).trans ((gr_r Q13.1 (by omega) (by simp) 0).trans ((Q12.2.2 0 (by decide)).trans ((gr_r Q11.1 (by omega) (by simp) 0).trans Q10.2.1))))
          have P11 : ab_r H14 35 1 = 42 := ((gr_r Q14.1 (by omega) (by simp) 1).trans ((Q13.2.2 1 (by decide)).trans ((gr_r Q12.1 (by omega) (by simp) 1).trans Q11.2.1)))
          have P12 : ab_r H14 36 1 = 44 := ((Q14.2.2 1 (by decide)).trans ((gr_r Q13.1 (by omega) (by simp) 1).trans Q12.2.1))
          have P13 : ab_r H14 35 2 = 46 := ((gr_r Q14.1 (by omega) (by simp) 2).trans Q13.2.1)
          have P14 : ab_r H14 36 2 = 48 := Q14.2.1
          have AT : at_C (ab_sh H14) (ab_r H14) := ⟨hs5_14, P1, P2, P3, P4, P5, P6, hsR_14, P7, hsN_14, P8, (((G8.2.2 37 (by omega)).1).trans A8.2.2.1), (gq_Board G1 (by omega) (by simp) a1), (gq_Rule G2 (by omega) (by simp) a2), (gq_Shapes G3 (by omega) (by simp) a3), (gq_Letters G4 (by omega) (by simp) a4), (((G5.2.2 25 (by omega)).1).trans hsI), ((gr_r G5 (by omega) (by simp) 4).trans x5), ((gr_r G5 (by omega) (by simp) 5).trans w5), (gq_Rule G5 (by omega) (by simp) a5), (gq_Shapes G5 (by omega) (by simp) v5), P9, P11, P13, P10, P12, P14, (gq_Rack G9 (by omega) (by simp) a9), (gq_Rack G11 (by omega) (by simp) a11), (gq_Rack G13 (by omega) (by simp) a13), (gq_Numbers G10 (by omega) (by simp) a10), (gq_Numbers G12 (by omega) (by simp) a12), (gq_Numbers G14 (by omega) (by simp) a14)⟩
          have I14 : ab_i H14 14 = ab_i H2 14 := ((G2.2.2 14 (by omega)).2.1 (by simp)).1
          have I19 : ab_i H14 19 = (fun _ => 0) := ((((G3.2.2 19 (by omega)).2.1 (by simp)).1).trans u3)
          have I22 : ab_i H14 22 = (fun _ => 0) := ((((G4.2.2 22 (by omega)).2.1 (by simp)).1).trans u4)
          have I25 : ab_i H14 25 = (fun _ => 0) := ((((G5.2.2 25 (by omega)).2.1 (by simp)).1).trans u5)
          have I37 : ab_i H14 37 = (fun _ => 0) := ((((G8.2.2 37 (by omega)).2.1 (by simp)).1).trans A8.2.2.2.2.2.1)
          have R20 : ab_r H14 20 = (fun _ => 0) := (((G3.2.2 20 (by omega)).2.2 (by simp))).trans z3
          have R21 : ab_r H14 21 = (fun _ => 0) := (((G3.2.2 21 (by omega)).2.2 (by simp))).trans y3
          have J38 : ab_i H14 38 1 = -1 := (congrFun ((G9.2.2 38 (by omega)).2.1 (by simp)).1 1).trans y9
          have J40 : ab_i H14 40 1 = -1 := (congrFun ((G10.2.2 40 (by omega)).2.1 (by simp)).1 1).trans y10
          have J42 : ab_i H14 42 1 = -1 := (congrFun ((G11.2.2 42 (by omega)).2.1 (by simp)).1 1).trans y11
          have J44 : ab_i H14 44 1 = -1 := (congrFun ((G12.2.2 44 (by omega)).2.1 (by simp)).1 1).trans y12
          have J46 : ab_i H14 46 1 = -1 := (congrFun ((G13.2.2 46 (by omega)).2.1 (by simp)).1 1).trans y13
          have J48 : ab_i H14 48 1 = -1 := (congrFun ((G14.2.2 48 (by omega)).2.1 (by simp)).1 1).trans y14
          have G0 : ab_gr [] [5] H0 H14 := ⟨G0.1, G0.2.1, fun c hc => ⟨(G0.2.2 c hc).1, (G0.2.2 c hc).2.1, fun z => (G0.2.2 c hc).2.2 (by intro y; simp at y z; omega)⟩⟩
          refine ab_aload_n dX11_init_122 rfl ?_
          refine ab_getR dX11_init_123 fl_X11_10 hs5_14 P1 ?_
          refine ab_iconst (v := nI 2) dX11_init_126 (by decide) ?_
          refine ab_iconst (v := nI 0) dX11_init_127 (by decide) ?_
          refine ab_iconst (v := nI 0) dX11_init_128 (by decide) ?_
          refine ab_callVv [_, _, _] dX11_init_129 ml_X11_62 mk_X0_cutAnew AT.board.1 (c_cutAnew (k := 7) (b := 0) (r := 6) (Nat.le_refl _) AT.board (by decide) (by decide) (by decide)) (fun h9 hq => ?_)
          obtain ⟨f9, hB9⟩ := hq
          have e9 : ∀ a, ¬ (6 ≤ a ∧ a ≤ 11) → ab_i h9 a = ab_i H14 a := fun a ha => (f9.2.2.2.2 a (by simp; omega)).1
          refine ab_retv dX11_init_132 ?_
          have n9 : ab_n h9 = 45 := by rw [f9.1]; omega
          refine ⟨⟨by omega, by rw [f9.2.2.2.1]; exact G0.2.1, fun c hc => ⟨by rw [f9.2.1]; exact (G0.2.2 c hc).1, fun _ => ⟨by rw [e9 c (by omega)]; exact ((G0.2.2 c hc).2.1 (by simp)).1, by rw [(f9.2.2.2.2 c (by simp; omega)).2]; exact ((G0.2.2 c hc).2.1 (by simp)).2⟩, fun z => by rw [f9.2.2.1]; exact (G0.2.2 c hc).2.2 z⟩⟩, n9, at_C.fr f9 AT, hB9, fun u hu => ?_, ⟨⟨by decide, by decide, fun i hi => absurd hi (Nat.not_lt_zero i), fun i hi => absurd hi (Nat.not_lt_zero i)⟩, by rw [e9 19 (by decide), I19]; rfl, by rw [e9 19 (by decide), I19]; rfl, fun i _ => Or.inl (by rw [f9.2.2.1]; exact congrFun R20 i), fun i _ => Or.inl (by rw [f9.2.2.1]; exact congrFun R21 i), fun i hi => absurd hi (Nat.not_lt_zero i), fun i hi => absurd hi (Nat.not_lt_zero i)⟩, by rw [e9 25 (by decide), I25], by rw [e9 22 (by decide), I22], fun q hq => ?_, fun c => by rw [e9 37 (by decide), I37]⟩
          · rw [e9 14 (by decide), I14]; exact z2 u hu
          · rcases (show q = 0 ∨ q = 1 ∨ q = 2 by omega) with rfl | rfl | rfl
            · exact ⟨by rw [e9 _ (by decide)]; exact J38, by rw [e9 _ (by decide)]; exact J40⟩
            · exact ⟨by rw [e9 _ (by decide)]; exact J42, by rw [e9 _ (by decide)]; exact J44⟩
            · exact ⟨by rw [e9 _ (by decide)]; exact J46, by rw [e9 _ (by decide)]; exact J48⟩
        · skip
          exact absurd (by omega) c_87
