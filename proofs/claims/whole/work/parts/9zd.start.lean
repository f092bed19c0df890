/-! ===== the law: the start ===== -/
def W0 : wS := ((2, 0, 0, rho0, s00), (0, fun _ => 0), none, fun _ => none, fun _ => none)
set_option maxRecDepth 100000 in
set_option maxHeartbeats 4000000 in
theorem law_start {k : Nat} {h : ab_H} (hk : 12 ≤ k) (hn0 : 5 + ab_n h = 5) (hE : ab_cs h) (hl : (ab_e h 1).1 ≤ 2560) : ab_R k 56600 mL_law 0 [some (.ref 1), none, none, none] [] h (ab_pb (fun t _ => t = true)) := by
  refine ab_newo (ci := 10) (b' := 56599) (hb2 := (by have q : ab_N 10 ≤ 12 := (by decide); omega)) dL_law_0 cl_L_7 is_X11 it_X11 ?_
  rw [hn0]
  refine ab_dup dL_law_3 rfl ?_
  refine ab_callI [] dL_law_4 ml_L_9 mk_X11_init (by omega) (c_Init (k := 8) (Nat.le_refl _) (by show 5 + (ab_n h + 1) = _; omega) (nw_s hn0)) (fun _ hh hq => ?_)
  obtain ⟨g1, n1, a1, a2, a3, a4, a5, a6, a7, a8⟩ := hq
  have hn1 : 5 + ab_n hh = 50 := by omega
  have zz : ∀ f : ab_H, ab_i (ab_new f (11 + 1, 0)) (5 + ab_n f) = (fun _ => 0) := fun f => ab_up_self _ _ _
  refine ab_sta_n (ls' := [_, _, _, _]) dL_law_7 (by decide) rfl ?_
  refine ab_newo (ci := 11) (b' := 56475) (hb2 := (by have q : ab_N 11 ≤ 43 := (by decide); omega)) dL_law_8 cl_L_10 is_X12 it_X12 ?_
  have z1 := zz hh
  rw [hn1] at z1
  rw [hn1]
  refine ab_dup dL_law_11 rfl ?_
  refine ab_callI [] dL_law_12 ml_L_12 mk_X12_init (by omega) (m_Init (k := 6) (Nat.le_refl _) (by show 5 + (ab_n hh + 1) = _; omega) (nw_s hn1) z1) (fun _ h2 hq => ?_)
  obtain ⟨g2, n2, b1, b2, b3, b4, b5, b6, b7, b8⟩ := hq
  refine ab_sta_n (ls' := [_, _, _, _]) dL_law_15 (by decide) rfl ?_
  refine ab_iconst (v := nI 0) dL_law_16 (by decide) ?_
  refine ab_sti_n (ls' := [_, _, _, _]) dL_law_17 (by decide) rfl ?_
  have G : ab_gr [] [] hh h2 := ⟨by omega, g2.2.1, fun c hc => ⟨((g2.2.2 c (by show _ < 5 + (ab_n hh + 1); omega)).1).trans (nw_sh (by omega)), fun _ => ⟨(((g2.2.2 c (by show _ < 5 + (ab_n hh + 1); omega)).2.1 (by simp; omega)).1).trans (ab_up_ne _ _ (by omega)), (((g2.2.2 c (by show _ < 5 + (ab_n hh + 1); omega)).2.1 (by simp; omega)).2).trans (ab_up_ne _ _ (by omega))⟩, fun _ => ((g2.2.2 c (by show _ < 5 + (ab_n hh + 1); omega)).2.2 (by simp; omega)).trans (ab_up_ne _ _ (by omega))⟩⟩
  have e : ∀ a, a < 50 → ab_i h2 a = ab_i hh a := fun a ha => ((G.2.2 a (by omega)).2.1 (by simp)).1
  have AC : at_C (ab_sh h2) (ab_r h2) := ⟨((G.2.2 5 (by omega)).1).trans a1.hs, (gr_r G (by omega) (by simp) 0).trans a1.p5_0, (gr_r G (by omega) (by simp) 1).trans a1.p5_1, (gr_r G (by omega) (by simp) 2).trans a1.p5_2, (gr_r G (by omega) (by simp) 3).trans a1.p5_3, (gr_r G (by omega) (by simp) 4).trans a1.p5_4, (gr_r G (by omega) (by simp) 5).trans a1.p5_5, ((G.2.2 35 (by omega)).1).trans a1.s35, (gr_r G (by omega) (by simp) 6).trans a1.p5_6, ((G.2.2 36 (by omega)).1).trans a1.s36, (gr_r G (by omega) (by simp) 7).trans a1.p5_7, ((G.2.2 37 (by omega)).1).trans a1.s37, gq_Board G (by omega) (by simp) a1.board, gq_Rule G (by omega) (by simp) a1.rule, gq_Shapes G (by omega) (by simp) a1.shapes, gq_Letters G (by omega) (by simp) a1.letters, ((G.2.2 25 (by omega)).1).trans a1.s25, (gr_r G (by omega) (by simp) 4).trans a1.p25_4, (gr_r G (by omega) (by simp) 5).trans a1.p25_5, gq_Rule G (by omega) (by simp) a1.irule, gq_Shapes G (by omega) (by simp) a1.ishapes, (gr_r G (by omega) (by simp) 0).trans a1.p35_0, (gr_r G (by omega) (by simp) 1).trans a1.p35_1, (gr_r G (by omega) (by simp) 2).trans a1.p35_2, (gr_r G (by omega) (by simp) 0).trans a1.p36_0, (gr_r G (by omega) (by simp) 1).trans a1.p36_1, (gr_r G (by omega) (by simp) 2).trans a1.p36_2, gq_Rack G (by omega) (by simp) a1.rack0, gq_Rack G (by omega) (by simp) a1.rack1, gq_Rack G (by omega) (by simp) a1.rack2, gq_Numbers G (by omega) (by simp) a1.list0, gq_Numbers G (by omega) (by simp) a1.list1, gq_Numbers G (by omega) (by simp) a1.list2⟩
  have BC : bd_C 2 0 0 6 h2 := by
    unfold bd_C at *
    rw [e 6 (by omega), e (6 + 1) (by omega), e (6 + 2) (by omega), e (6 + 3) (by omega), e (6 + 4) (by omega), e (6 + 5) (by omega)]
    exact a2
  have RC : ab_rho h2 14 rho0 := by unfold ab_rho at *; rw [e 14 (by omega)]; exact a3
  have SC : sh_C 19 s00 h2 := ⟨a4.1, by rw [e 19 (by omega)]; exact a4.2.1, by rw [e 19 (by omega)]; exact a4.2.2.1, fun i hi => by rw [gr_r G (by omega) (by simp)]; exact (a4.2.2.2.1 i hi).gr G, fun i hi => by rw [gr_r G (by omega) (by simp)]; exact (a4.2.2.2.2.1 i hi).gr G, fun i hi => absurd hi (Nat.not_lt_zero i), fun i hi => absurd hi (Nat.not_lt_zero i)⟩
  have ee : ab_e h2 = ab_e h := (g2.2.1.trans (show ab_e (ab_new hh (11 + 1, 0)) = ab_e hh from rfl)).trans (g1.2.1.trans rfl)
  have HI : INV W0 h2 := ⟨by unfold ab_bs; omega, by unfold ab_cs at *; rw [ee]; exact hE, AC, b1, ⟨⟨BC, RC, SC⟩, ⟨Nat.zero_le _, fun j hj => absurd hj (Nat.not_lt_zero j), by rw [e 22 (by omega)]; exact a6, fun j hj => absurd hj (Nat.not_lt_zero j)⟩, ⟨fun _ => by rw [e 25 (by omega)]; exact a5, fun _ _ _ _ _ q => by cases q⟩, fun r hr => ⟨fun _ => by rw [e _ (by omega)]; exact (a7 r hr).1, fun _ _ _ q => by cases q⟩, fun r hr => ⟨fun _ => by rw [e _ (by omega)]; exact (a7 r hr).2, fun _ _ q => by cases q⟩⟩, ⟨⟨b2, b3, b4⟩, ⟨Nat.zero_le _, fun j hj => absurd hj (Nat.not_lt_zero j), b6, fun j hj => absurd hj (Nat.not_lt_zero j)⟩, ⟨fun _ => b5, fun _ _ _ _ _ q => by cases q⟩, fun r hr => ⟨fun _ => (b7 r hr).1, fun _ _ _ q => by cases q⟩, fun r hr => ⟨fun _ => (b7 r hr).2, fun _ _ q => by cases q⟩⟩, fun c => by rw [e 37 (by omega), a8, b8]⟩
  exact ab_less (by omega) (lp_law hk 512 0 h2 W0 (by rw [ee]; omega) (by rw [ee]; exact hl) (Nat.zero_le _) HI)
