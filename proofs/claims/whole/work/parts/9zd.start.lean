/-! ===== the law: the start ===== -/
def W0 : wS := ((2, 0, 0, rho0, s00), (0, fun _ => 0), none, fun _ => none, fun _ => none)
set_option maxRecDepth 100000 in
set_option maxHeartbeats 4000000 in
theorem law_start {k : Nat} {h : ab_H} (hk : 12 ≤ k) (hn0 : 5 + ab_n h = 5) (hE : ab_cs h) (hl : (ab_e h 1).1 ≤ 2560) : ab_R k 56551 mL_law 0 [some (.ref 1), none, none, none] [] h (ab_pb (fun t _ => t = true)) := by
  refine ab_newo (ci := 10) (b' := 56550) (hb2 := (by have q : ab_N 10 ≤ 12 := (by decide); omega)) dL_law_0 cl_L_7 is_X11 it_X11 ?_
  rw [hn0]
  refine ab_dup dL_law_3 rfl ?_
  refine ab_callI [] dL_law_4 ml_L_9 mk_X11_init (by omega) (c_Init (k := 8) (Nat.le_refl _) (by show 5 + (ab_n h + 1) = _; omega) (nw_s hn0)) (fun _ hh hq => ?_)
  obtain ⟨g1, n1, a1, a2, a3, a4, a5, a6, a7, a8⟩ := hq
  have hn1 : 5 + ab_n hh = 50 := by omega
  have zz : ∀ f : ab_H, ab_i (ab_new f (11 + 1, 0)) (5 + ab_n f) = (fun _ => 0) := fun f => ab_up_self _ _ _
  refine ab_sta_n (ls' := [_, _, _, _]) dL_law_7 (by decide) rfl ?_
  refine ab_newo (ci := 11) (b' := 56429) (hb2 := (by have q : ab_N 11 ≤ 12 := (by decide); omega)) dL_law_8 cl_L_10 is_X12 it_X12 ?_
  have z1 := zz hh
  rw [hn1] at z1
  rw [hn1]
  refine ab_dup dL_law_11 rfl ?_
  refine ab_callI [] dL_law_12 ml_L_12 mk_X12_init (by omega) (m_Init (k := 6) (Nat.le_refl _) (by show 5 + (ab_n hh + 1) = _; omega) (nw_s hn1) z1) (fun _ h2 hq => ?_)
  obtain ⟨g2, n2, b1, b2, b3, b4, b5, b6, b7, b8⟩ := hq
  refine ab_sta_n (ls' := [_, _, _, _]) dL_law_15 (by decide) rfl ?_
  refine ab_iconst (v := nI 0) dL_law_16 (by decide) ?_
  refine ab_sti_n (ls' := [_, _, _, _]) dL_law_17 (by decide) rfl ?_
  sorry
