/-! ===== constructors ===== -/
theorem nw_sh {h : ab_H} {s : Nat × Nat} {a : Nat} (ha : a < 5 + ab_n h) : ab_sh (ab_new h s) a = ab_sh h a := ab_up_ne _ _ (by omega)
/-- an array is made and hung on field k of r -/
def mk_A (h h1 : ab_H) (r k : Nat) (s : Nat × Nat) (a : Nat) : Prop := ab_n h1 = ab_n h + 1 ∧ ab_gr [] [r] h h1 ∧ ab_sh h1 a = s ∧ ab_r h1 r k = a ∧ (∀ j, j ≠ k → ab_r h1 r j = ab_r h r j) ∧ ab_i h1 a = (fun _ => 0) ∧ ab_r h1 a = (fun _ => 0)
theorem mk_A_of {h : ab_H} {r k a : Nat} {s : Nat × Nat} (ha : 5 + ab_n h = a) (hr : r < 5 + ab_n h) : mk_A h (ab_sr (ab_new h s) r k (5 + ab_n h)) r k s a := by
  subst ha
  have e1 : ∀ c, c < 5 + ab_n h → ab_r (ab_new h s) c = ab_r h c := fun c hc => ab_up_ne _ _ (by omega)
  refine ⟨rfl, ⟨Nat.le_succ _, rfl, fun c hc => ⟨nw_sh hc, fun _ => ⟨ab_up_ne _ _ (by omega), ab_up_ne _ _ (by omega)⟩, fun q => ?_⟩⟩, ab_up_self _ _ _, ?_, fun j hj => ?_, ab_up_self _ _ _, ?_⟩
  · show ab_up (ab_r (ab_new h s)) r _ c = _
    rw [ab_up_ne _ _ (fun z => q (by rw [z]; exact List.mem_singleton.mpr rfl))]
    exact e1 c hc
  · show ab_up (ab_r (ab_new h s)) r (ab_up (ab_r (ab_new h s) r) k (5 + ab_n h)) r k = _
    rw [ab_up_self, ab_up_self]
  · show ab_up (ab_r (ab_new h s)) r (ab_up (ab_r (ab_new h s) r) k (5 + ab_n h)) r j = _
    rw [ab_up_self, ab_up_ne _ _ hj, e1 r hr]
  · show ab_up (ab_r (ab_new h s)) r (ab_up (ab_r (ab_new h s) r) k (5 + ab_n h)) (5 + ab_n h) = _
    rw [ab_up_ne _ _ (by omega)]
    exact ab_up_self _ _ _
set_option maxRecDepth 100000 in
set_option maxHeartbeats 4000000 in
theorem c_BoardInit {k r : Nat} {h0 : ab_H} (hk : 1 ≤ k) (n0 : 5 + ab_n h0 = r + 1) (hr0 : 5 ≤ r) (hs0 : ab_sh h0 r = (0 + 1, 0)) : ab_M k 62 mX0_init [.ref r] h0 (ab_pv (fun h' => ab_gr [] [r] h0 h' ∧ ab_n h' = ab_n h0 + 6 ∧ at_Board (ab_sh h') (ab_r h') r)) := by
  refine ab_enter ?_
  refine ab_aload_n dX0_init_0 rfl ?_
  refine ab_objInit dX0_init_1 ml_X0_5 (by omega) ?_
  refine ab_aload_n dX0_init_4 rfl ?_
  refine ab_sipush (v := nI 256) dX0_init_5 (by decide) ?_
  refine ab_newa (t := 0) (b' := 40) dX0_init_8 ac_int (Or.inl ⟨rfl, rfl⟩) rfl ?_
  refine ab_putR dX0_init_10 fl_X0_11 ((nw_sh (by omega)).trans hs0) ?_
  have A1 := mk_A_of (h := h0) (r := r) (k := 5) (s := (100 + 0, 256)) (a := r + 1) (by omega) (by omega)
  generalize hg1 : ab_sr (ab_new h0 (100 + 0, 256)) r 5 (5 + ab_n h0) = h1 at A1 ⊢
  have n1 : 5 + ab_n h1 = r + 2 := by (have := A1.1; omega)
  have hs1 : ab_sh h1 r = (0 + 1, 0) := ((A1.2.1.2.2 r (by omega)).1).trans hs0
  refine ab_aload_n dX0_init_13 rfl ?_
  refine ab_bipush (v := nI 85) dX0_init_14 (by decide) ?_
  refine ab_newa (t := 0) (b' := 32) dX0_init_16 ac_int (Or.inl ⟨rfl, rfl⟩) rfl ?_
  refine ab_putR dX0_init_18 fl_X0_15 ((nw_sh (by omega)).trans hs1) ?_
  have A2 := mk_A_of (h := h1) (r := r) (k := 6) (s := (100 + 0, 85)) (a := r + 2) (by omega) (by omega)
  generalize hg2 : ab_sr (ab_new h1 (100 + 0, 85)) r 6 (5 + ab_n h1) = h2 at A2 ⊢
  have n2 : 5 + ab_n h2 = r + 3 := by (have := A2.1; omega)
  have hs2 : ab_sh h2 r = (0 + 1, 0) := ((A2.2.1.2.2 r (by omega)).1).trans hs1
  refine ab_aload_n dX0_init_21 rfl ?_
  refine ab_bipush (v := nI 85) dX0_init_22 (by decide) ?_
  refine ab_newa (t := 0) (b' := 24) dX0_init_24 ac_int (Or.inl ⟨rfl, rfl⟩) rfl ?_
  refine ab_putR dX0_init_26 fl_X0_18 ((nw_sh (by omega)).trans hs2) ?_
  have A3 := mk_A_of (h := h2) (r := r) (k := 7) (s := (100 + 0, 85)) (a := r + 3) (by omega) (by omega)
  generalize hg3 : ab_sr (ab_new h2 (100 + 0, 85)) r 7 (5 + ab_n h2) = h3 at A3 ⊢
  have n3 : 5 + ab_n h3 = r + 4 := by (have := A3.1; omega)
  have hs3 : ab_sh h3 r = (0 + 1, 0) := ((A3.2.1.2.2 r (by omega)).1).trans hs2
  refine ab_aload_n dX0_init_29 rfl ?_
  refine ab_bipush (v := nI 85) dX0_init_30 (by decide) ?_
  refine ab_newa (t := 0) (b' := 16) dX0_init_32 ac_int (Or.inl ⟨rfl, rfl⟩) rfl ?_
  refine ab_putR dX0_init_34 fl_X0_21 ((nw_sh (by omega)).trans hs3) ?_
  have A4 := mk_A_of (h := h3) (r := r) (k := 8) (s := (100 + 0, 85)) (a := r + 4) (by omega) (by omega)
  generalize hg4 : ab_sr (ab_new h3 (100 + 0, 85)) r 8 (5 + ab_n h3) = h4 at A4 ⊢
  have n4 : 5 + ab_n h4 = r + 5 := by (have := A4.1; omega)
  have hs4 : ab_sh h4 r = (0 + 1, 0) := ((A4.2.1.2.2 r (by omega)).1).trans hs3
  refine ab_aload_n dX0_init_37 rfl ?_
  refine ab_bipush (v := nI 85) dX0_init_38 (by decide) ?_
  refine ab_newa (t := 0) (b' := 8) dX0_init_40 ac_int (Or.inl ⟨rfl, rfl⟩) rfl ?_
  refine ab_putR dX0_init_42 fl_X0_24 ((nw_sh (by omega)).trans hs4) ?_
  have A5 := mk_A_of (h := h4) (r := r) (k := 9) (s := (100 + 0, 85)) (a := r + 5) (by omega) (by omega)
  generalize hg5 : ab_sr (ab_new h4 (100 + 0, 85)) r 9 (5 + ab_n h4) = h5 at A5 ⊢
  have n5 : 5 + ab_n h5 = r + 6 := by (have := A5.1; omega)
  have hs5 : ab_sh h5 r = (0 + 1, 0) := ((A5.2.1.2.2 r (by omega)).1).trans hs4
  refine ab_aload_n dX0_init_45 rfl ?_
  refine ab_bipush (v := nI 85) dX0_init_46 (by decide) ?_
  refine ab_newa (t := 2) (b' := 0) dX0_init_48 ac_boolean (Or.inr (Or.inr (Or.inl ⟨rfl, rfl⟩))) rfl ?_
  refine ab_putR dX0_init_50 fl_X0_27 ((nw_sh (by omega)).trans hs5) ?_
  have A6 := mk_A_of (h := h5) (r := r) (k := 10) (s := (100 + 2, 85)) (a := r + 6) (by omega) (by omega)
  generalize hg6 : ab_sr (ab_new h5 (100 + 2, 85)) r 10 (5 + ab_n h5) = h6 at A6 ⊢
  have n6 : 5 + ab_n h6 = r + 7 := by (have := A6.1; omega)
  have hs6 : ab_sh h6 r = (0 + 1, 0) := ((A6.2.1.2.2 r (by omega)).1).trans hs5
  refine ab_retv dX0_init_53 ?_
  have G6 := ab_gr.rf (S := []) (T := [r]) h6
  have G5 := A6.2.1.trans G6 (fun _ q => q) (fun _ q => q)
  have G4 := A5.2.1.trans G5 (fun _ q => q) (fun _ q => q)
  have G3 := A4.2.1.trans G4 (fun _ q => q) (fun _ q => q)
  have G2 := A3.2.1.trans G3 (fun _ q => q) (fun _ q => q)
  have G1 := A2.2.1.trans G2 (fun _ q => q) (fun _ q => q)
  have G0 := A1.2.1.trans G1 (fun _ q => q) (fun _ q => q)
  have R1 : ab_r h6 r 5 = r + 1 := ((A6.2.2.2.2.1 5 (by decide)).trans ((A5.2.2.2.2.1 5 (by decide)).trans ((A4.2.2.2.2.1 5 (by decide)).trans ((A3.2.2.2.2.1 5 (by decide)).trans ((A2.2.2.2.2.1 5 (by decide)).trans A1.2.2.2.1)))))
  have S1 : ab_sh h6 (r + 1) = (100, 256) := ((G1.2.2 (r + 1) (by omega)).1).trans A1.2.2.1
  have R2 : ab_r h6 r 6 = r + 2 := ((A6.2.2.2.2.1 6 (by decide)).trans ((A5.2.2.2.2.1 6 (by decide)).trans ((A4.2.2.2.2.1 6 (by decide)).trans ((A3.2.2.2.2.1 6 (by decide)).trans A2.2.2.2.1))))
  have S2 : ab_sh h6 (r + 2) = (100, 85) := ((G2.2.2 (r + 2) (by omega)).1).trans A2.2.2.1
  have R3 : ab_r h6 r 7 = r + 3 := ((A6.2.2.2.2.1 7 (by decide)).trans ((A5.2.2.2.2.1 7 (by decide)).trans ((A4.2.2.2.2.1 7 (by decide)).trans A3.2.2.2.1)))
  have S3 : ab_sh h6 (r + 3) = (100, 85) := ((G3.2.2 (r + 3) (by omega)).1).trans A3.2.2.1
  have R4 : ab_r h6 r 8 = r + 4 := ((A6.2.2.2.2.1 8 (by decide)).trans ((A5.2.2.2.2.1 8 (by decide)).trans A4.2.2.2.1))
  have S4 : ab_sh h6 (r + 4) = (100, 85) := ((G4.2.2 (r + 4) (by omega)).1).trans A4.2.2.1
  have R5 : ab_r h6 r 9 = r + 5 := ((A6.2.2.2.2.1 9 (by decide)).trans A5.2.2.2.1)
  have S5 : ab_sh h6 (r + 5) = (100, 85) := ((G5.2.2 (r + 5) (by omega)).1).trans A5.2.2.1
  have R6 : ab_r h6 r 10 = r + 6 := A6.2.2.2.1
  have S6 : ab_sh h6 (r + 6) = (102, 85) := ((G6.2.2 (r + 6) (by omega)).1).trans A6.2.2.1
  have AT : at_Board (ab_sh h6) (ab_r h6) r := ⟨hs6, R1, S1, R2, S2, R3, S3, R4, S4, R5, S5, R6, S6⟩
  exact ⟨G0, by omega, AT⟩
set_option maxRecDepth 100000 in
set_option maxHeartbeats 4000000 in
theorem c_ShapesInit {k r : Nat} {h0 : ab_H} (hk : 1 ≤ k) (n0 : 5 + ab_n h0 = r + 1) (hr0 : 5 ≤ r) (hs0 : ab_sh h0 r = (8 + 1, 0)) : ab_M k 2 mX9_init [.ref r] h0 (ab_pv (fun h' => ab_gr [] [r] h0 h' ∧ ab_n h' = ab_n h0 + 2 ∧ at_Shapes (ab_sh h') (ab_r h') r ∧ ab_r h' (r + 1) = (fun _ => 0) ∧ ab_r h' (r + 2) = (fun _ => 0))) := by
  refine ab_enter ?_
  refine ab_aload_n dX9_init_0 rfl ?_
  refine ab_objInit dX9_init_1 ml_X9_1 (by omega) ?_
  refine ab_aload_n dX9_init_4 rfl ?_
  refine ab_bipush (v := nI 10) dX9_init_5 (by decide) ?_
  refine ab_newq (t := 6) (b' := 1) dX9_init_7 cl_X9_9 rfl ?_
  refine ab_putR dX9_init_10 fl_X9_11 ((nw_sh (by omega)).trans hs0) ?_
  have A1 := mk_A_of (h := h0) (r := r) (k := 0) (s := (100 + 6, 10)) (a := r + 1) (by omega) (by omega)
  generalize hg1 : ab_sr (ab_new h0 (100 + 6, 10)) r 0 (5 + ab_n h0) = h1 at A1 ⊢
  have n1 : 5 + ab_n h1 = r + 2 := by (have := A1.1; omega)
  have hs1 : ab_sh h1 r = (8 + 1, 0) := ((A1.2.1.2.2 r (by omega)).1).trans hs0
  refine ab_aload_n dX9_init_13 rfl ?_
  refine ab_bipush (v := nI 10) dX9_init_14 (by decide) ?_
  refine ab_newq (t := 7) (b' := 0) dX9_init_16 cl_X9_15 rfl ?_
  refine ab_putR dX9_init_19 fl_X9_17 ((nw_sh (by omega)).trans hs1) ?_
  have A2 := mk_A_of (h := h1) (r := r) (k := 1) (s := (100 + 7, 10)) (a := r + 2) (by omega) (by omega)
  generalize hg2 : ab_sr (ab_new h1 (100 + 7, 10)) r 1 (5 + ab_n h1) = h2 at A2 ⊢
  have n2 : 5 + ab_n h2 = r + 3 := by (have := A2.1; omega)
  have hs2 : ab_sh h2 r = (8 + 1, 0) := ((A2.2.1.2.2 r (by omega)).1).trans hs1
  refine ab_retv dX9_init_22 ?_
  have G2 := ab_gr.rf (S := []) (T := [r]) h2
  have G1 := A2.2.1.trans G2 (fun _ q => q) (fun _ q => q)
  have G0 := A1.2.1.trans G1 (fun _ q => q) (fun _ q => q)
  have R1 : ab_r h2 r 0 = r + 1 := ((A2.2.2.2.2.1 0 (by decide)).trans A1.2.2.2.1)
  have S1 : ab_sh h2 (r + 1) = (106, 10) := ((G1.2.2 (r + 1) (by omega)).1).trans A1.2.2.1
  have R2 : ab_r h2 r 1 = r + 2 := A2.2.2.2.1
  have S2 : ab_sh h2 (r + 2) = (107, 10) := ((G2.2.2 (r + 2) (by omega)).1).trans A2.2.2.1
  have AT : at_Shapes (ab_sh h2) (ab_r h2) r := ⟨hs2, R1, S1, R2, S2⟩
  exact ⟨G0, by omega, AT, (((G1.2.2 (r + 1) (by omega)).2.2 (by simp)).trans A1.2.2.2.2.2.2), (((G2.2.2 (r + 2) (by omega)).2.2 (by simp)).trans A2.2.2.2.2.2.2)⟩
set_option maxRecDepth 100000 in
set_option maxHeartbeats 4000000 in
theorem c_LettersInit {k r : Nat} {h0 : ab_H} (hk : 1 ≤ k) (n0 : 5 + ab_n h0 = r + 1) (hr0 : 5 ≤ r) (hs0 : ab_sh h0 r = (3 + 1, 0)) : ab_M k 7 mX4_init [.ref r] h0 (ab_pv (fun h' => ab_gr [] [r] h0 h' ∧ ab_n h' = ab_n h0 + 2 ∧ at_Letters (ab_sh h') (ab_r h') r)) := by
  refine ab_enter ?_
  refine ab_aload_n dX4_init_0 rfl ?_
  refine ab_objInit dX4_init_1 ml_X4_5 (by omega) ?_
  refine ab_aload_n dX4_init_4 rfl ?_
  refine ab_bipush (v := nI 12) dX4_init_5 (by decide) ?_
  refine ab_newa (t := 0) (b' := 6) dX4_init_7 ac_int (Or.inl ⟨rfl, rfl⟩) rfl ?_
  refine ab_putR dX4_init_9 fl_X4_11 ((nw_sh (by omega)).trans hs0) ?_
  have A1 := mk_A_of (h := h0) (r := r) (k := 2) (s := (100 + 0, 12)) (a := r + 1) (by omega) (by omega)
  generalize hg1 : ab_sr (ab_new h0 (100 + 0, 12)) r 2 (5 + ab_n h0) = h1 at A1 ⊢
  have n1 : 5 + ab_n h1 = r + 2 := by (have := A1.1; omega)
  have hs1 : ab_sh h1 r = (3 + 1, 0) := ((A1.2.1.2.2 r (by omega)).1).trans hs0
  refine ab_aload_n dX4_init_12 rfl ?_
  refine ab_bipush (v := nI 72) dX4_init_13 (by decide) ?_
  refine ab_newa (t := 3) (b' := 0) dX4_init_15 ac_char (Or.inr (Or.inr (Or.inr ⟨rfl, rfl⟩))) rfl ?_
  refine ab_putR dX4_init_17 fl_X4_15 ((nw_sh (by omega)).trans hs1) ?_
  have A2 := mk_A_of (h := h1) (r := r) (k := 3) (s := (100 + 3, 72)) (a := r + 2) (by omega) (by omega)
  generalize hg2 : ab_sr (ab_new h1 (100 + 3, 72)) r 3 (5 + ab_n h1) = h2 at A2 ⊢
  have n2 : 5 + ab_n h2 = r + 3 := by (have := A2.1; omega)
  have hs2 : ab_sh h2 r = (3 + 1, 0) := ((A2.2.1.2.2 r (by omega)).1).trans hs1
  refine ab_retv dX4_init_20 ?_
  have G2 := ab_gr.rf (S := []) (T := [r]) h2
  have G1 := A2.2.1.trans G2 (fun _ q => q) (fun _ q => q)
  have G0 := A1.2.1.trans G1 (fun _ q => q) (fun _ q => q)
  have R1 : ab_r h2 r 2 = r + 1 := ((A2.2.2.2.2.1 2 (by decide)).trans A1.2.2.2.1)
  have S1 : ab_sh h2 (r + 1) = (100, 12) := ((G1.2.2 (r + 1) (by omega)).1).trans A1.2.2.1
  have R2 : ab_r h2 r 3 = r + 2 := A2.2.2.2.1
  have S2 : ab_sh h2 (r + 2) = (103, 72) := ((G2.2.2 (r + 2) (by omega)).1).trans A2.2.2.1
  have AT : at_Letters (ab_sh h2) (ab_r h2) r := ⟨hs2, R1, S1, R2, S2⟩
  exact ⟨G0, by omega, AT⟩
set_option maxRecDepth 100000 in
set_option maxHeartbeats 4000000 in
theorem c_RackInit {k r : Nat} {h0 : ab_H} (hk : 1 ≤ k) (n0 : 5 + ab_n h0 = r + 1) (hr0 : 5 ≤ r) (hs0 : ab_sh h0 r = (6 + 1, 0)) : ab_M k 1 mX7_init [.ref r] h0 (ab_pv (fun h' => ab_gr [r] [r] h0 h' ∧ ab_n h' = ab_n h0 + 1 ∧ at_Rack (ab_sh h') (ab_r h') r ∧ ab_r h' (r + 1) = (fun _ => 0) ∧ ab_i h' r 1 = -1)) := by
  refine ab_enter ?_
  refine ab_aload_n dX7_init_0 rfl ?_
  refine ab_objInit dX7_init_1 ml_X7_1 (by omega) ?_
  refine ab_aload_n dX7_init_4 rfl ?_
  refine ab_bipush (v := nI 9) dX7_init_5 (by decide) ?_
  refine ab_newq (t := 7) (b' := 0) dX7_init_7 cl_X7_9 rfl ?_
  refine ab_putR dX7_init_10 fl_X7_11 ((nw_sh (by omega)).trans hs0) ?_
  have A1 := mk_A_of (h := h0) (r := r) (k := 0) (s := (100 + 7, 9)) (a := r + 1) (by omega) (by omega)
  generalize hg1 : ab_sr (ab_new h0 (100 + 7, 9)) r 0 (5 + ab_n h0) = h1 at A1 ⊢
  have n1 : 5 + ab_n h1 = r + 2 := by (have := A1.1; omega)
  have hs1 : ab_sh h1 r = (6 + 1, 0) := ((A1.2.1.2.2 r (by omega)).1).trans hs0
  refine ab_aload_n dX7_init_13 rfl ?_
  refine ab_iconst (v := -1) dX7_init_14 (by decide) ?_
  refine ab_putI dX7_init_15 fl_X7_15 hs1 ?_
  refine ab_retv dX7_init_18 ?_
  have G1 := ab_gr.rf (S := []) (T := [r]) h1
  have G0 := A1.2.1.trans G1 (fun _ q => q) (fun _ q => q)
  have R1 : ab_r h1 r 0 = r + 1 := A1.2.2.2.1
  have S1 : ab_sh h1 (r + 1) = (107, 9) := ((G1.2.2 (r + 1) (by omega)).1).trans A1.2.2.1
  have AT : at_Rack (ab_sh h1) (ab_r h1) r := ⟨hs1, R1, S1⟩
  exact ⟨(G0.mono (S := [r]) (T := [r]) (fun _ q => by cases q) (fun _ q => q)).siN _ _ (Or.inl (by simp)), by show ab_n h1 = _; omega, AT, (((G1.2.2 (r + 1) (by omega)).2.2 (by simp)).trans A1.2.2.2.2.2.2), by rw [ab_i_si_same, if_pos rfl]⟩
set_option maxRecDepth 100000 in
set_option maxHeartbeats 4000000 in
theorem c_NumbersInit {k r : Nat} {h0 : ab_H} (hk : 1 ≤ k) (n0 : 5 + ab_n h0 = r + 1) (hr0 : 5 ≤ r) (hs0 : ab_sh h0 r = (4 + 1, 0)) : ab_M k 4 mX5_init [.ref r] h0 (ab_pv (fun h' => ab_gr [r] [r] h0 h' ∧ ab_n h' = ab_n h0 + 1 ∧ at_Numbers (ab_sh h') (ab_r h') r ∧ ab_i h' r 1 = -1)) := by
  refine ab_enter ?_
  refine ab_aload_n dX5_init_0 rfl ?_
  refine ab_objInit dX5_init_1 ml_X5_1 (by omega) ?_
  refine ab_aload_n dX5_init_4 rfl ?_
  refine ab_bipush (v := nI 40) dX5_init_5 (by decide) ?_
  refine ab_newa (t := 0) (b' := 0) dX5_init_7 ac_int (Or.inl ⟨rfl, rfl⟩) rfl ?_
  refine ab_putR dX5_init_9 fl_X5_9 ((nw_sh (by omega)).trans hs0) ?_
  have A1 := mk_A_of (h := h0) (r := r) (k := 0) (s := (100 + 0, 40)) (a := r + 1) (by omega) (by omega)
  generalize hg1 : ab_sr (ab_new h0 (100 + 0, 40)) r 0 (5 + ab_n h0) = h1 at A1 ⊢
  have n1 : 5 + ab_n h1 = r + 2 := by (have := A1.1; omega)
  have hs1 : ab_sh h1 r = (4 + 1, 0) := ((A1.2.1.2.2 r (by omega)).1).trans hs0
  refine ab_aload_n dX5_init_12 rfl ?_
  refine ab_iconst (v := -1) dX5_init_13 (by decide) ?_
  refine ab_putI dX5_init_14 fl_X5_13 hs1 ?_
  refine ab_retv dX5_init_17 ?_
  have G1 := ab_gr.rf (S := []) (T := [r]) h1
  have G0 := A1.2.1.trans G1 (fun _ q => q) (fun _ q => q)
  have R1 : ab_r h1 r 0 = r + 1 := A1.2.2.2.1
  have S1 : ab_sh h1 (r + 1) = (100, 40) := ((G1.2.2 (r + 1) (by omega)).1).trans A1.2.2.1
  have AT : at_Numbers (ab_sh h1) (ab_r h1) r := ⟨hs1, R1, S1⟩
  exact ⟨(G0.mono (S := [r]) (T := [r]) (fun _ q => by cases q) (fun _ q => q)).siN _ _ (Or.inl (by simp)), by show ab_n h1 = _; omega, AT, by rw [ab_i_si_same, if_pos rfl]⟩
def rho0 (j : Nat) : Nat := if j % 4 = 1 then (j / 4) ^^^ 2 else if j % 4 = 2 then (j / 4) ^^^ 1 else j / 4
theorem rho0_lt : ∀ j, j < 16 → rho0 j < 4 := by decide
theorem rho0_st {i : Nat} {F G : Nat → Int32} (hi : i < 4) (hl : ∀ u, u < 4 * i → F u = nI (rho0 u)) (hG : ∀ u, G u = if u = 4 * i + 3 then nI i else if u = 4 * i + 2 then nI (i ^^^ 1) else if u = 4 * i + 1 then nI (i ^^^ 2) else if u = 4 * i then nI i else F u) : ∀ u, u < 4 * (i + 1) → G u = nI (rho0 u) := by
  intro u hu
  rw [hG]
  by_cases c3 : u = 4 * i + 3
  · rw [if_pos c3]; congr 1; unfold rho0; rw [if_neg (by omega), if_neg (by omega)]; omega
  · by_cases c2 : u = 4 * i + 2
    · rw [if_neg c3, if_pos c2]; congr 1; unfold rho0; rw [if_neg (by omega), if_pos (by omega), show u / 4 = i by omega]
    · by_cases c1 : u = 4 * i + 1
      · rw [if_neg c3, if_neg c2, if_pos c1]; congr 1; unfold rho0; rw [if_pos (by omega), show u / 4 = i by omega]
      · by_cases c0 : u = 4 * i
        · rw [if_neg c3, if_neg c2, if_neg c1, if_pos c0]; congr 1; unfold rho0; rw [if_neg (by omega), if_neg (by omega)]; omega
        · rw [if_neg c3, if_neg c2, if_neg c1, if_neg c0]; exact hl u (by omega)
set_option maxRecDepth 100000 in
set_option maxHeartbeats 4000000 in
theorem lp_rini {k b r : Nat} {h : ab_H} (hA : at_Rule (ab_sh h) (ab_r h) r) : ∀ (j i : Nat) (h1 : ab_H), i + j = 4 → ab_fr [r + 1] h h1 → (∀ u, u < 4 * i → ab_i h1 (r + 1) u = nI (rho0 u)) → ab_R k b mX8_init 44 [some (.ref r), some (.int (nI i))] [] h1 (ab_pv (fun h' => ab_fr [r + 1] h h' ∧ ∀ u, u < 16 → ab_i h' (r + 1) u = nI (rho0 u))) := by
  intro j
  induction j with
  | zero =>
    intro i h1 hi f hl
    have hA1 : at_Rule (ab_sh h1) (ab_r h1) r := by rw [f.2.1, f.2.2.1]; exact hA
    refine ab_iload_n dX8_init_44 rfl ?_
    refine ab_iconst (v := nI 4) dX8_init_45 (by decide) ?_
    refine ab_nicmp_ge 101 dX8_init_46 (by decide) (by omega) (by omega) (fun c_46 => ?_) (fun c_46 => ?_)
    · skip
      refine ab_retv dX8_init_101 ?_
      exact ⟨f, fun u hu => hl u (by omega)⟩
    · skip
      exact absurd (by omega) c_46
  | succ j ih =>
    intro i h1 hi f hl
    have hA1 : at_Rule (ab_sh h1) (ab_r h1) r := by rw [f.2.1, f.2.2.1]; exact hA
    refine ab_iload_n dX8_init_44 rfl ?_
    refine ab_iconst (v := nI 4) dX8_init_45 (by decide) ?_
    refine ab_nicmp_ge 101 dX8_init_46 (by decide) (by omega) (by omega) (fun c_46 => ?_) (fun c_46 => ?_)
    · skip
      exact absurd c_46 (by omega)
    · skip
      refine ab_aload_n dX8_init_49 rfl ?_
      refine ab_getR dX8_init_50 fl_X8_11 hA1.1 hA1.2.1 ?_
      refine ab_iload_n dX8_init_53 rfl ?_
      refine ab_iconst (v := nI 4) dX8_init_54 (by decide) ?_
      refine ab_nmulR dX8_init_55 ?_
      refine ab_iload_n dX8_init_56 rfl ?_
      refine ab_iast dX8_init_57 hA1.2.2.1 rfl (by omega) ?_
      refine ab_aload_n dX8_init_58 rfl ?_
      refine ab_getR dX8_init_59 fl_X8_11 hA1.1 hA1.2.1 ?_
      refine ab_iload_n dX8_init_62 rfl ?_
      refine ab_iconst (v := nI 4) dX8_init_63 (by decide) ?_
      refine ab_nmulR dX8_init_64 ?_
      refine ab_iconst (v := nI 1) dX8_init_65 (by decide) ?_
      refine ab_naddR dX8_init_66 ?_
      refine ab_iload_n dX8_init_67 rfl ?_
      refine ab_iconst (v := nI 2) dX8_init_68 (by decide) ?_
      refine ab_nxorR dX8_init_69 ?_
      refine ab_iast dX8_init_70 hA1.2.2.1 rfl (by omega) ?_
      refine ab_aload_n dX8_init_71 rfl ?_
      refine ab_getR dX8_init_72 fl_X8_11 hA1.1 hA1.2.1 ?_
      refine ab_iload_n dX8_init_75 rfl ?_
      refine ab_iconst (v := nI 4) dX8_init_76 (by decide) ?_
      refine ab_nmulR dX8_init_77 ?_
      refine ab_iconst (v := nI 2) dX8_init_78 (by decide) ?_
      refine ab_naddR dX8_init_79 ?_
      refine ab_iload_n dX8_init_80 rfl ?_
      refine ab_iconst (v := nI 1) dX8_init_81 (by decide) ?_
      refine ab_nxorR dX8_init_82 ?_
      refine ab_iast dX8_init_83 hA1.2.2.1 rfl (by omega) ?_
      refine ab_aload_n dX8_init_84 rfl ?_
      refine ab_getR dX8_init_85 fl_X8_11 hA1.1 hA1.2.1 ?_
      refine ab_iload_n dX8_init_88 rfl ?_
      refine ab_iconst (v := nI 4) dX8_init_89 (by decide) ?_
      refine ab_nmulR dX8_init_90 ?_
      refine ab_iconst (v := nI 3) dX8_init_91 (by decide) ?_
      refine ab_naddR dX8_init_92 ?_
      refine ab_iload_n dX8_init_93 rfl ?_
      refine ab_iast dX8_init_94 hA1.2.2.1 rfl (by omega) ?_
      refine ab_nincR (ls' := [_, _]) dX8_init_95 rfl rfl ?_
      refine ab_goto 44 dX8_init_98 (by decide) ?_
      exact ih (i + 1) _ (by omega) ((((f.si _ _ _ (by simp)).si _ _ _ (by simp)).si _ _ _ (by simp)).si _ _ _ (by simp)) (rho0_st (by omega) hl (fun u => by rw [ab_i_si_same, ab_i_si_same, ab_i_si_same, ab_i_si_same, Nat.mul_comm i 4]))
set_option maxRecDepth 100000 in
set_option maxHeartbeats 4000000 in
theorem c_RuleInit {k r : Nat} {h0 : ab_H} (hk : 1 ≤ k) (n0 : 5 + ab_n h0 = r + 1) (hr0 : 5 ≤ r) (hs0 : ab_sh h0 r = (7 + 1, 0)) : ab_M k 8 mX8_init [.ref r] h0 (ab_pv (fun h' => ab_gr [] [r] h0 h' ∧ ab_n h' = ab_n h0 + 5 ∧ at_Rule (ab_sh h') (ab_r h') r ∧ ab_rho h' (r + 1) rho0)) := by
  refine ab_enter ?_
  refine ab_aload_n dX8_init_0 rfl ?_
  refine ab_objInit dX8_init_1 ml_X8_3 (by omega) ?_
  refine ab_aload_n dX8_init_4 rfl ?_
  refine ab_bipush (v := nI 16) dX8_init_5 (by decide) ?_
  refine ab_newa (t := 0) (b' := 6) dX8_init_7 ac_int (Or.inl ⟨rfl, rfl⟩) rfl ?_
  refine ab_putR dX8_init_9 fl_X8_11 ((nw_sh (by omega)).trans hs0) ?_
  have A1 := mk_A_of (h := h0) (r := r) (k := 0) (s := (100 + 0, 16)) (a := r + 1) (by omega) (by omega)
  generalize hg1 : ab_sr (ab_new h0 (100 + 0, 16)) r 0 (5 + ab_n h0) = h1 at A1 ⊢
  have n1 : 5 + ab_n h1 = r + 2 := by (have := A1.1; omega)
  have hs1 : ab_sh h1 r = (7 + 1, 0) := ((A1.2.1.2.2 r (by omega)).1).trans hs0
  refine ab_aload_n dX8_init_12 rfl ?_
  refine ab_iconst (v := nI 4) dX8_init_13 (by decide) ?_
  refine ab_newa (t := 1) (b' := 5) dX8_init_14 ac_long (Or.inr (Or.inl ⟨rfl, rfl⟩)) rfl ?_
  refine ab_putR dX8_init_16 fl_X8_15 ((nw_sh (by omega)).trans hs1) ?_
  have A2 := mk_A_of (h := h1) (r := r) (k := 1) (s := (100 + 1, 4)) (a := r + 2) (by omega) (by omega)
  generalize hg2 : ab_sr (ab_new h1 (100 + 1, 4)) r 1 (5 + ab_n h1) = h2 at A2 ⊢
  have n2 : 5 + ab_n h2 = r + 3 := by (have := A2.1; omega)
  have hs2 : ab_sh h2 r = (7 + 1, 0) := ((A2.2.1.2.2 r (by omega)).1).trans hs1
  refine ab_aload_n dX8_init_19 rfl ?_
  refine ab_iconst (v := nI 4) dX8_init_20 (by decide) ?_
  refine ab_newa (t := 1) (b' := 4) dX8_init_21 ac_long (Or.inr (Or.inl ⟨rfl, rfl⟩)) rfl ?_
  refine ab_putR dX8_init_23 fl_X8_19 ((nw_sh (by omega)).trans hs2) ?_
  have A3 := mk_A_of (h := h2) (r := r) (k := 2) (s := (100 + 1, 4)) (a := r + 3) (by omega) (by omega)
  generalize hg3 : ab_sr (ab_new h2 (100 + 1, 4)) r 2 (5 + ab_n h2) = h3 at A3 ⊢
  have n3 : 5 + ab_n h3 = r + 4 := by (have := A3.1; omega)
  have hs3 : ab_sh h3 r = (7 + 1, 0) := ((A3.2.1.2.2 r (by omega)).1).trans hs2
  refine ab_aload_n dX8_init_26 rfl ?_
  refine ab_bipush (v := nI 16) dX8_init_27 (by decide) ?_
  refine ab_newa (t := 0) (b' := 2) dX8_init_29 ac_int (Or.inl ⟨rfl, rfl⟩) rfl ?_
  refine ab_putR dX8_init_31 fl_X8_22 ((nw_sh (by omega)).trans hs3) ?_
  have A4 := mk_A_of (h := h3) (r := r) (k := 3) (s := (100 + 0, 16)) (a := r + 4) (by omega) (by omega)
  generalize hg4 : ab_sr (ab_new h3 (100 + 0, 16)) r 3 (5 + ab_n h3) = h4 at A4 ⊢
  have n4 : 5 + ab_n h4 = r + 5 := by (have := A4.1; omega)
  have hs4 : ab_sh h4 r = (7 + 1, 0) := ((A4.2.1.2.2 r (by omega)).1).trans hs3
  refine ab_aload_n dX8_init_34 rfl ?_
  refine ab_bipush (v := nI 16) dX8_init_35 (by decide) ?_
  refine ab_newa (t := 0) (b' := 0) dX8_init_37 ac_int (Or.inl ⟨rfl, rfl⟩) rfl ?_
  refine ab_putR dX8_init_39 fl_X8_25 ((nw_sh (by omega)).trans hs4) ?_
  have A5 := mk_A_of (h := h4) (r := r) (k := 4) (s := (100 + 0, 16)) (a := r + 5) (by omega) (by omega)
  generalize hg5 : ab_sr (ab_new h4 (100 + 0, 16)) r 4 (5 + ab_n h4) = h5 at A5 ⊢
  have n5 : 5 + ab_n h5 = r + 6 := by (have := A5.1; omega)
  have hs5 : ab_sh h5 r = (7 + 1, 0) := ((A5.2.1.2.2 r (by omega)).1).trans hs4
  refine ab_iconst (v := nI 0) dX8_init_42 (by decide) ?_
  refine ab_sti_n (ls' := [_, _]) dX8_init_43 (by decide) rfl ?_
  have G5 := ab_gr.rf (S := []) (T := [r]) h5
  have G4 := A5.2.1.trans G5 (fun _ q => q) (fun _ q => q)
  have G3 := A4.2.1.trans G4 (fun _ q => q) (fun _ q => q)
  have G2 := A3.2.1.trans G3 (fun _ q => q) (fun _ q => q)
  have G1 := A2.2.1.trans G2 (fun _ q => q) (fun _ q => q)
  have G0 := A1.2.1.trans G1 (fun _ q => q) (fun _ q => q)
  have R1 : ab_r h5 r 0 = r + 1 := ((A5.2.2.2.2.1 0 (by decide)).trans ((A4.2.2.2.2.1 0 (by decide)).trans ((A3.2.2.2.2.1 0 (by decide)).trans ((A2.2.2.2.2.1 0 (by decide)).trans A1.2.2.2.1))))
  have S1 : ab_sh h5 (r + 1) = (100, 16) := ((G1.2.2 (r + 1) (by omega)).1).trans A1.2.2.1
  have R2 : ab_r h5 r 1 = r + 2 := ((A5.2.2.2.2.1 1 (by decide)).trans ((A4.2.2.2.2.1 1 (by decide)).trans ((A3.2.2.2.2.1 1 (by decide)).trans A2.2.2.2.1)))
  have S2 : ab_sh h5 (r + 2) = (101, 4) := ((G2.2.2 (r + 2) (by omega)).1).trans A2.2.2.1
  have R3 : ab_r h5 r 2 = r + 3 := ((A5.2.2.2.2.1 2 (by decide)).trans ((A4.2.2.2.2.1 2 (by decide)).trans A3.2.2.2.1))
  have S3 : ab_sh h5 (r + 3) = (101, 4) := ((G3.2.2 (r + 3) (by omega)).1).trans A3.2.2.1
  have R4 : ab_r h5 r 3 = r + 4 := ((A5.2.2.2.2.1 3 (by decide)).trans A4.2.2.2.1)
  have S4 : ab_sh h5 (r + 4) = (100, 16) := ((G4.2.2 (r + 4) (by omega)).1).trans A4.2.2.1
  have R5 : ab_r h5 r 4 = r + 5 := A5.2.2.2.1
  have S5 : ab_sh h5 (r + 5) = (100, 16) := ((G5.2.2 (r + 5) (by omega)).1).trans A5.2.2.1
  have AT : at_Rule (ab_sh h5) (ab_r h5) r := ⟨hs5, R1, S1, R2, S2, R3, S3, R4, S4, R5, S5⟩
  refine ab_mono ?_ (lp_rini AT 4 0 h5 rfl (ab_fr.rf h5) (fun u hu => absurd hu (by omega)))
  rintro v h9 ⟨f, hl⟩
  refine ⟨⟨?_, ?_, ?_⟩, ?_, ?_, fun u hu => ⟨hl u hu, rho0_lt u hu⟩⟩
  · rw [f.1]; exact G0.1
  · rw [f.2.2.2.1]; exact G0.2.1
  · intro c hc; rw [f.2.1, f.2.2.1, (f.2.2.2.2 c (by simp; omega)).1, (f.2.2.2.2 c (by simp; omega)).2]; exact G0.2.2 c hc
  · rw [f.1]; omega
  · rw [f.2.1, f.2.2.1]; exact AT
