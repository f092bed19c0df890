/-! ===== the model's board: the window, the border ===== -/
set_option maxRecDepth 100000 in
set_option maxHeartbeats 4000000 in
theorem lp_mWithinIn {k b n hx hy i x1 x2 y1 y2 s : Nat} {h : ab_H} (hk : 1 ≤ k) (hM : at_M (ab_sh h) (ab_r h)) (hD : bd_Mo n hx hy h) (hx1 : x1 < 2 ^ n) (hy1 : y1 < 2 ^ n) (hx2 : x2 < 2 ^ n) (hy2 : y2 < 2 ^ n) (hs : x1 + s ≤ x2) (cont : ∀ Y, ab_R k b mX12_isWithin 51 [some (.ref 50), some (.int (nI i)), some (.int (nI x1)), some (.int (nI x2)), some (.int (nI y1)), some (.int (nI y2)), some (.int (nI ((bd_tot n hx hy i x1 y1 s (y2 + 1 - y1)) + (bd_sum (fun t => bd_cnt n hx hy i (x1 + s) (y1 + t)) (y2 + 1 - y1))))), some (.int (nI (x1 + s))), Y] [] h (ab_pb (fun t h' => h' = h ∧ (t = true ↔ bd_tot n hx hy i x1 y1 (x2 + 1 - x1) (y2 + 1 - y1) = 3)))) : ∀ (j t : Nat), t + j = y2 + 1 - y1 → ab_R k b mX12_isWithin 16 [some (.ref 50), some (.int (nI i)), some (.int (nI x1)), some (.int (nI x2)), some (.int (nI y1)), some (.int (nI y2)), some (.int (nI ((bd_tot n hx hy i x1 y1 s (y2 + 1 - y1)) + (bd_sum (fun t => bd_cnt n hx hy i (x1 + s) (y1 + t)) t)))), some (.int (nI (x1 + s))), some (.int (nI (y1 + t)))] [] h (ab_pb (fun t h' => h' = h ∧ (t = true ↔ bd_tot n hx hy i x1 y1 (x2 + 1 - x1) (y2 + 1 - y1) = 3))) := by
  intro j
  induction j with
  | zero =>
    intro t ht
    have hb85 := bd_n_le n hD.n4
    have hpw := bd_pow4 hD.n4
    have hpo := bd_pos n
    obtain rfl : t = y2 + 1 - y1 := by omega
    refine ab_iload dX12_isWithin_16 rfl ?_
    refine ab_iload dX12_isWithin_18 rfl ?_
    refine ab_nicmp_gt 51 dX12_isWithin_20 (by decide) (by omega) (by omega) (fun c_20 => ?_) (fun c_20 => ?_)
    · skip
      exact cont _
    · skip
      exact absurd (by omega) c_20
  | succ j ih =>
    intro t ht
    have hb85 := bd_n_le n hD.n4
    have hpw := bd_pow4 hD.n4
    have hpo := bd_pos n
    refine ab_iload dX12_isWithin_16 rfl ?_
    refine ab_iload dX12_isWithin_18 rfl ?_
    refine ab_nicmp_gt 51 dX12_isWithin_20 (by decide) (by omega) (by omega) (fun c_20 => ?_) (fun c_20 => ?_)
    · skip
      exact absurd c_20 (by omega)
    · skip
      refine ab_iload dX12_isWithin_23 rfl ?_
      refine ab_aload_n dX12_isWithin_25 rfl ?_
      refine ab_iload dX12_isWithin_26 rfl ?_
      refine ab_iload dX12_isWithin_28 rfl ?_
      refine ab_callVi [_, _] dX12_isWithin_30 ml_X12_144 mk_X12_cell hM.hs (m_cell (k := 0) (b := 0) hM hD (by omega) (by omega)) (fun x h1 hq => ?_)
      obtain ⟨hhe, rfl⟩ := hq
      rw [hhe]
      refine ab_iload_n dX12_isWithin_33 rfl ?_
      refine ab_icmp_ne 41 dX12_isWithin_34 (by decide) (fun c_34 => ?_) (fun c_34 => ?_)
      · skip
        refine ab_iconst (v := nI 0) dX12_isWithin_41 (by decide) ?_
        refine ab_naddR dX12_isWithin_42 ?_
        refine ab_topI (y := nI ((bd_tot n hx hy i x1 y1 s (y2 + 1 - y1)) + (bd_sum (fun t => bd_cnt n hx hy i (x1 + s) (y1 + t)) (t + 1)))) (by rw [bd_sum]; unfold bd_cnt; first | rw [if_pos c_34, Nat.add_assoc] | rw [if_neg c_34, Nat.add_assoc]) ?_
        refine ab_sti (ls' := [_, _, _, _, _, _, _, _, _]) dX12_isWithin_43 (by decide) rfl ?_
        refine ab_nincR (ls' := [_, _, _, _, _, _, _, _, _]) dX12_isWithin_45 rfl rfl ?_
        refine ab_goto 16 dX12_isWithin_48 (by decide) ?_
        exact ih (t + 1) (by omega)
      · skip
        refine ab_iconst (v := nI 1) dX12_isWithin_37 (by decide) ?_
        refine ab_goto 42 dX12_isWithin_38 (by decide) ?_
        refine ab_naddR dX12_isWithin_42 ?_
        refine ab_topI (y := nI ((bd_tot n hx hy i x1 y1 s (y2 + 1 - y1)) + (bd_sum (fun t => bd_cnt n hx hy i (x1 + s) (y1 + t)) (t + 1)))) (by rw [bd_sum]; unfold bd_cnt; first | rw [if_pos c_34, Nat.add_assoc] | rw [if_neg c_34, Nat.add_assoc]) ?_
        refine ab_sti (ls' := [_, _, _, _, _, _, _, _, _]) dX12_isWithin_43 (by decide) rfl ?_
        refine ab_nincR (ls' := [_, _, _, _, _, _, _, _, _]) dX12_isWithin_45 rfl rfl ?_
        refine ab_goto 16 dX12_isWithin_48 (by decide) ?_
        exact ih (t + 1) (by omega)
theorem bd_sum_le {f : Nat → Nat} {c : Nat} (h : ∀ t, f t ≤ c) : ∀ m, bd_sum f m ≤ m * c
  | 0 => Nat.zero_le _
  | m + 1 => by
    have h1 := bd_sum_le h m
    have h2 := h m
    rw [bd_sum, Nat.succ_mul]
    omega
theorem bd_tot_le {n hx hy i x1 y1 mx my : Nat} (hmx : mx ≤ 16) (hmy : my ≤ 16) : bd_tot n hx hy i x1 y1 mx my ≤ 256 := by
  refine Nat.le_trans (bd_sum_le (c := 16) (fun s => ?_) mx) (by omega)
  refine Nat.le_trans (bd_sum_le (c := 1) (fun t => ?_) my) (by omega)
  unfold bd_cnt
  split <;> omega
set_option maxRecDepth 100000 in
set_option maxHeartbeats 4000000 in
theorem lp_mWithin {k b n hx hy i x1 x2 y1 y2 : Nat} {h : ab_H} (hk : 1 ≤ k) (hM : at_M (ab_sh h) (ab_r h)) (hD : bd_Mo n hx hy h) (hx1 : x1 < 2 ^ n) (hy1 : y1 < 2 ^ n) (hx2 : x2 < 2 ^ n) (hy2 : y2 < 2 ^ n) (hi : i < bd_n n) : ∀ (j s : Nat) (Y : Option Value), s + j = x2 + 1 - x1 → ab_R k b mX12_isWithin 6 [some (.ref 50), some (.int (nI i)), some (.int (nI x1)), some (.int (nI x2)), some (.int (nI y1)), some (.int (nI y2)), some (.int (nI (bd_tot n hx hy i x1 y1 s (y2 + 1 - y1)))), some (.int (nI (x1 + s))), Y] [] h (ab_pb (fun t h' => h' = h ∧ (t = true ↔ bd_tot n hx hy i x1 y1 (x2 + 1 - x1) (y2 + 1 - y1) = 3))) := by
  intro j
  induction j with
  | zero =>
    intro s Y hs
    have hb85 := bd_n_le n hD.n4
    have hpw := bd_pow4 hD.n4
    have hpo := bd_pos n
    obtain rfl : s = x2 + 1 - x1 := by omega
    refine ab_iload dX12_isWithin_6 rfl ?_
    refine ab_iload_n dX12_isWithin_8 rfl ?_
    refine ab_nicmp_gt 57 dX12_isWithin_9 (by decide) (by omega) (by omega) (fun c_9 => ?_) (fun c_9 => ?_)
    · skip
      refine ab_iload dX12_isWithin_57 rfl ?_
      refine ab_iconst (v := nI 3) dX12_isWithin_59 (by decide) ?_
      refine ab_nicmp_ne 67 dX12_isWithin_60 (by decide) (by have := bd_tot_le (n := n) (hx := hx) (hy := hy) (i := i) (x1 := x1) (y1 := y1) (mx := x2 + 1 - x1) (my := y2 + 1 - y1) (by omega) (by omega); omega) (by omega) (fun c_60 => ?_) (fun c_60 => ?_)
      · skip
        refine ab_iconst (v := nI 0) dX12_isWithin_67 (by decide) ?_
        refine ab_retb (x := false) dX12_isWithin_68 ?_
        first | exact ⟨rfl, iff_of_true rfl c_60⟩ | exact ⟨rfl, iff_of_false Bool.false_ne_true c_60⟩
      · skip
        refine ab_iconst (v := nI 1) dX12_isWithin_63 (by decide) ?_
        refine ab_goto 68 dX12_isWithin_64 (by decide) ?_
        refine ab_retb (x := true) dX12_isWithin_68 ?_
        first | exact ⟨rfl, iff_of_true rfl c_60⟩ | exact ⟨rfl, iff_of_false Bool.false_ne_true c_60⟩
    · skip
      exact absurd (by omega) c_9
  | succ j ih =>
    intro s Y hs
    have hb85 := bd_n_le n hD.n4
    have hpw := bd_pow4 hD.n4
    have hpo := bd_pos n
    refine ab_iload dX12_isWithin_6 rfl ?_
    refine ab_iload_n dX12_isWithin_8 rfl ?_
    refine ab_nicmp_gt 57 dX12_isWithin_9 (by decide) (by omega) (by omega) (fun c_9 => ?_) (fun c_9 => ?_)
    · skip
      exact absurd c_9 (by omega)
    · skip
      refine ab_iload dX12_isWithin_12 rfl ?_
      refine ab_sti (ls' := [_, _, _, _, _, _, _, _, _]) dX12_isWithin_14 (by decide) rfl ?_
      refine lp_mWithinIn hk hM hD hx1 hy1 hx2 hy2 (by omega) (fun Y => ?_) (y2 + 1 - y1) 0 (by omega)
      refine ab_nincR (ls' := [_, _, _, _, _, _, _, _, _]) dX12_isWithin_51 rfl rfl ?_
      refine ab_goto 6 dX12_isWithin_54 (by decide) ?_
      exact ih (s + 1) _ (by omega)
set_option maxRecDepth 100000 in
set_option maxHeartbeats 4000000 in
theorem m_isWithin {k b n hx hy i x1 x2 y1 y2 : Nat} {h : ab_H} (hk : 1 ≤ k) (hM : at_M (ab_sh h) (ab_r h)) (hD : bd_Mo n hx hy h) (hx1 : x1 < 2 ^ n) (hy1 : y1 < 2 ^ n) (hx2 : x2 < 2 ^ n) (hy2 : y2 < 2 ^ n) (hi : i < bd_n n) : ab_M k b mX12_isWithin [.ref 50, .int (nI i), .int (nI x1), .int (nI x2), .int (nI y1), .int (nI y2)] h (ab_pb (fun t h' => h' = h ∧ (t = true ↔ bd_tot n hx hy i x1 y1 (x2 + 1 - x1) (y2 + 1 - y1) = 3))) := by
  refine ab_enter ?_
  refine ab_iconst (v := nI 0) dX12_isWithin_0 (by decide) ?_
  refine ab_sti (ls' := [_, _, _, _, _, _, _, _, _]) dX12_isWithin_1 (by decide) rfl ?_
  refine ab_iload_n dX12_isWithin_3 rfl ?_
  refine ab_sti (ls' := [_, _, _, _, _, _, _, _, _]) dX12_isWithin_4 (by decide) rfl ?_
  exact lp_mWithin hk hM hD hx1 hy1 hx2 hy2 hi (x2 + 1 - x1) 0 none (by omega)
