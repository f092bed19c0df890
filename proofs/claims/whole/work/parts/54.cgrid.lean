/-! ===== the class's Board: a board that is cut ===== -/
def bd_v (n hx hy X Y : Nat) : Int32 := if X = hx ∧ Y = hy then -9 else nI (bd_cell n 0 0 hx hy 0 X Y)
def bd_P (n hx hy i : Nat) : Nat × Nat × Nat × Nat := bd_pc n 0 0 hx hy i
def bd_C (n hx hy r : Nat) (h : ab_H) : Prop := n ≤ 4 ∧ hx < 2 ^ n ∧ hy < 2 ^ n ∧ ab_i h r 0 = nI n ∧ ab_i h r 1 = nI hx ∧ ab_i h r 2 = nI hy ∧ ab_i h r 3 = nI (bd_n n) ∧ ab_i h r 4 = nI (2 ^ n) ∧ (∀ X Y, X < 2 ^ n → Y < 2 ^ n → ab_i h (r + 1) (Y * 16 + X) = bd_v n hx hy X Y) ∧ (∀ i, i < bd_n n → ab_i h (r + 2) i = nI (bd_P n hx hy i).1) ∧ (∀ i, i < bd_n n → ab_i h (r + 3) i = nI (bd_P n hx hy i).2.1) ∧ (∀ i, i < bd_n n → ab_i h (r + 4) i = nI (bd_P n hx hy i).2.2.1) ∧ ∀ i, i < bd_n n → ab_i h (r + 5) i = nI (bd_P n hx hy i).2.2.2
theorem bd_C.n4 {n hx hy r : Nat} {h : ab_H} (H : bd_C n hx hy r h) : n ≤ 4 := H.1
theorem bd_C.hx {n hx hy r : Nat} {h : ab_H} (H : bd_C n hx hy r h) : hx < 2 ^ n := H.2.1
theorem bd_C.hy {n hx hy r : Nat} {h : ab_H} (H : bd_C n hx hy r h) : hy < 2 ^ n := H.2.2.1
theorem bd_C.f0 {n hx hy r : Nat} {h : ab_H} (H : bd_C n hx hy r h) : ab_i h r 0 = nI n := H.2.2.2.1
theorem bd_C.f1 {n hx hy r : Nat} {h : ab_H} (H : bd_C n hx hy r h) : ab_i h r 1 = nI hx := H.2.2.2.2.1
theorem bd_C.f2 {n hx hy r : Nat} {h : ab_H} (H : bd_C n hx hy r h) : ab_i h r 2 = nI hy := H.2.2.2.2.2.1
theorem bd_C.f3 {n hx hy r : Nat} {h : ab_H} (H : bd_C n hx hy r h) : ab_i h r 3 = nI (bd_n n) := H.2.2.2.2.2.2.1
theorem bd_C.f4 {n hx hy r : Nat} {h : ab_H} (H : bd_C n hx hy r h) : ab_i h r 4 = nI (2 ^ n) := H.2.2.2.2.2.2.2.1
theorem bd_C.cells {n hx hy r : Nat} {h : ab_H} (H : bd_C n hx hy r h) {X Y : Nat} (hX : X < 2 ^ n) (hY : Y < 2 ^ n) : ab_i h (r + 1) (Y * 16 + X) = bd_v n hx hy X Y := H.2.2.2.2.2.2.2.2.1 X Y hX hY
theorem bd_C.way {n hx hy r i : Nat} {h : ab_H} (H : bd_C n hx hy r h) (hi : i < bd_n n) : ab_i h (r + 2) i = nI (bd_P n hx hy i).1 := H.2.2.2.2.2.2.2.2.2.1 i hi
theorem bd_C.size {n hx hy r i : Nat} {h : ab_H} (H : bd_C n hx hy r h) (hi : i < bd_n n) : ab_i h (r + 3) i = nI (bd_P n hx hy i).2.1 := H.2.2.2.2.2.2.2.2.2.2.1 i hi
theorem bd_C.left {n hx hy r i : Nat} {h : ab_H} (H : bd_C n hx hy r h) (hi : i < bd_n n) : ab_i h (r + 4) i = nI (bd_P n hx hy i).2.2.1 := H.2.2.2.2.2.2.2.2.2.2.2.1 i hi
theorem bd_C.top {n hx hy r i : Nat} {h : ab_H} (H : bd_C n hx hy r h) (hi : i < bd_n n) : ab_i h (r + 5) i = nI (bd_P n hx hy i).2.2.2 := H.2.2.2.2.2.2.2.2.2.2.2.2 i hi
theorem bd_C.fr {S : List Nat} {n hx hy r : Nat} {h h1 : ab_H} (f : ab_fr S h h1) (H : bd_C n hx hy r h) (hS : ∀ a, r ≤ a → a ≤ r + 5 → a ∉ S) : bd_C n hx hy r h1 := by
  unfold bd_C
  rw [ab_i_fr f (hS r (by omega) (by omega)), ab_i_fr f (hS (r + 1) (by omega) (by omega)), ab_i_fr f (hS (r + 2) (by omega) (by omega)), ab_i_fr f (hS (r + 3) (by omega) (by omega)), ab_i_fr f (hS (r + 4) (by omega) (by omega)), ab_i_fr f (hS (r + 5) (by omega) (by omega))]
  exact H
theorem bd_P_in {n hx hy i : Nat} (hi : i < bd_n n) : (bd_P n hx hy i).1 < 4 ∧ (bd_P n hx hy i).2.2.1 + 1 < 2 ^ n ∧ (bd_P n hx hy i).2.2.2 + 1 < 2 ^ n ∧ (bd_P n hx hy i).2.1 ≤ 2 ^ n := by
  have h := bd_pc_in n 0 0 hx hy i hi
  rw [Nat.zero_add] at h
  exact ⟨h.1, h.2.2.1, h.2.2.2.2.1, h.2.2.2.2.2⟩
theorem bd_isc_cut {n hx hy r : Nat} {h h1 : ab_H} (hn : n ≤ 4) (hX : hx < 2 ^ n) (hY : hy < 2 ^ n) (g0 : ab_i h r 0 = nI n) (g1 : ab_i h r 1 = nI hx) (g2 : ab_i h r 2 = nI hy) (g4 : ab_i h r 4 = nI (2 ^ n)) (hl : ∀ t, t < 256 → ab_i h (r + 1) t = -9) (H : bd_cut n 0 0 hx hy 0 r h h1) : bd_C n hx hy r h1 := by
  obtain ⟨f, a0, a1, a2, a3, a4, a5, a6⟩ := H
  have hpw := bd_pow4 hn
  refine ⟨hn, hX, hY, (a0 0 (by decide)).trans g0, (a0 1 (by decide)).trans g1, (a0 2 (by decide)).trans g2, by rw [a1, Nat.zero_add], (a0 4 (by decide)).trans g4, fun X Y hX1 hY1 => ?_, fun i hi => ?_, fun i hi => ?_, fun i hi => ?_, fun i hi => ?_⟩
  · unfold bd_v
    by_cases e : X = hx ∧ Y = hy
    · rw [if_pos e, a2.2 X Y (by omega) (by omega) (fun q => by omega)]
      exact hl _ (by omega)
    · rw [if_neg e]
      exact a2.1 X Y (by omega) (by omega) ⟨by omega, by omega, by omega, by omega⟩ (by omega)
  · have q := a3.1 i hi; rw [Nat.zero_add] at q; exact q
  · have q := a4.1 i hi; rw [Nat.zero_add] at q; exact q
  · have q := a5.1 i hi; rw [Nat.zero_add] at q; exact q
  · have q := a6.1 i hi; rw [Nat.zero_add] at q; exact q
set_option maxRecDepth 100000 in
set_option maxHeartbeats 4000000 in
theorem lp_fillCells {k b r n hx hy : Nat} {h : ab_H} {post : Value → ab_H → Prop} (hB : at_Board (ab_sh h) (ab_r h) r) (cont : ∀ h1, ab_fr [r + 1] h h1 → (∀ t, t < 256 → ab_i h1 (r + 1) t = -9) → ab_R k b mX0_cutAnew 55 [some (.ref r), some (.int (nI n)), some (.int (nI hx)), some (.int (nI hy)), some (.int (nI 256))] [] h1 post) : ∀ (j i : Nat) (h1 : ab_H), i + j = 256 → ab_fr [r + 1] h h1 → (∀ t, t < i → ab_i h1 (r + 1) t = -9) → ab_R k b mX0_cutAnew 30 [some (.ref r), some (.int (nI n)), some (.int (nI hx)), some (.int (nI hy)), some (.int (nI i))] [] h1 post := by
  intro j
  induction j with
  | zero =>
    intro i h1 hi f hl
    obtain rfl : i = 256 := by omega
    have hB1 := at_Board.fr f hB
    refine ab_iload dX0_cutAnew_30 rfl ?_
    refine ab_aload_n dX0_cutAnew_32 rfl ?_
    refine ab_getR dX0_cutAnew_33 fl_X0_11 hB1.1 hB1.2.1 ?_
    refine ab_alen (t := 0) dX0_cutAnew_36 hB1.2.2.1 rfl ?_
    refine ab_nicmp_ge 55 dX0_cutAnew_37 (by decide) (by omega) (by omega) (fun c_37 => ?_) (fun c_37 => ?_)
    · skip
      exact cont h1 f hl
    · skip
      exact absurd (by decide) c_37
  | succ j ih =>
    intro i h1 hi f hl
    have hB1 := at_Board.fr f hB
    refine ab_iload dX0_cutAnew_30 rfl ?_
    refine ab_aload_n dX0_cutAnew_32 rfl ?_
    refine ab_getR dX0_cutAnew_33 fl_X0_11 hB1.1 hB1.2.1 ?_
    refine ab_alen (t := 0) dX0_cutAnew_36 hB1.2.2.1 rfl ?_
    refine ab_nicmp_ge 55 dX0_cutAnew_37 (by decide) (by omega) (by omega) (fun c_37 => ?_) (fun c_37 => ?_)
    · skip
      exact absurd c_37 (by omega)
    · skip
      refine ab_aload_n dX0_cutAnew_40 rfl ?_
      refine ab_getR dX0_cutAnew_41 fl_X0_11 hB1.1 hB1.2.1 ?_
      refine ab_iload dX0_cutAnew_44 rfl ?_
      refine ab_bipush (v := -9) dX0_cutAnew_46 (by decide) ?_
      refine ab_iast dX0_cutAnew_48 hB1.2.2.1 rfl (by omega) ?_
      refine ab_nincR (ls' := [_, _, _, _, _]) dX0_cutAnew_49 rfl rfl ?_
      refine ab_goto 30 dX0_cutAnew_52 (by decide) ?_
      exact ih (i + 1) _ (by omega) (f.si _ _ _ (by simp)) (ab_si_next (P := fun _ => -9) hl rfl)
set_option maxRecDepth 100000 in
set_option maxHeartbeats 4000000 in
theorem c_cutAnew {k b r n hx hy : Nat} {h : ab_H} (hk : 7 ≤ k) (hB : at_Board (ab_sh h) (ab_r h) r) (hn : n ≤ 4) (hX : hx < 2 ^ n) (hY : hy < 2 ^ n) : ab_M k b mX0_cutAnew [.ref r, .int (nI n), .int (nI hx), .int (nI hy)] h (ab_pv (fun h' => ab_fr [r, r + 1, r + 2, r + 3, r + 4, r + 5] h h' ∧ bd_C n hx hy r h')) := by
  refine ab_enter ?_
  refine ab_aload_n dX0_cutAnew_0 rfl ?_
  refine ab_iload_n dX0_cutAnew_1 rfl ?_
  refine ab_putI dX0_cutAnew_2 fl_X0_31 hB.1 ?_
  refine ab_aload_n dX0_cutAnew_5 rfl ?_
  refine ab_iconst (v := nI 1) dX0_cutAnew_6 (by decide) ?_
  refine ab_iload_n dX0_cutAnew_7 rfl ?_
  refine ab_nshlR dX0_cutAnew_8 (by omega) ?_
  rw [ab_1shl]
  refine ab_putI dX0_cutAnew_9 fl_X0_35 hB.1 ?_
  refine ab_aload_n dX0_cutAnew_12 rfl ?_
  refine ab_iload_n dX0_cutAnew_13 rfl ?_
  refine ab_putI dX0_cutAnew_14 fl_X0_38 hB.1 ?_
  refine ab_aload_n dX0_cutAnew_17 rfl ?_
  refine ab_iload_n dX0_cutAnew_18 rfl ?_
  refine ab_putI dX0_cutAnew_19 fl_X0_41 hB.1 ?_
  refine ab_aload_n dX0_cutAnew_22 rfl ?_
  refine ab_iconst (v := nI 0) dX0_cutAnew_23 (by decide) ?_
  refine ab_putI dX0_cutAnew_24 fl_X0_44 hB.1 ?_
  obtain ⟨h5, e5, f5, g0, g1, g2, g3, g4⟩ : ∃ h5, h5 = ab_si (ab_si (ab_si (ab_si (ab_si h r 0 (nI n)) r 4 (nI (2 ^ n))) r 1 (nI hx)) r 2 (nI hy)) r 3 (nI 0) ∧ ab_fr [r] h h5 ∧ ab_i h5 r 0 = nI n ∧ ab_i h5 r 1 = nI hx ∧ ab_i h5 r 2 = nI hy ∧ ab_i h5 r 3 = nI 0 ∧ ab_i h5 r 4 = nI (2 ^ n) := ⟨_, rfl, (((((ab_fr.rf h).si _ _ _ (by simp)).si _ _ _ (by simp)).si _ _ _ (by simp)).si _ _ _ (by simp)).si _ _ _ (by simp), by simp [ab_i_si, ab_up_at], by simp [ab_i_si, ab_up_at], by simp [ab_i_si, ab_up_at], by simp [ab_i_si, ab_up_at], by simp [ab_i_si, ab_up_at]⟩
  rw [← e5]
  have hB5 := at_Board.fr f5 hB
  refine ab_iconst (v := nI 0) dX0_cutAnew_27 (by decide) ?_
  refine ab_sti (ls' := [_, _, _, _, _]) dX0_cutAnew_28 (by decide) rfl ?_
  refine lp_fillCells hB5 (fun h1 f hl => ?_) 256 0 h5 rfl (ab_fr.rf h5) (fun t ht => absurd ht (Nat.not_lt_zero t))
  have hB1 := at_Board.fr f hB5
  have er := ab_i_fr f (a := r) (by simp)
  refine ab_aload_n dX0_cutAnew_55 rfl ?_
  refine ab_iload_n dX0_cutAnew_56 rfl ?_
  refine ab_iconst (v := nI 0) dX0_cutAnew_57 (by decide) ?_
  refine ab_iconst (v := nI 0) dX0_cutAnew_58 (by decide) ?_
  refine ab_iload_n dX0_cutAnew_59 rfl ?_
  refine ab_iload_n dX0_cutAnew_60 rfl ?_
  refine ab_callSv [_, _, _, _, _, _] dX0_cutAnew_61 ml_X0_47 mk_X0_cutBlock (c_cutBlock (r := r) hn n (k := n + 2) (b := 0) (x := 0) (y := 0) (mx := hx) (my := hy) (p := 0) (Nat.le_refl _) hB1 (by rw [er]; exact g0) (by rw [er]; exact g3) (Nat.le_refl _) (by omega) (by omega) ⟨by omega, by omega, by omega, by omega⟩ (by have := bd_n_le n hn; omega)) (fun h2 hq => ?_)
  refine ab_retv dX0_cutAnew_64 ?_
  exact ⟨((f5.mono (by simp)).trans (f.mono (S' := [r, r + 1, r + 2, r + 3, r + 4, r + 5]) (by simp)) (fun _ q => q)).trans hq.1 (fun _ q => q), bd_isc_cut hn hX hY (by rw [er]; exact g0) (by rw [er]; exact g1) (by rw [er]; exact g2) (by rw [er]; exact g4) hl hq⟩
def bd_cx (P : Nat × Nat × Nat × Nat) : Nat := P.2.2.1 + (3 - P.1) % 2
def bd_cy (P : Nat × Nat × Nat × Nat) : Nat := P.2.2.2 + (3 - P.1) / 2
set_option maxRecDepth 100000 in
set_option maxHeartbeats 4000000 in
theorem c_wayOf {k b r n hx hy i : Nat} {h : ab_H} (hB : at_Board (ab_sh h) (ab_r h) r) (hD : bd_C n hx hy r h) (hi : i < bd_n n) : ab_M k b mX0_wayOf [.ref r, .int (nI i)] h (ab_pn (fun v h' => h' = h ∧ v = (bd_P n hx hy i).1)) := by
  have hb85 := bd_n_le n hD.n4
  have hpw := bd_pow4 hD.n4
  have hP := bd_P_in (hx := hx) (hy := hy) hi
  refine ab_enter ?_
  refine ab_aload_n dX0_wayOf_0 rfl ?_
  refine ab_getR dX0_wayOf_1 fl_X0_15 hB.1 hB.2.2.2.1 ?_
  refine ab_iload_n dX0_wayOf_4 rfl ?_
  refine ab_iald dX0_wayOf_5 hB.2.2.2.2.1 rfl (by omega) (hD.way hi) ?_
  refine ab_retn dX0_wayOf_6 ?_
  exact ⟨rfl, rfl⟩
set_option maxRecDepth 100000 in
set_option maxHeartbeats 4000000 in
theorem c_sizeOf {k b r n hx hy i : Nat} {h : ab_H} (hB : at_Board (ab_sh h) (ab_r h) r) (hD : bd_C n hx hy r h) (hi : i < bd_n n) : ab_M k b mX0_sizeOf [.ref r, .int (nI i)] h (ab_pn (fun v h' => h' = h ∧ v = (bd_P n hx hy i).2.1)) := by
  have hb85 := bd_n_le n hD.n4
  have hpw := bd_pow4 hD.n4
  have hP := bd_P_in (hx := hx) (hy := hy) hi
  refine ab_enter ?_
  refine ab_aload_n dX0_sizeOf_0 rfl ?_
  refine ab_getR dX0_sizeOf_1 fl_X0_18 hB.1 hB.2.2.2.2.2.1 ?_
  refine ab_iload_n dX0_sizeOf_4 rfl ?_
  refine ab_iald dX0_sizeOf_5 hB.2.2.2.2.2.2.1 rfl (by omega) (hD.size hi) ?_
  refine ab_retn dX0_sizeOf_6 ?_
  exact ⟨rfl, rfl⟩
set_option maxRecDepth 100000 in
set_option maxHeartbeats 4000000 in
theorem c_cornerX {k b r n hx hy i : Nat} {h : ab_H} (hB : at_Board (ab_sh h) (ab_r h) r) (hD : bd_C n hx hy r h) (hi : i < bd_n n) : ab_M k b mX0_cornerX [.ref r, .int (nI i)] h (ab_pn (fun v h' => h' = h ∧ v = bd_cx (bd_P n hx hy i))) := by
  have hb85 := bd_n_le n hD.n4
  have hpw := bd_pow4 hD.n4
  have hP := bd_P_in (hx := hx) (hy := hy) hi
  refine ab_enter ?_
  refine ab_iconst (v := nI 3) dX0_cornerX_0 (by decide) ?_
  refine ab_aload_n dX0_cornerX_1 rfl ?_
  refine ab_getR dX0_cornerX_2 fl_X0_15 hB.1 hB.2.2.2.1 ?_
  refine ab_iload_n dX0_cornerX_5 rfl ?_
  refine ab_iald dX0_cornerX_6 hB.2.2.2.2.1 rfl (by omega) (hD.way hi) ?_
  refine ab_nsubR dX0_cornerX_7 (by omega) ?_
  refine ab_sti_n (ls' := [_, _, _]) dX0_cornerX_8 (by decide) rfl ?_
  refine ab_aload_n dX0_cornerX_9 rfl ?_
  refine ab_getR dX0_cornerX_10 fl_X0_21 hB.1 hB.2.2.2.2.2.2.2.1 ?_
  refine ab_iload_n dX0_cornerX_13 rfl ?_
  refine ab_iald dX0_cornerX_14 hB.2.2.2.2.2.2.2.2.1 rfl (by omega) (hD.left hi) ?_
  refine ab_iload_n dX0_cornerX_15 rfl ?_
  refine ab_iconst (v := nI 1) dX0_cornerX_16 (by decide) ?_
  refine ab_nandR dX0_cornerX_17 ?_
  rw [ab_and1]
  refine ab_naddR dX0_cornerX_18 ?_
  refine ab_retn dX0_cornerX_19 ?_
  exact ⟨rfl, rfl⟩
set_option maxRecDepth 100000 in
set_option maxHeartbeats 4000000 in
theorem c_cornerY {k b r n hx hy i : Nat} {h : ab_H} (hB : at_Board (ab_sh h) (ab_r h) r) (hD : bd_C n hx hy r h) (hi : i < bd_n n) : ab_M k b mX0_cornerY [.ref r, .int (nI i)] h (ab_pn (fun v h' => h' = h ∧ v = bd_cy (bd_P n hx hy i))) := by
  have hb85 := bd_n_le n hD.n4
  have hpw := bd_pow4 hD.n4
  have hP := bd_P_in (hx := hx) (hy := hy) hi
  refine ab_enter ?_
  refine ab_iconst (v := nI 3) dX0_cornerY_0 (by decide) ?_
  refine ab_aload_n dX0_cornerY_1 rfl ?_
  refine ab_getR dX0_cornerY_2 fl_X0_15 hB.1 hB.2.2.2.1 ?_
  refine ab_iload_n dX0_cornerY_5 rfl ?_
  refine ab_iald dX0_cornerY_6 hB.2.2.2.2.1 rfl (by omega) (hD.way hi) ?_
  refine ab_nsubR dX0_cornerY_7 (by omega) ?_
  refine ab_sti_n (ls' := [_, _, _]) dX0_cornerY_8 (by decide) rfl ?_
  refine ab_aload_n dX0_cornerY_9 rfl ?_
  refine ab_getR dX0_cornerY_10 fl_X0_24 hB.1 hB.2.2.2.2.2.2.2.2.2.1 ?_
  refine ab_iload_n dX0_cornerY_13 rfl ?_
  refine ab_iald dX0_cornerY_14 hB.2.2.2.2.2.2.2.2.2.2.1 rfl (by omega) (hD.top hi) ?_
  refine ab_iload_n dX0_cornerY_15 rfl ?_
  refine ab_iconst (v := nI 1) dX0_cornerY_16 (by decide) ?_
  refine ab_nshrR dX0_cornerY_17 (by omega) (by decide) ?_
  rw [ab_shr1]
  refine ab_naddR dX0_cornerY_18 ?_
  refine ab_retn dX0_cornerY_19 ?_
  exact ⟨rfl, rfl⟩
