/-! ===== the class's Board: the border, touching ===== -/
theorem bd_sub2 : ∀ n, n ≤ 4 → (nI (2 ^ n) - nI 2).toInt = ((2 ^ n : Nat) : Int) - 2 := by decide
def bd_inside (n hx hy i : Nat) : Prop := bd_win 1 (((2 ^ n : Nat) : Int) - 2) 1 (((2 ^ n : Nat) : Int) - 2) (bd_P n hx hy i)
theorem bd_v_own {n hx hy X Y i : Nat} (hn : n ≤ 4) (ax : hx < 2 ^ n) (ay : hy < 2 ^ n) (hX : X < 2 ^ n) (hY : Y < 2 ^ n) (hi : i < bd_n n) : bd_v n hx hy X Y = nI i ↔ bd_own (bd_P n hx hy i) X Y := by
  have hb := bd_n_le n hn
  have hm : bd_in (2 ^ n) 0 0 hx hy := ⟨by omega, by omega, by omega, by omega⟩
  unfold bd_v
  constructor
  · intro h
    by_cases e : X = hx ∧ Y = hy
    · rw [if_pos e] at h
      have := congrArg Int32.toInt h
      rw [nI_toInt (by omega), show (-9 : Int32).toInt = -9 by decide] at this
      omega
    · rw [if_neg e] at h
      obtain ⟨i', h1, h2, h3⟩ := bd_cell_own n 0 0 hx hy 0 X Y hm ⟨by omega, by omega, by omega, by omega⟩ (by omega)
      rw [h2, Nat.zero_add] at h
      have := (ab_ninj (by omega) (by omega)).mp h
      subst this
      exact h3
  · intro h
    obtain ⟨-, h2, h3⟩ := bd_own_cell n 0 0 hx hy 0 X Y i hm hi h
    rw [if_neg (by omega), h3, Nat.zero_add]
theorem bd_own_in {n hx hy X Y i : Nat} (ax : hx < 2 ^ n) (ay : hy < 2 ^ n) (hi : i < bd_n n) (h : bd_own (bd_P n hx hy i) X Y) : X < 2 ^ n ∧ Y < 2 ^ n := by
  obtain ⟨h1, -, -⟩ := bd_own_cell n 0 0 hx hy 0 X Y i ⟨by omega, by omega, by omega, by omega⟩ hi h
  unfold bd_in at h1
  omega
theorem bd_at_nI {n hx hy X Y : Nat} (hX : X < 2147483648) (hY : Y < 2147483648) : bd_at n hx hy (nI X) (nI Y) = if X < 2 ^ n ∧ Y < 2 ^ n then bd_v n hx hy X Y else -9 := by
  unfold bd_at
  rw [bd_isc_nI hX hY, nI_clamp hX, nI_clamp hY]
  by_cases e : X < 2 ^ n ∧ Y < 2 ^ n
  · rw [if_pos e, if_pos (decide_eq_true e)]
  · rw [if_neg e, if_neg (fun q => e (of_decide_eq_true q))]
theorem bd_9 {j : Nat} (hj : j < 85) : ¬ (-9 : Int32) = nI j := by
  intro h
  have := congrArg Int32.toInt h
  rw [nI_toInt (by omega), show (-9 : Int32).toInt = -9 by decide] at this
  omega
theorem bd_m1 : ∀ X, X < 17 → 0 < X → nI X - nI 1 = nI (X - 1) := by decide
theorem bd_p1 (X : Nat) : nI X + nI 1 = nI (X + 1) := by rw [nI, nI, nI, ← Int32.ofNat_add]
theorem bd_at_hi {n hx hy X Y j : Nat} (hj : j < 85) (hX : X < 2147483648) (hY : Y < 2147483648) : bd_at n hx hy (nI X) (nI Y) = nI j ↔ X < 2 ^ n ∧ Y < 2 ^ n ∧ bd_v n hx hy X Y = nI j := by
  rw [bd_at_nI hX hY]
  by_cases e : X < 2 ^ n ∧ Y < 2 ^ n
  · rw [if_pos e]; exact ⟨fun q => ⟨e.1, e.2, q⟩, fun q => q.2.2⟩
  · rw [if_neg e]; exact ⟨fun q => absurd q (bd_9 hj), fun q => absurd ⟨q.1, q.2.1⟩ e⟩
theorem bd_isc_m1 (n : Nat) : ∀ y : Int32, bd_isc n (nI 0 - nI 1) y = false ∧ bd_isc n y (nI 0 - nI 1) = false := by
  intro y
  unfold bd_isc
  rw [ab_inr_no (x := nI 0 - nI 1) (Or.inl (by decide))]
  exact ⟨Bool.false_and _, Bool.and_false _⟩
theorem bd_at_loX {n hx hy X Y j : Nat} (hj : j < 85) (hX : X < 17) (hY : Y < 2147483648) : bd_at n hx hy (nI X - nI 1) (nI Y) = nI j ↔ ∃ X', X = X' + 1 ∧ X' < 2 ^ n ∧ Y < 2 ^ n ∧ bd_v n hx hy X' Y = nI j := by
  cases X with
  | zero =>
    unfold bd_at
    rw [(bd_isc_m1 n _).1, if_neg (by decide)]
    exact ⟨fun q => absurd q (bd_9 hj), fun ⟨X', q, _⟩ => by omega⟩
  | succ X =>
    rw [bd_m1 (X + 1) hX (by omega), Nat.add_sub_cancel, bd_at_hi hj (by omega) hY]
    constructor
    · rintro ⟨a, b, c⟩; exact ⟨X, rfl, a, b, c⟩
    · rintro ⟨X', e, a, b, c⟩; obtain rfl : X = X' := by omega
      exact ⟨a, b, c⟩
theorem bd_at_loY {n hx hy X Y j : Nat} (hj : j < 85) (hY : Y < 17) (hX : X < 2147483648) : bd_at n hx hy (nI X) (nI Y - nI 1) = nI j ↔ ∃ Y', Y = Y' + 1 ∧ X < 2 ^ n ∧ Y' < 2 ^ n ∧ bd_v n hx hy X Y' = nI j := by
  cases Y with
  | zero =>
    unfold bd_at
    rw [(bd_isc_m1 n _).2, if_neg (by decide)]
    exact ⟨fun q => absurd q (bd_9 hj), fun ⟨X', q, _⟩ => by omega⟩
  | succ Y =>
    rw [bd_m1 (Y + 1) hY (by omega), Nat.add_sub_cancel, bd_at_hi hj hX (by omega)]
    constructor
    · rintro ⟨a, b, c⟩; exact ⟨Y, rfl, a, b, c⟩
    · rintro ⟨Y', e, a, b, c⟩; obtain rfl : Y = Y' := by omega
      exact ⟨a, b, c⟩
def bd_nb (n hx hy X Y j : Nat) : Prop := bd_at n hx hy (nI X - nI 1) (nI Y) = nI j ∨ bd_at n hx hy (nI X + nI 1) (nI Y) = nI j ∨ bd_at n hx hy (nI X) (nI Y - nI 1) = nI j ∨ bd_at n hx hy (nI X) (nI Y + nI 1) = nI j
def bd_side (n hx hy i j X Y X' Y' : Nat) : Prop := X' < 2 ^ n ∧ Y' < 2 ^ n ∧ bd_v n hx hy X Y = nI i ∧ bd_v n hx hy X' Y' = nI j
/-- two pieces have a side in common -/
def bd_adjAt (n hx hy i j X Y : Nat) : Prop := bd_side n hx hy i j X Y (X + 1) Y ∨ bd_side n hx hy i j X Y X (Y + 1) ∨ bd_side n hx hy j i X Y (X + 1) Y ∨ bd_side n hx hy j i X Y X (Y + 1)
def bd_adj (n hx hy i j : Nat) : Prop := ∃ X Y, X < 2 ^ n ∧ Y < 2 ^ n ∧ bd_adjAt n hx hy i j X Y
theorem bd_nb_adj {n hx hy i j : Nat} (hn : n ≤ 4) (ax : hx < 2 ^ n) (ay : hy < 2 ^ n) (hi : i < bd_n n) (hj : j < bd_n n) : (∃ z, z < 4 ∧ z ≠ (bd_P n hx hy i).1 ∧ bd_nb n hx hy ((bd_P n hx hy i).2.2.1 + z % 2) ((bd_P n hx hy i).2.2.2 + z / 2) j) ↔ bd_adj n hx hy i j := by
  have hb := bd_n_le n hn
  have hpw := bd_pow4 hn
  have hv : ∀ X Y, X < 2 ^ n → Y < 2 ^ n → (bd_v n hx hy X Y = nI i ↔ bd_own (bd_P n hx hy i) X Y) := fun X Y a b => bd_v_own hn ax ay a b hi
  have key : (∃ z, z < 4 ∧ z ≠ (bd_P n hx hy i).1 ∧ bd_nb n hx hy ((bd_P n hx hy i).2.2.1 + z % 2) ((bd_P n hx hy i).2.2.2 + z / 2) j) ↔ ∃ X Y, X < 2 ^ n ∧ Y < 2 ^ n ∧ bd_v n hx hy X Y = nI i ∧ bd_nb n hx hy X Y j := by
    constructor
    · rintro ⟨z, h1, h2, h3⟩
      have ho : bd_own (bd_P n hx hy i) ((bd_P n hx hy i).2.2.1 + z % 2) ((bd_P n hx hy i).2.2.2 + z / 2) := ⟨z, h1, h2, rfl, rfl⟩
      obtain ⟨a, b⟩ := bd_own_in ax ay hi ho
      exact ⟨_, _, a, b, (hv _ _ a b).mpr ho, h3⟩
    · rintro ⟨X, Y, a, b, h1, h2⟩
      obtain ⟨z, e1, e2, rfl, rfl⟩ := (hv _ _ a b).mp h1
      exact ⟨z, e1, e2, h2⟩
  rw [key]
  constructor
  · rintro ⟨X, Y, a, b, h1, h2⟩
    rcases h2 with h2 | h2 | h2 | h2
    · obtain ⟨X', rfl, c, d, e⟩ := (bd_at_loX (by omega) (by omega) (by omega)).mp h2
      exact ⟨X', Y, c, d, Or.inr (Or.inr (Or.inl ⟨a, b, e, h1⟩))⟩
    · rw [bd_p1] at h2
      obtain ⟨c, d, e⟩ := (bd_at_hi (by omega) (by omega) (by omega)).mp h2
      exact ⟨X, Y, a, b, Or.inl ⟨c, d, h1, e⟩⟩
    · obtain ⟨Y', rfl, c, d, e⟩ := (bd_at_loY (by omega) (by omega) (by omega)).mp h2
      exact ⟨X, Y', c, d, Or.inr (Or.inr (Or.inr ⟨a, b, e, h1⟩))⟩
    · rw [bd_p1] at h2
      obtain ⟨c, d, e⟩ := (bd_at_hi (by omega) (by omega) (by omega)).mp h2
      exact ⟨X, Y, a, b, Or.inr (Or.inl ⟨c, d, h1, e⟩)⟩
  · rintro ⟨X, Y, a, b, h | h | h | h⟩
    · exact ⟨X, Y, a, b, h.2.2.1, Or.inr (Or.inl (by rw [bd_p1]; exact (bd_at_hi (by omega) (by omega) (by omega)).mpr ⟨h.1, h.2.1, h.2.2.2⟩))⟩
    · exact ⟨X, Y, a, b, h.2.2.1, Or.inr (Or.inr (Or.inr (by rw [bd_p1]; exact (bd_at_hi (by omega) (by omega) (by omega)).mpr ⟨h.1, h.2.1, h.2.2.2⟩)))⟩
    · exact ⟨X + 1, Y, h.1, h.2.1, h.2.2.2, Or.inl ((bd_at_loX (by omega) (by omega) (by omega)).mpr ⟨X, rfl, a, b, h.2.2.1⟩)⟩
    · exact ⟨X, Y + 1, h.1, h.2.1, h.2.2.2, Or.inr (Or.inr (Or.inl ((bd_at_loY (by omega) (by omega) (by omega)).mpr ⟨Y, rfl, a, b, h.2.2.1⟩)))⟩
noncomputable def bd_b (P : Prop) : Int32 := @ite _ P (Classical.propDecidable _) (nI 1) (nI 0)
theorem bd_b_yes {P : Prop} (h : P) : bd_b P = nI 1 := by rw [bd_b, if_pos h]
theorem bd_b_no {P : Prop} (h : ¬ P) : bd_b P = nI 0 := by rw [bd_b, if_neg h]
theorem bd_b_congr {P Q : Prop} (h : P ↔ Q) : bd_b P = bd_b Q := by rw [propext h]
/-- which pieces are marked -/
def bd_T (r : Nat) (S : Nat → Prop) (h : ab_H) : Prop := ∀ j, j < 85 → ab_i h (r + 6) j = bd_b (S j)
theorem bd_T_congr {r : Nat} {S S' : Nat → Prop} {h : ab_H} (H : bd_T r S h) (e : ∀ j, j < 85 → (S j ↔ S' j)) : bd_T r S' h := fun j hj => (H j hj).trans (bd_b_congr (e j hj))
theorem bd_T_put {r p : Nat} {S : Nat → Prop} {h : ab_H} (H : bd_T r S h) : bd_T r (fun j => S j ∨ j = p) (ab_si h (r + 6) p (nI 1)) := by
  intro j hj
  rw [ab_i_si, if_pos rfl, ab_up_at]
  by_cases e : j = p
  · rw [if_pos e, bd_b_yes (Or.inr e)]
  · rw [if_neg e, H j hj]
    exact bd_b_congr ⟨Or.inl, fun q => q.resolve_right e⟩
theorem bd_T_drop {r p : Nat} {S : Nat → Prop} {h : ab_H} (H : bd_T r S h) : bd_T r (fun j => j ≠ p ∧ S j) (ab_si h (r + 6) p (nI 0)) := by
  intro j hj
  rw [ab_i_si, if_pos rfl, ab_up_at]
  by_cases e : j = p
  · rw [if_pos e, bd_b_no (fun q => q.1 e)]
  · rw [if_neg e, H j hj]
    exact bd_b_congr ⟨fun q => ⟨e, q⟩, fun q => q.2⟩
set_option maxRecDepth 100000 in
set_option maxHeartbeats 4000000 in
theorem c_atBorder {k b r n hx hy : Nat} {h : ab_H} (hk : 1 ≤ k) (hB : at_Board (ab_sh h) (ab_r h) r) (hD : bd_C n hx hy r h) : ab_M k b mX0_atBorder [.ref r] h (ab_pn (fun v h' => h' = h ∧ v = bd_n n - bd_num (bd_inside n hx hy) (bd_n n))) := by
  refine ab_enter ?_
  refine ab_aload_n dX0_atBorder_0 rfl ?_
  refine ab_getI dX0_atBorder_1 fl_X0_44 hB.1 hD.f3 ?_
  refine ab_aload_n dX0_atBorder_4 rfl ?_
  refine ab_iconst (v := nI 1) dX0_atBorder_5 (by decide) ?_
  refine ab_aload_n dX0_atBorder_6 rfl ?_
  refine ab_getI dX0_atBorder_7 fl_X0_35 hB.1 hD.f4 ?_
  refine ab_iconst (v := nI 2) dX0_atBorder_10 (by decide) ?_
  refine ab_isub dX0_atBorder_11 ?_
  refine ab_iconst (v := nI 1) dX0_atBorder_12 (by decide) ?_
  refine ab_aload_n dX0_atBorder_13 rfl ?_
  refine ab_getI dX0_atBorder_14 fl_X0_35 hB.1 hD.f4 ?_
  refine ab_iconst (v := nI 2) dX0_atBorder_17 (by decide) ?_
  refine ab_isub dX0_atBorder_18 ?_
  refine ab_callVn [_, _, _, _] dX0_atBorder_19 ml_X0_78 mk_X0_inWindow hB.1 (c_inWindow (k := 0) (b := 0) hB hD) (fun v1 hh1 hq => ?_)
  obtain ⟨hhe, rfl⟩ := hq
  rw [hhe, bd_sub2 n hD.n4, show (nI 1).toInt = 1 from by decide]
  refine ab_nsubR dX0_atBorder_22 (bd_num_le _ _) ?_
  refine ab_retn dX0_atBorder_23 ?_
  exact ⟨rfl, rfl⟩
set_option maxRecDepth 100000 in
set_option maxHeartbeats 4000000 in
theorem c_touch {k b r n hx hy : Nat} {h : ab_H} {x y : Int32} {S : Nat → Prop} (hk : 3 ≤ k) (hB : at_Board (ab_sh h) (ab_r h) r) (hD : bd_C n hx hy r h) (hT : bd_T r S h) : ab_M k b mX0_touch [.ref r, .int x, .int y] h (ab_pv (fun h' => ab_fr [r + 6] h h' ∧ bd_T r (fun j => S j ∨ j < bd_n n ∧ bd_at n hx hy x y = nI j) h')) := by
  have hb85 := bd_n_le n hD.n4
  have hpw := bd_pow4 hD.n4
  have hpo := bd_pos n
  refine ab_enter ?_
  refine ab_aload_n dX0_touch_0 rfl ?_
  refine ab_iload_n dX0_touch_1 rfl ?_
  refine ab_iload_n dX0_touch_2 rfl ?_
  refine ab_callVi [_, _] dX0_touch_3 ml_X0_70 mk_X0_pieceAt hB.1 (c_pieceAt (k := 2) (b := 0) (by omega) hB hD) (fun v1 hh1 hq => ?_)
  obtain ⟨hhe, rfl⟩ := hq
  rw [hhe]
  refine ab_sti_n (ls' := [_, _, _, _]) dX0_touch_6 (by decide) rfl ?_
  refine ab_aload_n dX0_touch_7 rfl ?_
  refine ab_iload_n dX0_touch_8 rfl ?_
  refine ab_callVb [_] dX0_touch_9 ml_X0_74 mk_X0_hasPiece hB.1 (c_hasPiece (k := 0) (b := 0) (p := bd_n n) hB hD.f3 hb85) (fun t1 hh2 hq => ?_)
  obtain ⟨hhe2, hte⟩ := hq
  rw [hhe2]
  refine ab_bif_eq 22 dX0_touch_12 (by decide) (fun c_12 => ?_) (fun c_12 => ?_)
  · skip
    refine ab_retv dX0_touch_22 ?_
    exact ⟨ab_fr.rf h, bd_T_congr hT (fun j hj => ⟨Or.inl, fun q => q.resolve_right (fun q => ab_tf (by rw [q.2]; exact ab_inr_ok (by rw [nI_toInt (by omega)]; omega) (by rw [nI_toInt (by omega)]; omega)) (hte.symm.trans c_12))⟩)⟩
  · obtain ⟨p, hpe, hp1, hp2⟩ : ∃ p, bd_at n hx hy x y = nI p ∧ p < bd_n n ∧ p < 2147483648 := by
      have q := of_decide_eq_true (hte.symm.trans c_12)
      obtain ⟨p, e, hp⟩ := ab_of0 (ab_ge0.mpr q.1)
      rw [e, nI_toInt hp] at q
      exact ⟨p, e, by omega, hp⟩
    refine ab_aload_n dX0_touch_15 rfl ?_
    refine ab_getR dX0_touch_16 fl_X0_27 hB.1 hB.2.2.2.2.2.2.2.2.2.2.2.1 ?_
    refine ab_iload_n dX0_touch_19 rfl ?_
    refine ab_iconst (v := nI 1) dX0_touch_20 (by decide) ?_
    refine ab_zast dX0_touch_21 hB.2.2.2.2.2.2.2.2.2.2.2.2 hpe (by omega) ?_
    refine ab_retv dX0_touch_22 ?_
    refine ⟨(ab_fr.rf h).si _ _ _ (by simp), bd_T_congr (bd_T_put hT) (fun j hj => ⟨fun q => q.elim Or.inl (fun e => Or.inr ⟨by omega, by rw [e]; exact hpe⟩), fun q => q.elim Or.inl (fun e => Or.inr ((ab_ninj (by omega) (by omega)).mp (e.2.symm.trans hpe)))⟩)⟩
set_option maxRecDepth 100000 in
set_option maxHeartbeats 4000000 in
theorem c_touchAround {k b r n hx hy X Y : Nat} {h : ab_H} {S : Nat → Prop} (hk : 4 ≤ k) (hB : at_Board (ab_sh h) (ab_r h) r) (hD : bd_C n hx hy r h) (hT : bd_T r S h) : ab_M k b mX0_touchAround [.ref r, .int (nI X), .int (nI Y)] h (ab_pv (fun h' => ab_fr [r + 6] h h' ∧ bd_T r (fun j => S j ∨ j < bd_n n ∧ bd_nb n hx hy X Y j) h')) := by
  refine ab_enter ?_
  refine ab_aload_n dX0_touchAround_0 rfl ?_
  refine ab_iload_n dX0_touchAround_1 rfl ?_
  refine ab_iconst (v := nI 1) dX0_touchAround_2 (by decide) ?_
  refine ab_isub dX0_touchAround_3 ?_
  refine ab_iload_n dX0_touchAround_4 rfl ?_
  refine ab_callVv [_, _] dX0_touchAround_5 ml_X0_67 mk_X0_touch hB.1 (c_touch (k := 3) (b := 0) (by omega) hB hD hT) (fun h1 q1 => ?_)
  have hB1 := at_Board.fr q1.1 hB
  have hD1 := hD.fr q1.1 (by simp; omega)
  refine ab_aload_n dX0_touchAround_8 rfl ?_
  refine ab_iload_n dX0_touchAround_9 rfl ?_
  refine ab_iconst (v := nI 1) dX0_touchAround_10 (by decide) ?_
  refine ab_iadd dX0_touchAround_11 ?_
  refine ab_iload_n dX0_touchAround_12 rfl ?_
  refine ab_callVv [_, _] dX0_touchAround_13 ml_X0_67 mk_X0_touch hB1.1 (c_touch (k := 3) (b := 0) (by omega) hB1 hD1 q1.2) (fun h2 q2 => ?_)
  have hB2 := at_Board.fr q2.1 hB1
  have hD2 := hD1.fr q2.1 (by simp; omega)
  refine ab_aload_n dX0_touchAround_16 rfl ?_
  refine ab_iload_n dX0_touchAround_17 rfl ?_
  refine ab_iload_n dX0_touchAround_18 rfl ?_
  refine ab_iconst (v := nI 1) dX0_touchAround_19 (by decide) ?_
  refine ab_isub dX0_touchAround_20 ?_
  refine ab_callVv [_, _] dX0_touchAround_21 ml_X0_67 mk_X0_touch hB2.1 (c_touch (k := 3) (b := 0) (by omega) hB2 hD2 q2.2) (fun h3 q3 => ?_)
  have hB3 := at_Board.fr q3.1 hB2
  have hD3 := hD2.fr q3.1 (by simp; omega)
  refine ab_aload_n dX0_touchAround_24 rfl ?_
  refine ab_iload_n dX0_touchAround_25 rfl ?_
  refine ab_iload_n dX0_touchAround_26 rfl ?_
  refine ab_iconst (v := nI 1) dX0_touchAround_27 (by decide) ?_
  refine ab_iadd dX0_touchAround_28 ?_
  refine ab_callVv [_, _] dX0_touchAround_29 ml_X0_67 mk_X0_touch hB3.1 (c_touch (k := 3) (b := 0) (by omega) hB3 hD3 q3.2) (fun h4 q4 => ?_)
  have hB4 := at_Board.fr q4.1 hB3
  have hD4 := hD3.fr q4.1 (by simp; omega)
  refine ab_retv dX0_touchAround_32 ?_
  refine ⟨((q1.1.trans q2.1 (fun _ q => q)).trans q3.1 (fun _ q => q)).trans q4.1 (fun _ q => q), bd_T_congr q4.2 (fun j _ => ?_)⟩
  unfold bd_nb
  by_cases e : j < bd_n n <;> simp [e, or_assoc]
