/-! ===== shapes: bounds of fractions ===== -/
def qB (N D : Nat) (p : Int × Nat) : Prop := p.1.natAbs ≤ N ∧ 0 < p.2 ∧ p.2 ≤ D
theorem qB.mono {N D N' D' : Nat} {p : Int × Nat} (h : qB N D p) (h1 : N ≤ N') (h2 : D ≤ D') : qB N' D' p := ⟨Nat.le_trans h.1 h1, h.2.1, Nat.le_trans h.2.2 h2⟩
theorem qB.R {N D : Nat} {p : Int × Nat} (h : qB N D p) : qB N D (fR p) := ⟨Nat.le_trans (fR_le1 h.2.1) h.1, fR_pos h.2.1, Nat.le_trans fR_le2 h.2.2⟩
theorem qB.sub {N D N' D' : Nat} {p q : Int × Nat} (h : qB N D p) (g : qB N' D' q) : qB (N * D' + N' * D) (D * D') (q_sub p q) := by
  refine ⟨?_, Nat.mul_pos h.2.1 g.2.1, Nat.mul_le_mul h.2.2 g.2.2⟩
  show (p.1 * (q.2 : Int) - q.1 * (p.2 : Int)).natAbs ≤ _
  have e1 : (p.1 * (q.2 : Int)).natAbs ≤ N * D' := by rw [Int.natAbs_mul, Int.natAbs_natCast]; exact Nat.mul_le_mul h.1 g.2.2
  have e2 : (q.1 * (p.2 : Int)).natAbs ≤ N' * D := by rw [Int.natAbs_mul, Int.natAbs_natCast]; exact Nat.mul_le_mul g.1 h.2.2
  omega
theorem qB.add {N D N' D' : Nat} {p q : Int × Nat} (h : qB N D p) (g : qB N' D' q) : qB (N * D' + N' * D) (D * D') (q_add p q) := by
  refine ⟨?_, Nat.mul_pos h.2.1 g.2.1, Nat.mul_le_mul h.2.2 g.2.2⟩
  show (p.1 * (q.2 : Int) + q.1 * (p.2 : Int)).natAbs ≤ _
  have e1 : (p.1 * (q.2 : Int)).natAbs ≤ N * D' := by rw [Int.natAbs_mul, Int.natAbs_natCast]; exact Nat.mul_le_mul h.1 g.2.2
  have e2 : (q.1 * (p.2 : Int)).natAbs ≤ N' * D := by rw [Int.natAbs_mul, Int.natAbs_natCast]; exact Nat.mul_le_mul g.1 h.2.2
  omega
theorem qB.mul {N D N' D' : Nat} {p q : Int × Nat} (h : qB N D p) (g : qB N' D' q) : qB (N * N') (D * D') (q_mul p q) := by
  refine ⟨?_, Nat.mul_pos h.2.1 g.2.1, Nat.mul_le_mul h.2.2 g.2.2⟩
  show (p.1 * q.1).natAbs ≤ _
  rw [Int.natAbs_mul]
  exact Nat.mul_le_mul h.1 g.1
theorem qB.A {N D m v : Nat} {p : Int × Nat} (h : qB N D p) (hv : 0 < v) : qB (N * m) (D * v) (fA m v p) := ⟨by show ((p.1.natAbs * m : Nat) : Int).natAbs ≤ _; rw [Int.natAbs_natCast]; exact Nat.mul_le_mul_right _ h.1, Nat.mul_pos h.2.1 hv, Nat.mul_le_mul_right _ h.2.2⟩
theorem qB.k1 {N D : Nat} {p : Int × Nat} (h : qB N D p) (hN : N < 9223372036854775808) : nK p.1.natAbs := Nat.lt_of_le_of_lt h.1 hN
theorem qB.k2 {N D : Nat} {p : Int × Nat} (h : qB N D p) (hD : D < 9223372036854775808) : nK p.2 := Nat.lt_of_le_of_lt h.2.2 hD
/-! ===== points ===== -/
/-- a number as it is told: above the line, and below it -/
def pq (X : Nat) : Int × Nat := (((X / 100 : Nat) : Int), X % 100)
def pOK (P : Nat × Nat) : Prop := (P.1 < 10000 ∧ P.1 % 100 ≠ 0) ∧ (P.2 < 10000 ∧ P.2 % 100 ≠ 0)
theorem pq_B {X : Nat} (h : X < 10000 ∧ X % 100 ≠ 0) : qB 99 99 (pq X) := by
  refine ⟨?_, ?_, ?_⟩
  · show ((X / 100 : Nat) : Int).natAbs ≤ 99
    rw [Int.natAbs_natCast]; omega
  · show 0 < X % 100; omega
  · show X % 100 ≤ 99; omega
theorem pq_0 (X : Nat) : 0 ≤ (pq X).1 := Int.natCast_nonneg _
theorem fR_0 {p : Int × Nat} (h : 0 ≤ p.1) : 0 ≤ (fR p).1 := Int.ediv_nonneg h (Int.natCast_nonneg _)
theorem v2f_lt : ∀ (f n : Nat), v2f f n ≤ f
  | 0, _ => Nat.le_refl 0
  | f + 1, n => by
    unfold v2f
    have := v2f_lt f (n / 2)
    split <;> omega
theorem vQ_in (p : Int × Nat) : -64 ≤ vQ p ∧ vQ p ≤ 99 := by
  unfold vQ
  have h1 : v2 p.1.natAbs ≤ 64 := v2f_lt 64 _
  have h2 : v2 p.2 ≤ 64 := v2f_lt 64 _
  split <;> omega
theorem iI_int {z : Int} (h1 : -64 ≤ z) (h2 : z ≤ 99) : (iI z).toInt = z := by
  unfold iI
  rw [Int32.toInt_ofInt_of_le (by omega) (by omega)]
/-- the colour that two valuations give -/
def cb (a b : Int) : Nat := if 0 < a ∧ 0 < b then 0 else if a ≤ b then 1 else 2
theorem cb_lt (a b : Int) : cb a b < 3 := by unfold cb; split <;> (try split) <;> omega
/-- a point's colour, mirrored or not -/
def sd (m : Bool) (P : Nat × Nat) : Nat := if m = true then cb (vQ (pq P.2)) (vQ (pq P.1)) else cb (vQ (pq P.1)) (vQ (pq P.2))
theorem sd_lt (m : Bool) (P : Nat × Nat) : sd m P < 3 := by unfold sd; split <;> exact cb_lt _ _
/-! ===== triangles ===== -/
def un (k o : Nat) : Bool := decide (o = 0 ∨ k = o ∨ (o = 1 ∧ k = 4) ∨ (o = 3 ∧ k = 5))
def tm (k : Nat) : Nat := if k = 2 then 2 else if k = 5 then 0 else 1
def dv (k : Nat) : Nat := if k = 1 then 2 else if k = 4 then 4 else 1
theorem tm_le (k : Nat) : tm k ≤ 2 := by unfold tm; split <;> (try split) <;> omega
theorem dv_le (k : Nat) : dv k ≤ 4 ∧ 0 < dv k := by unfold dv; split <;> (try split) <;> omega
/-- twice the area, with its sign -/
def aT (A B C : Nat × Nat) : Int × Nat := q_sub (q_mul (q_sub (pq B.1) (pq A.1)) (q_sub (pq C.2) (pq A.2))) (q_mul (q_sub (pq C.1) (pq A.1)) (q_sub (pq B.2) (pq A.2)))
/-- a triangle's area, in least terms -/
def ar (k : Nat) (A B C : Nat × Nat) : Int × Nat := fR (fA (tm k) (2 * dv k) (aT A B C))
/-- the colours of its points -/
def co (k : Nat) (A B C : Nat × Nat) : Nat := (1 <<< sd (un k 3) A ||| 1 <<< sd (un k 3) B) ||| 1 <<< sd (un k 3) C
theorem dB {X Y : Nat} (hx : X < 10000 ∧ X % 100 ≠ 0) (hy : Y < 10000 ∧ Y % 100 ≠ 0) : qB 19602 9801 (q_sub (pq X) (pq Y)) := ((pq_B hx).sub (pq_B hy)).mono (by decide) (by decide)
theorem pB {p q : Int × Nat} (h : qB 19602 9801 p) (g : qB 19602 9801 q) : qB 384238404 96059601 (q_mul p q) := (h.mul g).mono (by decide) (by decide)
theorem sB {p q : Int × Nat} (h : qB 384238404 96059601 p) (g : qB 384238404 96059601 q) : qB 73819575554233608 9227446944279201 (q_sub p q) := (h.sub g).mono (by decide) (by decide)
theorem aT_B {A B C : Nat × Nat} (hA : pOK A) (hB : pOK B) (hC : pOK C) : qB 73819575554233608 9227446944279201 (aT A B C) := sB (pB (dB hB.1 hA.1) (dB hC.2 hA.2)) (pB (dB hC.1 hA.1) (dB hB.2 hA.2))
theorem ar_B0 {k : Nat} {p : Int × Nat} (h : qB 73819575554233608 9227446944279201 p) : qB 147639151108467216 73819575554233608 (fA (tm k) (2 * dv k) p) :=
  (h.A (m := tm k) (v := 2 * dv k) (by have := dv_le k; omega)).mono (Nat.le_trans (Nat.mul_le_mul_left _ (tm_le k)) (by decide)) (Nat.le_trans (Nat.mul_le_mul_left _ (show 2 * dv k ≤ 8 by have := dv_le k; omega)) (by decide))
theorem ar_B {k : Nat} {A B C : Nat × Nat} (hA : pOK A) (hB : pOK B) (hC : pOK C) : qB 147639151108467216 73819575554233608 (ar k A B C) := (ar_B0 (aT_B hA hB hC)).R
theorem ar_0 (k : Nat) (A B C : Nat × Nat) : 0 ≤ (ar k A B C).1 := fR_0 (Int.natCast_nonneg _)
theorem co_lt (k : Nat) (A B C : Nat × Nat) : co k A B C < 8 := by
  unfold co
  have h1 := sd_lt (un k 3) A
  have h2 := sd_lt (un k 3) B
  have h3 := sd_lt (un k 3) C
  have e : ∀ a, a < 3 → 1 <<< a < 2 ^ 3 := by decide
  exact Nat.or_lt_two_pow (Nat.or_lt_two_pow (e _ h1) (e _ h2)) (e _ h3)
/-! ===== the state of points and triangles ===== -/
/-- how many points, which; how many triangles, which: kind and corners -/
abbrev sS : Type := Nat × (Nat → Nat × Nat) × Nat × (Nat → Nat × Nat × Nat × Nat)
def sW (s : sS) : Prop := s.1 ≤ 10 ∧ s.2.2.1 ≤ 10 ∧ (∀ i, i < s.1 → pOK (s.2.1 i)) ∧ ∀ i, i < s.2.2.1 → (s.2.2.2 i).1 < 6 ∧ (s.2.2.2 i).2.1 < s.1 ∧ (s.2.2.2 i).2.2.1 < s.1 ∧ (s.2.2.2 i).2.2.2 < s.1
/-- area, colours of the i-th triangle -/
def sA (s : sS) (i : Nat) : Int × Nat := ar (s.2.2.2 i).1 (s.2.1 (s.2.2.2 i).2.1) (s.2.1 (s.2.2.2 i).2.2.1) (s.2.1 (s.2.2.2 i).2.2.2)
def sC (s : sS) (i : Nat) : Nat := co (s.2.2.2 i).1 (s.2.1 (s.2.2.2 i).2.1) (s.2.1 (s.2.2.2 i).2.2.1) (s.2.1 (s.2.2.2 i).2.2.2)
theorem sA_B {s : sS} (h : sW s) {i : Nat} (hi : i < s.2.2.1) : qB 147639151108467216 73819575554233608 (sA s i) := by
  obtain ⟨-, -, hp, ht⟩ := h
  obtain ⟨-, h1, h2, h3⟩ := ht i hi
  exact ar_B (hp _ h1) (hp _ h2) (hp _ h3)
theorem sA_0 (s : sS) (i : Nat) : 0 ≤ (sA s i).1 := ar_0 _ _ _ _
/-- a point comes, a triangle comes -/
def sP (s : sS) (X Y : Nat) : sS := (s.1 + 1, ab_up s.2.1 s.1 (X, Y), s.2.2.1, s.2.2.2)
def sT (s : sS) (k a b c : Nat) : sS := (s.1, s.2.1, s.2.2.1 + 1, ab_up s.2.2.2 s.2.2.1 (k, a, b, c))
theorem sP_W {s : sS} (h : sW s) (h10 : s.1 < 10) {X Y : Nat} (hX : X < 10000 ∧ X % 100 ≠ 0) (hY : Y < 10000 ∧ Y % 100 ≠ 0) : sW (sP s X Y) := by
  obtain ⟨h1, h2, hp, ht⟩ := h
  refine ⟨h10, h2, fun i hi => ?_, fun i hi => ?_⟩
  · show pOK (ab_up s.2.1 s.1 (X, Y) i)
    have hi : i < s.1 + 1 := hi
    by_cases e : i = s.1
    · rw [e, ab_up_self]; exact ⟨hX, hY⟩
    · rw [ab_up_ne _ _ e]; exact hp i (by omega)
  · obtain ⟨a, b, c, d⟩ := ht i hi
    exact ⟨a, Nat.lt_succ_of_lt b, Nat.lt_succ_of_lt c, Nat.lt_succ_of_lt d⟩
theorem sT_W {s : sS} (h : sW s) (h10 : s.2.2.1 < 10) {k a b c : Nat} (hk : k < 6) (ha : a < s.1) (hb : b < s.1) (hc : c < s.1) : sW (sT s k a b c) := by
  obtain ⟨h1, h2, hp, ht⟩ := h
  refine ⟨h1, h10, hp, fun i hi => ?_⟩
  have hi : i < s.2.2.1 + 1 := hi
  show (ab_up s.2.2.2 s.2.2.1 (k, a, b, c) i).1 < 6 ∧ (ab_up s.2.2.2 s.2.2.1 (k, a, b, c) i).2.1 < s.1 ∧ (ab_up s.2.2.2 s.2.2.1 (k, a, b, c) i).2.2.1 < s.1 ∧ (ab_up s.2.2.2 s.2.2.1 (k, a, b, c) i).2.2.2 < s.1
  by_cases e : i = s.2.2.1
  · rw [e, ab_up_self]; exact ⟨hk, ha, hb, hc⟩
  · rw [ab_up_ne _ _ e]; exact ht i (by omega)
theorem sP_A {s : sS} (h : sW s) {X Y i : Nat} (hi : i < s.2.2.1) : sA (sP s X Y) i = sA s i ∧ sC (sP s X Y) i = sC s i := by
  obtain ⟨-, -, -, ht⟩ := h
  obtain ⟨-, h1, h2, h3⟩ := ht i hi
  unfold sA sC sP
  simp only
  rw [ab_up_ne _ _ (by omega), ab_up_ne _ _ (by omega), ab_up_ne _ _ (by omega)]
  exact ⟨rfl, rfl⟩
theorem sT_A {s : sS} {k a b c i : Nat} (hi : i < s.2.2.1) : sA (sT s k a b c) i = sA s i ∧ sC (sT s k a b c) i = sC s i := by
  unfold sA sC sT
  simp only
  rw [ab_up_ne _ _ (by omega)]
  exact ⟨rfl, rfl⟩
