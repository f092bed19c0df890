/-! ===== the board, as numbers: blocks cut in pieces ===== -/
def bd_n : Nat → Nat
  | 0 => 0
  | n + 1 => 1 + 4 * bd_n n
/-- the quarter of a cell, of a block whose middle is at x + h, y + h -/
def bd_q (h x y X Y : Nat) : Nat := (if x + h ≤ X then 1 else 0) + (if y + h ≤ Y then 2 else 0)
/-- the missing cell of quarter q -/
def bd_mx (h x y mx my q : Nat) : Nat := if q = bd_q h x y mx my then mx else x + h - 1 + q % 2
def bd_my (h x y mx my q : Nat) : Nat := if q = bd_q h x y mx my then my else y + h - 1 + q / 2
/-- in which quarter the i-th piece lies (i from 1 on) -/
def bd_iq (c i : Nat) : Nat := if i < 1 + c then 0 else if i < 1 + 2 * c then 1 else if i < 1 + 3 * c then 2 else 3
/-- the i-th piece of a block: way, size, left, top -/
def bd_pc : Nat → Nat → Nat → Nat → Nat → Nat → Nat × Nat × Nat × Nat
  | 0, _, _, _, _, _ => (0, 0, 0, 0)
  | n + 1, x, y, mx, my, i =>
    if i = 0 then (bd_q (2 ^ n) x y mx my, 2 * 2 ^ n, x + 2 ^ n - 1, y + 2 ^ n - 1)
    else bd_pc n (x + bd_iq (bd_n n) i % 2 * 2 ^ n) (y + bd_iq (bd_n n) i / 2 * 2 ^ n) (bd_mx (2 ^ n) x y mx my (bd_iq (bd_n n) i)) (bd_my (2 ^ n) x y mx my (bd_iq (bd_n n) i)) (i - 1 - bd_iq (bd_n n) i * bd_n n)
/-- which piece lies on a cell, the block's first being p -/
def bd_cell : Nat → Nat → Nat → Nat → Nat → Nat → Nat → Nat → Nat
  | 0, _, _, _, _, _, _, _ => 0
  | n + 1, x, y, mx, my, p, X, Y =>
    if bd_q (2 ^ n) x y X Y ≠ bd_q (2 ^ n) x y mx my ∧ X = x + 2 ^ n - 1 + bd_q (2 ^ n) x y X Y % 2 ∧ Y = y + 2 ^ n - 1 + bd_q (2 ^ n) x y X Y / 2 then p
    else bd_cell n (x + bd_q (2 ^ n) x y X Y % 2 * 2 ^ n) (y + bd_q (2 ^ n) x y X Y / 2 * 2 ^ n) (bd_mx (2 ^ n) x y mx my (bd_q (2 ^ n) x y X Y)) (bd_my (2 ^ n) x y mx my (bd_q (2 ^ n) x y X Y)) (p + 1 + bd_q (2 ^ n) x y X Y * bd_n n) X Y
def bd_in (s x y X Y : Nat) : Prop := x ≤ X ∧ X < x + s ∧ y ≤ Y ∧ Y < y + s
/-- a piece's own cells -/
def bd_own (P : Nat × Nat × Nat × Nat) (X Y : Nat) : Prop := ∃ q, q < 4 ∧ q ≠ P.1 ∧ X = P.2.2.1 + q % 2 ∧ Y = P.2.2.2 + q / 2
theorem bd_q_lt (h x y X Y : Nat) : bd_q h x y X Y < 4 := by unfold bd_q; split <;> split <;> omega
theorem bd_q4 {q : Nat} (h : q < 4) : q = 0 ∨ q = 1 ∨ q = 2 ∨ q = 3 := by omega
/-- a cell lies in its quarter -/
theorem bd_in_q {h x y X Y : Nat} (hb : bd_in (2 * h) x y X Y) : bd_in h (x + bd_q h x y X Y % 2 * h) (y + bd_q h x y X Y / 2 * h) X Y := by
  unfold bd_in at *
  unfold bd_q
  by_cases h1 : x + h ≤ X <;> by_cases h2 : y + h ≤ Y <;> simp only [h1, h2, if_true, if_false] <;> simp <;> omega
/-- and in no other -/
theorem bd_q_of {h x y X Y q : Nat} (hq : q < 4) (hb : bd_in h (x + q % 2 * h) (y + q / 2 * h) X Y) : bd_q h x y X Y = q := by
  unfold bd_in at hb
  unfold bd_q
  rcases bd_q4 hq with rfl | rfl | rfl | rfl <;> simp at hb <;> (split <;> split <;> omega)
theorem bd_in_up {h x y X Y q : Nat} (hq : q < 4) (hb : bd_in h (x + q % 2 * h) (y + q / 2 * h) X Y) : bd_in (2 * h) x y X Y := by
  unfold bd_in at *
  rcases bd_q4 hq with rfl | rfl | rfl | rfl <;> simp at hb <;> omega
/-- the middle cell of a quarter lies in it -/
theorem bd_mid_in {h x y q : Nat} (hh : 0 < h) (hq : q < 4) : bd_in h (x + q % 2 * h) (y + q / 2 * h) (x + h - 1 + q % 2) (y + h - 1 + q / 2) := by
  unfold bd_in
  rcases bd_q4 hq with rfl | rfl | rfl | rfl <;> simp <;> omega
theorem bd_m_in {h x y mx my q : Nat} (hh : 0 < h) (hq : q < 4) (hm : bd_in (2 * h) x y mx my) : bd_in h (x + q % 2 * h) (y + q / 2 * h) (bd_mx h x y mx my q) (bd_my h x y mx my q) := by
  unfold bd_mx bd_my
  by_cases e : q = bd_q h x y mx my
  · rw [if_pos e, if_pos e, e]
    exact bd_in_q hm
  · rw [if_neg e, if_neg e]
    exact bd_mid_in hh hq
theorem bd_iq_lt (c i : Nat) : bd_iq c i < 4 := by unfold bd_iq; split <;> (try split) <;> (try split) <;> omega
theorem bd_iq_in {c i : Nat} (h0 : i ≠ 0) (h : i < 1 + 4 * c) : i - 1 - bd_iq c i * c < c ∧ i = 1 + bd_iq c i * c + (i - 1 - bd_iq c i * c) := by
  unfold bd_iq
  split
  · constructor <;> omega
  · split
    · constructor <;> omega
    · split <;> constructor <;> omega
theorem bd_iq_of {c q j : Nat} (hq : q < 4) (hj : j < c) : bd_iq c (1 + q * c + j) = q ∧ 1 + q * c + j - 1 - q * c = j := by
  refine ⟨?_, by omega⟩
  unfold bd_iq
  rcases bd_q4 hq with rfl | rfl | rfl | rfl
  · rw [if_pos (by omega)]
  · rw [if_neg (by omega), if_pos (by omega)]
  · rw [if_neg (by omega), if_neg (by omega), if_pos (by omega)]
  · rw [if_neg (by omega), if_neg (by omega), if_neg (by omega)]
theorem bd_pow_succ (n : Nat) : 2 ^ (n + 1) = 2 * 2 ^ n := by rw [Nat.pow_succ, Nat.mul_comm]
theorem bd_pos (n : Nat) : 0 < 2 ^ n := Nat.pow_pos (by omega)
/-- what a cell tells: the piece is one of the block's, and the cell its own -/
theorem bd_cell_own : ∀ (n x y mx my p X Y : Nat), bd_in (2 ^ n) x y mx my → bd_in (2 ^ n) x y X Y → (X ≠ mx ∨ Y ≠ my) → ∃ i, i < bd_n n ∧ bd_cell n x y mx my p X Y = p + i ∧ bd_own (bd_pc n x y mx my i) X Y
  | 0, x, y, mx, my, p, X, Y, hm, hb, hne => by
    unfold bd_in at hm hb
    simp at hm hb
    omega
  | n + 1, x, y, mx, my, p, X, Y, hm, hb, hne => by
    rw [bd_pow_succ] at hm hb
    have hh := bd_pos n
    have hq := bd_q_lt (2 ^ n) x y X Y
    rw [bd_cell]
    by_cases hc : bd_q (2 ^ n) x y X Y ≠ bd_q (2 ^ n) x y mx my ∧ X = x + 2 ^ n - 1 + bd_q (2 ^ n) x y X Y % 2 ∧ Y = y + 2 ^ n - 1 + bd_q (2 ^ n) x y X Y / 2
    · rw [if_pos hc]
      refine ⟨0, by show 0 < 1 + 4 * bd_n n; omega, rfl, ?_⟩
      rw [bd_pc, if_pos rfl]
      exact ⟨bd_q (2 ^ n) x y X Y, hq, hc.1, hc.2.1, hc.2.2⟩
    · rw [if_neg hc]
      have hmq := bd_m_in hh hq hm
      have hbq := bd_in_q hb
      have hne' : X ≠ bd_mx (2 ^ n) x y mx my (bd_q (2 ^ n) x y X Y) ∨ Y ≠ bd_my (2 ^ n) x y mx my (bd_q (2 ^ n) x y X Y) := by
        unfold bd_mx bd_my
        by_cases e : bd_q (2 ^ n) x y X Y = bd_q (2 ^ n) x y mx my
        · rw [if_pos e, if_pos e]; exact hne
        · rw [if_neg e, if_neg e]
          by_cases e1 : X = x + 2 ^ n - 1 + bd_q (2 ^ n) x y X Y % 2
          · by_cases e2 : Y = y + 2 ^ n - 1 + bd_q (2 ^ n) x y X Y / 2
            · exact absurd ⟨e, e1, e2⟩ hc
            · exact Or.inr e2
          · exact Or.inl e1
      obtain ⟨j, hj, e1, e2⟩ := bd_cell_own n _ _ _ _ (p + 1 + bd_q (2 ^ n) x y X Y * bd_n n) X Y hmq hbq hne'
      obtain ⟨g1, g2⟩ := bd_iq_of hq hj
      have hle : bd_q (2 ^ n) x y X Y * bd_n n ≤ 3 * bd_n n := Nat.mul_le_mul_right _ (by omega)
      refine ⟨1 + bd_q (2 ^ n) x y X Y * bd_n n + j, by show _ < 1 + 4 * bd_n n; omega, by rw [e1]; omega, ?_⟩
      rw [bd_pc, if_neg (by omega), g1, g2]
      exact e2
/-- a piece's own cells lie in the block, are not its missing one, and tell the piece -/
theorem bd_own_cell : ∀ (n x y mx my p X Y i : Nat), bd_in (2 ^ n) x y mx my → i < bd_n n → bd_own (bd_pc n x y mx my i) X Y → bd_in (2 ^ n) x y X Y ∧ (X ≠ mx ∨ Y ≠ my) ∧ bd_cell n x y mx my p X Y = p + i
  | 0, x, y, mx, my, p, X, Y, i, hm, hi, ho => absurd hi (Nat.not_lt_zero i)
  | n + 1, x, y, mx, my, p, X, Y, i, hm, hi, ho => by
    rw [bd_pow_succ] at hm ⊢
    have hh := bd_pos n
    rw [bd_pc] at ho
    by_cases h0 : i = 0
    · subst h0
      rw [if_pos rfl] at ho
      obtain ⟨q, hq, hne, e1, e2⟩ := ho
      simp only at hne e1 e2
      have hin : bd_in (2 ^ n) (x + q % 2 * 2 ^ n) (y + q / 2 * 2 ^ n) X Y := by rw [e1, e2]; exact bd_mid_in hh hq
      have eq := bd_q_of hq hin
      refine ⟨bd_in_up hq hin, ?_, ?_⟩
      · by_cases f1 : X = mx
        · refine Or.inr (fun f2 => hne ?_)
          rw [← eq, f1, f2]
        · exact Or.inl f1
      · rw [bd_cell, eq, if_pos ⟨hne, e1, e2⟩]; rfl
    · rw [if_neg h0] at ho
      have hq := bd_iq_lt (bd_n n) i
      obtain ⟨g1, g2⟩ := bd_iq_in h0 (show i < 1 + 4 * bd_n n from hi)
      obtain ⟨k1, k2, k3⟩ := bd_own_cell n _ _ _ _ (p + 1 + bd_iq (bd_n n) i * bd_n n) X Y _ (bd_m_in hh hq hm) g1 ho
      have eq := bd_q_of hq k1
      refine ⟨bd_in_up hq k1, ?_, ?_⟩
      · unfold bd_mx bd_my at k2
        by_cases e : bd_iq (bd_n n) i = bd_q (2 ^ n) x y mx my
        · rw [if_pos e, if_pos e] at k2; exact k2
        · by_cases f1 : X = mx
          · refine Or.inr (fun f2 => e ?_)
            rw [← eq, f1, f2]
          · exact Or.inl f1
      · rw [bd_cell, eq, if_neg, k3]
        · omega
        · rintro ⟨a1, a2, a3⟩
          unfold bd_mx bd_my at k2
          rw [if_neg a1, if_neg a1] at k2
          rcases k2 with k2 | k2
          · exact k2 a2
          · exact k2 a3
/-- a piece's square lies in the block -/
theorem bd_pc_in : ∀ (n x y mx my i : Nat), i < bd_n n → (bd_pc n x y mx my i).1 < 4 ∧ x ≤ (bd_pc n x y mx my i).2.2.1 ∧ (bd_pc n x y mx my i).2.2.1 + 1 < x + 2 ^ n ∧ y ≤ (bd_pc n x y mx my i).2.2.2 ∧ (bd_pc n x y mx my i).2.2.2 + 1 < y + 2 ^ n ∧ (bd_pc n x y mx my i).2.1 ≤ 2 ^ n
  | 0, x, y, mx, my, i, hi => absurd hi (Nat.not_lt_zero i)
  | n + 1, x, y, mx, my, i, hi => by
    rw [bd_pow_succ]
    have hh := bd_pos n
    rw [bd_pc]
    by_cases h0 : i = 0
    · rw [if_pos h0]
      exact ⟨bd_q_lt _ _ _ _ _, by show x ≤ x + 2 ^ n - 1; omega, by show x + 2 ^ n - 1 + 1 < _; omega, by show y ≤ y + 2 ^ n - 1; omega, by show y + 2 ^ n - 1 + 1 < _; omega, Nat.le_refl _⟩
    · rw [if_neg h0]
      have hq := bd_iq_lt (bd_n n) i
      obtain ⟨g1, g2⟩ := bd_iq_in h0 (show i < 1 + 4 * bd_n n from hi)
      obtain ⟨k1, k2, k3, k4, k5, k6⟩ := bd_pc_in n (x + bd_iq (bd_n n) i % 2 * 2 ^ n) (y + bd_iq (bd_n n) i / 2 * 2 ^ n) (bd_mx (2 ^ n) x y mx my (bd_iq (bd_n n) i)) (bd_my (2 ^ n) x y mx my (bd_iq (bd_n n) i)) _ g1
      have m1 : bd_iq (bd_n n) i % 2 * 2 ^ n ≤ 1 * 2 ^ n := Nat.mul_le_mul_right _ (by omega)
      have m2 : bd_iq (bd_n n) i / 2 * 2 ^ n ≤ 1 * 2 ^ n := Nat.mul_le_mul_right _ (by omega)
      exact ⟨k1, by omega, by omega, by omega, by omega, by omega⟩
theorem bd_n_le : ∀ n, n ≤ 4 → bd_n n ≤ 85 := by decide
