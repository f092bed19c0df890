/-! ===== the board: what cutting writes, row by row ===== -/
def bd_cellsTo (n x y mx my p : Nat) (C C' : Nat → Int32) : Prop := (∀ X Y, X < 16 → Y < 16 → bd_in (2 ^ n) x y X Y → (X ≠ mx ∨ Y ≠ my) → C' (Y * 16 + X) = nI (bd_cell n x y mx my p X Y)) ∧ ∀ X Y, X < 16 → Y < 16 → ¬ (bd_in (2 ^ n) x y X Y ∧ (X ≠ mx ∨ Y ≠ my)) → C' (Y * 16 + X) = C (Y * 16 + X)
def bd_D (n x y mx my q X Y : Nat) : Prop := bd_in (2 * 2 ^ n) x y X Y ∧ (X ≠ mx ∨ Y ≠ my) ∧ (bd_own (bd_pc (n + 1) x y mx my 0) X Y ∨ bd_q (2 ^ n) x y X Y < q)
def bd_cellsI (n x y mx my p q : Nat) (C C' : Nat → Int32) : Prop := (∀ X Y, X < 16 → Y < 16 → bd_D n x y mx my q X Y → C' (Y * 16 + X) = nI (bd_cell (n + 1) x y mx my p X Y)) ∧ ∀ X Y, X < 16 → Y < 16 → ¬ bd_D n x y mx my q X Y → C' (Y * 16 + X) = C (Y * 16 + X)
def bd_rowTo (F : Nat × Nat × Nat × Nat → Nat) (n x y mx my p : Nat) (g g' : Nat → Int32) : Prop := (∀ i, i < bd_n n → g' (p + i) = nI (F (bd_pc n x y mx my i))) ∧ ∀ j, j < p → g' j = g j
def bd_rowI (F : Nat × Nat × Nat × Nat → Nat) (n x y mx my p q : Nat) (g g' : Nat → Int32) : Prop := (∀ i, i < 1 + q * bd_n n → g' (p + i) = nI (F (bd_pc (n + 1) x y mx my i))) ∧ ∀ j, j < p → g' j = g j
theorem bd_own0 {n x y mx my X Y : Nat} : bd_own (bd_pc (n + 1) x y mx my 0) X Y ↔ ∃ q, q < 4 ∧ q ≠ bd_q (2 ^ n) x y mx my ∧ X = x + 2 ^ n - 1 + q % 2 ∧ Y = y + 2 ^ n - 1 + q / 2 := by
  rw [bd_pc, if_pos rfl]
  exact Iff.rfl
theorem bd_own0_q {n x y mx my X Y : Nat} (h : bd_own (bd_pc (n + 1) x y mx my 0) X Y) : bd_q (2 ^ n) x y X Y ≠ bd_q (2 ^ n) x y mx my ∧ X = x + 2 ^ n - 1 + bd_q (2 ^ n) x y X Y % 2 ∧ Y = y + 2 ^ n - 1 + bd_q (2 ^ n) x y X Y / 2 := by
  obtain ⟨q, hq, hne, e1, e2⟩ := bd_own0.mp h
  have hin : bd_in (2 ^ n) (x + q % 2 * 2 ^ n) (y + q / 2 * 2 ^ n) X Y := by rw [e1, e2]; exact bd_mid_in (bd_pos n) hq
  rw [bd_q_of hq hin]
  exact ⟨hne, e1, e2⟩
theorem bd_cellsI_end {n x y mx my p : Nat} {C C' : Nat → Int32} (h : bd_cellsI n x y mx my p 4 C C') : bd_cellsTo (n + 1) x y mx my p C C' := by
  refine ⟨fun X Y hX hY hb hne => h.1 X Y hX hY ⟨by rw [← bd_pow_succ]; exact hb, hne, Or.inr (bd_q_lt _ _ _ _ _)⟩, fun X Y hX hY hn => h.2 X Y hX hY (fun q => hn ⟨by rw [bd_pow_succ]; exact q.1, q.2.1⟩)⟩
theorem bd_cellsI_step {n x y mx my p q : Nat} {C C1 C2 : Nat → Int32} (hm : bd_in (2 * 2 ^ n) x y mx my) (hq : q < 4) (h : bd_cellsI n x y mx my p q C C1) (h2 : bd_cellsTo n (x + q % 2 * 2 ^ n) (y + q / 2 * 2 ^ n) (bd_mx (2 ^ n) x y mx my q) (bd_my (2 ^ n) x y mx my q) (p + 1 + q * bd_n n) C1 C2) : bd_cellsI n x y mx my p (q + 1) C C2 := by
  have hh := bd_pos n
  -- the cells that this quarter's cutting writes
  have key : ∀ X Y, bd_in (2 ^ n) (x + q % 2 * 2 ^ n) (y + q / 2 * 2 ^ n) X Y → (X ≠ bd_mx (2 ^ n) x y mx my q ∨ Y ≠ bd_my (2 ^ n) x y mx my q) → bd_in (2 * 2 ^ n) x y X Y ∧ (X ≠ mx ∨ Y ≠ my) ∧ bd_q (2 ^ n) x y X Y = q ∧ ¬ (bd_q (2 ^ n) x y X Y ≠ bd_q (2 ^ n) x y mx my ∧ X = x + 2 ^ n - 1 + bd_q (2 ^ n) x y X Y % 2 ∧ Y = y + 2 ^ n - 1 + bd_q (2 ^ n) x y X Y / 2) := by
    intro X Y hin hne
    have eq := bd_q_of hq hin
    refine ⟨bd_in_up hq hin, ?_, eq, ?_⟩
    · unfold bd_mx bd_my at hne
      by_cases e : q = bd_q (2 ^ n) x y mx my
      · rw [if_pos e, if_pos e] at hne; exact hne
      · by_cases f1 : X = mx
        · refine Or.inr (fun f2 => e ?_)
          rw [← eq, f1, f2]
        · exact Or.inl f1
    · rw [eq]
      rintro ⟨a1, a2, a3⟩
      unfold bd_mx bd_my at hne
      rw [if_neg a1, if_neg a1] at hne
      rcases hne with hne | hne
      · exact hne a2
      · exact hne a3
  refine ⟨fun X Y hX hY hD => ?_, fun X Y hX hY hD => ?_⟩
  · by_cases hw : bd_in (2 ^ n) (x + q % 2 * 2 ^ n) (y + q / 2 * 2 ^ n) X Y ∧ (X ≠ bd_mx (2 ^ n) x y mx my q ∨ Y ≠ bd_my (2 ^ n) x y mx my q)
    · obtain ⟨k1, k2, k3, k4⟩ := key X Y hw.1 hw.2
      rw [h2.1 X Y hX hY hw.1 hw.2, bd_cell, if_neg k4, k3]
    · rw [h2.2 X Y hX hY hw]
      refine h.1 X Y hX hY ⟨hD.1, hD.2.1, ?_⟩
      rcases hD.2.2 with ho | hlt
      · exact Or.inl ho
      · by_cases e : bd_q (2 ^ n) x y X Y = q
        · refine Or.inl (Classical.byContradiction fun ho => hw ⟨?_, ?_⟩)
          · have := bd_in_q hD.1
            rw [e] at this
            exact this
          · unfold bd_mx bd_my
            by_cases e2 : q = bd_q (2 ^ n) x y mx my
            · rw [if_pos e2, if_pos e2]; exact hD.2.1
            · rw [if_neg e2, if_neg e2]
              by_cases f1 : X = x + 2 ^ n - 1 + q % 2
              · refine Or.inr (fun f2 => ho (bd_own0.mpr ⟨q, hq, e2, f1, f2⟩))
              · exact Or.inl f1
        · exact Or.inr (by omega)
  · have hw : ¬ (bd_in (2 ^ n) (x + q % 2 * 2 ^ n) (y + q / 2 * 2 ^ n) X Y ∧ (X ≠ bd_mx (2 ^ n) x y mx my q ∨ Y ≠ bd_my (2 ^ n) x y mx my q)) := by
      intro hw
      obtain ⟨k1, k2, k3, k4⟩ := key X Y hw.1 hw.2
      exact hD ⟨k1, k2, Or.inr (by omega)⟩
    rw [h2.2 X Y hX hY hw]
    refine h.2 X Y hX hY (fun z => hD ⟨z.1, z.2.1, ?_⟩)
    rcases z.2.2 with z | z
    · exact Or.inl z
    · exact Or.inr (by omega)
/-- the first piece's own cells written -/
theorem bd_cellsI_0 {n x y mx my p : Nat} {C C1 : Nat → Int32} (hm : bd_in (2 * 2 ^ n) x y mx my) (h1 : ∀ X Y, X < 16 → Y < 16 → bd_own (bd_pc (n + 1) x y mx my 0) X Y → C1 (Y * 16 + X) = nI p) (h2 : ∀ X Y, X < 16 → Y < 16 → ¬ bd_own (bd_pc (n + 1) x y mx my 0) X Y → C1 (Y * 16 + X) = C (Y * 16 + X)) : bd_cellsI n x y mx my p 0 C C1 := by
  refine ⟨fun X Y hX hY hD => ?_, fun X Y hX hY hD => h2 X Y hX hY (fun ho => hD ?_)⟩
  · have ho := hD.2.2.resolve_right (Nat.not_lt_zero _)
    rw [h1 X Y hX hY ho, bd_cell, if_pos (bd_own0_q ho)]
  · obtain ⟨k1, k2, -⟩ := bd_own_cell (n + 1) x y mx my 0 X Y 0 (by rw [bd_pow_succ]; exact hm) (by show 0 < 1 + 4 * bd_n n; omega) ho
    rw [bd_pow_succ] at k1
    exact ⟨k1, k2, Or.inl ho⟩
theorem bd_rowI_end {F : Nat × Nat × Nat × Nat → Nat} {n x y mx my p : Nat} {g g' : Nat → Int32} (h : bd_rowI F n x y mx my p 4 g g') : bd_rowTo F (n + 1) x y mx my p g g' := h
theorem bd_rowI_0 {F : Nat × Nat × Nat × Nat → Nat} {n x y mx my p : Nat} {g : Nat → Int32} {v : Int32} (hv : v = nI (F (bd_q (2 ^ n) x y mx my, 2 * 2 ^ n, x + 2 ^ n - 1, y + 2 ^ n - 1))) : bd_rowI F n x y mx my p 0 g (ab_up g p v) := by
  refine ⟨fun i hi => ?_, fun j hj => ab_up_ne _ _ (by omega)⟩
  have : i = 0 := by omega
  subst this
  rw [Nat.add_zero, ab_up_self, hv, bd_pc, if_pos rfl]
theorem bd_rowI_step {F : Nat × Nat × Nat × Nat → Nat} {n x y mx my p q : Nat} {g g1 g2 : Nat → Int32} (hq : q < 4) (h : bd_rowI F n x y mx my p q g g1) (h2 : bd_rowTo F n (x + q % 2 * 2 ^ n) (y + q / 2 * 2 ^ n) (bd_mx (2 ^ n) x y mx my q) (bd_my (2 ^ n) x y mx my q) (p + 1 + q * bd_n n) g1 g2) : bd_rowI F n x y mx my p (q + 1) g g2 := by
  refine ⟨fun i hi => ?_, fun j hj => by rw [h2.2 j (by omega)]; exact h.2 j hj⟩
  by_cases hl : i < 1 + q * bd_n n
  · rw [h2.2 (p + i) (by omega)]
    exact h.1 i hl
  · rw [Nat.succ_mul] at hi
    obtain ⟨j, rfl⟩ : ∃ j, i = 1 + q * bd_n n + j := ⟨i - (1 + q * bd_n n), by omega⟩
    have hj : j < bd_n n := by omega
    obtain ⟨g1', g2'⟩ := bd_iq_of hq hj
    have := h2.1 j hj
    rw [show p + (1 + q * bd_n n + j) = p + 1 + q * bd_n n + j by omega, this, bd_pc, if_neg (by omega), g1', g2']
