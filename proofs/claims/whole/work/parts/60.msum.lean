/-! ===== the model's board: counting ===== -/
def bd_sum (f : Nat → Nat) : Nat → Nat
  | 0 => 0
  | m + 1 => bd_sum f m + f m
theorem bd_sum_add (f g : Nat → Nat) : ∀ m, bd_sum (fun t => f t + g t) m = bd_sum f m + bd_sum g m
  | 0 => rfl
  | m + 1 => by rw [bd_sum, bd_sum, bd_sum, bd_sum_add f g m]; omega
theorem bd_sum_congr {f g : Nat → Nat} (h : ∀ t, f t = g t) (m : Nat) : bd_sum f m = bd_sum g m := by rw [show f = g from funext h]
theorem bd_sum_at (a c k : Nat) : ∀ m, bd_sum (fun t => if a + t = c then k else 0) m = if a ≤ c ∧ c < a + m then k else 0
  | 0 => by rw [bd_sum, if_neg (by omega)]
  | m + 1 => by
    rw [bd_sum, bd_sum_at a c k m]
    by_cases h1 : a + m = c
    · rw [if_pos h1, if_neg (by omega), if_pos (by omega)]; omega
    · rw [if_neg h1]
      by_cases h2 : a ≤ c ∧ c < a + m
      · rw [if_pos h2, if_pos (by omega)]; omega
      · rw [if_neg h2, if_neg (by omega)]
theorem bd_sum_0 : ∀ m, bd_sum (fun _ => 0) m = 0
  | 0 => rfl
  | m + 1 => by rw [bd_sum, bd_sum_0 m]
/-- how many of a rectangle's cells are one piece's -/
def bd_cnt (n hx hy i X Y : Nat) : Nat := if bd_v n hx hy X Y = nI i then 1 else 0
def bd_e (P : Nat × Nat × Nat × Nat) (q X Y : Nat) : Nat := if X = P.2.2.1 + q % 2 then (if Y = P.2.2.2 + q / 2 then (if q = P.1 then 0 else 1) else 0) else 0
theorem bd_cnt_e {n hx hy i X Y : Nat} (hn : n ≤ 4) (ax : hx < 2 ^ n) (ay : hy < 2 ^ n) (hX : X < 2 ^ n) (hY : Y < 2 ^ n) (hi : i < bd_n n) : bd_cnt n hx hy i X Y = bd_e (bd_P n hx hy i) 0 X Y + bd_e (bd_P n hx hy i) 1 X Y + bd_e (bd_P n hx hy i) 2 X Y + bd_e (bd_P n hx hy i) 3 X Y := by
  have hv := bd_v_own hn ax ay hX hY hi
  unfold bd_cnt bd_e
  by_cases h : bd_v n hx hy X Y = nI i
  · rw [if_pos h]
    obtain ⟨q, h1, h2, rfl, rfl⟩ := hv.mp h
    rcases bd_q4 h1 with rfl | rfl | rfl | rfl <;> simp <;> omega
  · rw [if_neg h]
    have hno : ∀ q, q < 4 → ¬ (q ≠ (bd_P n hx hy i).1 ∧ X = (bd_P n hx hy i).2.2.1 + q % 2 ∧ Y = (bd_P n hx hy i).2.2.2 + q / 2) := fun q hq z => h (hv.mpr ⟨q, hq, z⟩)
    have e : ∀ q, q < 4 → (if X = (bd_P n hx hy i).2.2.1 + q % 2 then (if Y = (bd_P n hx hy i).2.2.2 + q / 2 then (if q = (bd_P n hx hy i).1 then 0 else 1) else 0) else 0) = 0 := by
      intro q hq
      by_cases h1 : X = (bd_P n hx hy i).2.2.1 + q % 2
      · by_cases h2 : Y = (bd_P n hx hy i).2.2.2 + q / 2
        · by_cases h3 : q = (bd_P n hx hy i).1
          · rw [if_pos h1, if_pos h2, if_pos h3]
          · exact absurd ⟨h3, h1, h2⟩ (hno q hq)
        · rw [if_pos h1, if_neg h2]
      · rw [if_neg h1]
    rw [e 0 (by decide), e 1 (by decide), e 2 (by decide), e 3 (by decide)]
def bd_ee (P : Nat × Nat × Nat × Nat) (q x1 y1 mx my : Nat) : Nat := if x1 ≤ P.2.2.1 + q % 2 ∧ P.2.2.1 + q % 2 < x1 + mx then (if y1 ≤ P.2.2.2 + q / 2 ∧ P.2.2.2 + q / 2 < y1 + my then (if q = P.1 then 0 else 1) else 0) else 0
theorem bd_sum_e (P : Nat × Nat × Nat × Nat) (q x1 y1 mx my : Nat) : bd_sum (fun s => bd_sum (fun t => bd_e P q (x1 + s) (y1 + t)) my) mx = bd_ee P q x1 y1 mx my := by
  unfold bd_ee
  rw [← bd_sum_at x1 (P.2.2.1 + q % 2) _ mx]
  refine bd_sum_congr (fun s => ?_) mx
  unfold bd_e
  by_cases h : x1 + s = P.2.2.1 + q % 2
  · simp only [if_pos h]
    exact bd_sum_at y1 (P.2.2.2 + q / 2) _ my
  · simp only [if_neg h]
    exact bd_sum_0 my
theorem bd_sum_congr' {f g : Nat → Nat} : ∀ {m : Nat}, (∀ t, t < m → f t = g t) → bd_sum f m = bd_sum g m
  | 0, _ => rfl
  | m + 1, h => by rw [bd_sum, bd_sum, bd_sum_congr' (m := m) (fun t ht => h t (by omega)), h m (by omega)]
def bd_tot (n hx hy i x1 y1 mx my : Nat) : Nat := bd_sum (fun s => bd_sum (fun t => bd_cnt n hx hy i (x1 + s) (y1 + t)) my) mx
theorem bd_tot_e {n hx hy i x1 y1 mx my : Nat} (hn : n ≤ 4) (ax : hx < 2 ^ n) (ay : hy < 2 ^ n) (hi : i < bd_n n) (hX : x1 + mx ≤ 2 ^ n) (hY : y1 + my ≤ 2 ^ n) : bd_tot n hx hy i x1 y1 mx my = bd_ee (bd_P n hx hy i) 0 x1 y1 mx my + bd_ee (bd_P n hx hy i) 1 x1 y1 mx my + bd_ee (bd_P n hx hy i) 2 x1 y1 mx my + bd_ee (bd_P n hx hy i) 3 x1 y1 mx my := by
  have e : bd_tot n hx hy i x1 y1 mx my = bd_sum (fun s => bd_sum (fun t => bd_e (bd_P n hx hy i) 0 (x1 + s) (y1 + t)) my + bd_sum (fun t => bd_e (bd_P n hx hy i) 1 (x1 + s) (y1 + t)) my + bd_sum (fun t => bd_e (bd_P n hx hy i) 2 (x1 + s) (y1 + t)) my + bd_sum (fun t => bd_e (bd_P n hx hy i) 3 (x1 + s) (y1 + t)) my) mx := by
    refine bd_sum_congr' (fun s hs => ?_)
    rw [← bd_sum_add, ← bd_sum_add, ← bd_sum_add]
    exact bd_sum_congr' (fun t ht => bd_cnt_e hn ax ay (by omega) (by omega) hi)
  rw [e, bd_sum_add, bd_sum_add, bd_sum_add, bd_sum_e, bd_sum_e, bd_sum_e, bd_sum_e]
theorem bd_tot_3 {n hx hy i x1 y1 mx my : Nat} (hn : n ≤ 4) (ax : hx < 2 ^ n) (ay : hy < 2 ^ n) (hi : i < bd_n n) (hX : x1 + mx ≤ 2 ^ n) (hY : y1 + my ≤ 2 ^ n) : bd_tot n hx hy i x1 y1 mx my = 3 ↔ x1 ≤ (bd_P n hx hy i).2.2.1 ∧ (bd_P n hx hy i).2.2.1 + 1 < x1 + mx ∧ y1 ≤ (bd_P n hx hy i).2.2.2 ∧ (bd_P n hx hy i).2.2.2 + 1 < y1 + my := by
  rw [bd_tot_e hn ax ay hi hX hY]
  have hw := (bd_P_in (hx := hx) (hy := hy) hi).1
  generalize bd_P n hx hy i = P at hw ⊢
  obtain ⟨w, s, l, t⟩ := P
  unfold bd_ee
  simp only at hw ⊢
  by_cases a0 : x1 ≤ l <;> by_cases a1 : l < x1 + mx <;> by_cases a2 : x1 ≤ l + 1 <;> by_cases a3 : l + 1 < x1 + mx <;> by_cases b0 : y1 ≤ t <;> by_cases b1 : t < y1 + my <;> by_cases b2 : y1 ≤ t + 1 <;> by_cases b3 : t + 1 < y1 + my <;> first | (exfalso; omega) | (rcases bd_q4 hw with rfl | rfl | rfl | rfl <;> simp [a0, a1, a2, a3, b0, b1, b2, b3])
