/-! ===== meeting: the least address of k digits behind which two ways are one ===== -/
def ab_nx (ρ : Nat → Nat) (s p : Nat) : Nat := ρ (s / 4 * 4 + p) * 4 + ρ (s % 4 * 4 + p)
def ab_opt (e : Int32) (o : Option Nat) : Int32 := match o with
  | none => e
  | some n => nI n
/-- one more digit ahead: over the first p parts -/
def ab_afd (ρ : Nat → Nat) (ℓ : Nat → Option Nat) (s : Nat) : Nat → Option Nat
  | 0 => none
  | p + 1 => match ℓ (ab_nx ρ s p) with
    | none => ab_afd ρ ℓ s p
    | some a => match ab_afd ρ ℓ s p with
      | none => some (a * 4 + p)
      | some q => if q ≤ a * 4 + p then some q else some (a * 4 + p)
def ab_A (ρ : Nat → Nat) : Nat → Nat → Option Nat
  | 0 => fun s => if s / 4 = s % 4 then some 0 else none
  | k + 1 => fun s => ab_afd ρ (ab_A ρ k) s 4
def ab_meetFrom (ρ : Nat → Nat) (s : Nat) : Nat → Nat → Option (Nat × Nat)
  | 0, k => match ab_A ρ k s with
    | none => none
    | some a => some (k, a)
  | j + 1, k => match ab_A ρ k s with
    | none => ab_meetFrom ρ s j (k + 1)
    | some a => some (k, a)
/-- the least of those with a property, or none -/
def ab_min (P : Nat → Prop) (o : Option Nat) : Prop := match o with
  | none => ∀ a, ¬ P a
  | some a => P a ∧ ∀ b, P b → a ≤ b
theorem ab_min_uniq {P : Nat → Prop} {o o' : Option Nat} (h : ab_min P o) (h' : ab_min P o') : o = o' := by
  cases o with
  | none => cases o' with
    | none => rfl
    | some b => exact absurd h'.1 (h b)
  | some a => cases o' with
    | none => exact absurd h.1 (h' a)
    | some b => exact congrArg some (Nat.le_antisymm (h.2 b h'.1) (h'.2 a h.1))
/-- the pair behind k digits -/
def ab_walk (ρ : Nat → Nat) : Nat → Nat → Nat → Nat
  | 0, s, _ => s
  | k + 1, s, a => ab_walk ρ k (ab_nx ρ s (a % 4)) (a / 4)
theorem ab_nx_lt {ρ : Nat → Nat} (hρ : ∀ j, j < 16 → ρ j < 4) {s p : Nat} (hs : s < 16) (hp : p < 4) : ab_nx ρ s p < 16 := by
  have h1 := hρ (s / 4 * 4 + p) (by omega)
  have h2 := hρ (s % 4 * 4 + p) (by omega)
  unfold ab_nx
  omega
theorem ab_afd_min {ρ : Nat → Nat} {ℓ : Nat → Option Nat} {Q : Nat → Nat → Prop} {s : Nat} (hℓ : ∀ p, p < 4 → ab_min (Q (ab_nx ρ s p)) (ℓ (ab_nx ρ s p))) : ∀ n, n ≤ 4 → ab_min (fun a => a % 4 < n ∧ Q (ab_nx ρ s (a % 4)) (a / 4)) (ab_afd ρ ℓ s n)
  | 0, _ => fun a h => absurd h.1 (by omega)
  | p + 1, hp => by
    have ih := ab_afd_min hℓ p (by omega)
    have hq := hℓ p (by omega)
    rw [ab_afd]
    have up : ∀ b, b % 4 < p + 1 → ¬ b % 4 < p → b % 4 = p := fun b h1 h2 => by omega
    cases e : ℓ (ab_nx ρ s p) with
    | none =>
      rw [e] at hq
      simp only
      cases e2 : ab_afd ρ ℓ s p with
      | none =>
        rw [e2] at ih
        intro a ha
        by_cases h1 : a % 4 < p
        · exact ih a ⟨h1, ha.2⟩
        · have := ha.2
          rw [up a ha.1 h1] at this
          exact hq _ this
      | some q =>
        rw [e2] at ih
        refine ⟨⟨Nat.lt_succ_of_lt ih.1.1, ih.1.2⟩, fun b hb => ?_⟩
        by_cases h1 : b % 4 < p
        · exact ih.2 b ⟨h1, hb.2⟩
        · have := hb.2
          rw [up b hb.1 h1] at this
          exact absurd this (hq _)
    | some a =>
      rw [e] at hq
      simp only
      have d1 : (a * 4 + p) % 4 = p := by omega
      have d2 : (a * 4 + p) / 4 = a := by omega
      have low : ∀ b, Q (ab_nx ρ s (b % 4)) (b / 4) → b % 4 = p → a * 4 + p ≤ b := fun b hb h1 => by
        rw [h1] at hb
        have := hq.2 _ hb
        omega
      cases e2 : ab_afd ρ ℓ s p with
      | none =>
        rw [e2] at ih
        refine ⟨⟨by omega, by rw [d1, d2]; exact hq.1⟩, fun b hb => ?_⟩
        by_cases h1 : b % 4 < p
        · exact absurd ⟨h1, hb.2⟩ (ih b)
        · exact low b hb.2 (up b hb.1 h1)
      | some q =>
        rw [e2] at ih
        simp only
        by_cases hle : q ≤ a * 4 + p
        · rw [if_pos hle]
          refine ⟨⟨Nat.lt_succ_of_lt ih.1.1, ih.1.2⟩, fun b hb => ?_⟩
          by_cases h1 : b % 4 < p
          · exact ih.2 b ⟨h1, hb.2⟩
          · exact Nat.le_trans hle (low b hb.2 (up b hb.1 h1))
        · rw [if_neg hle]
          refine ⟨⟨by omega, by rw [d1, d2]; exact hq.1⟩, fun b hb => ?_⟩
          by_cases h1 : b % 4 < p
          · have := ih.2 b ⟨h1, hb.2⟩
            omega
          · exact low b hb.2 (up b hb.1 h1)
theorem ab_min_congr {P P' : Nat → Prop} (h : ∀ a, P a ↔ P' a) {o : Option Nat} (hm : ab_min P o) : ab_min P' o := by
  cases o with
  | none => exact fun a ha => hm a ((h a).mpr ha)
  | some a => exact ⟨(h a).mp hm.1, fun b hb => hm.2 b ((h b).mpr hb)⟩
/-- what A is -/
theorem ab_A_min {ρ : Nat → Nat} (hρ : ∀ j, j < 16 → ρ j < 4) : ∀ k s, s < 16 → ab_min (fun a => a < 4 ^ k ∧ ab_walk ρ k s a / 4 = ab_walk ρ k s a % 4) (ab_A ρ k s)
  | 0, s, _ => by
    show ab_min _ (if s / 4 = s % 4 then some 0 else none)
    by_cases h : s / 4 = s % 4
    · rw [if_pos h]
      exact ⟨⟨by decide, h⟩, fun b _ => Nat.zero_le b⟩
    · rw [if_neg h]
      exact fun a ha => h ha.2
  | k + 1, s, hs => by
    have ih := ab_A_min hρ k
    show ab_min _ (ab_afd ρ (ab_A ρ k) s 4)
    refine ab_min_congr (fun a => ?_) (ab_afd_min (Q := fun t a => a < 4 ^ k ∧ ab_walk ρ k t a / 4 = ab_walk ρ k t a % 4) (fun p hp => ih _ (ab_nx_lt hρ hs hp)) 4 (Nat.le_refl 4))
    show _ ↔ a < 4 ^ (k + 1) ∧ ab_walk ρ k (ab_nx ρ s (a % 4)) (a / 4) / 4 = _
    rw [Nat.pow_succ]
    constructor
    · rintro ⟨h1, h2, h3⟩
      exact ⟨by omega, h3⟩
    · rintro ⟨h1, h2⟩
      exact ⟨Nat.mod_lt _ (by omega), by omega, h2⟩
theorem ab_A_lt {ρ : Nat → Nat} (hρ : ∀ j, j < 16 → ρ j < 4) {k s a : Nat} (hs : s < 16) (h : ab_A ρ k s = some a) : a < 4 ^ k := by
  have := ab_A_min hρ k s hs
  rw [h] at this
  exact this.1.1
/-! forwards: the least address of k digits by which s comes to t -/
theorem ab_walk_app {ρ : Nat → Nat} (d : Nat) (hd : d < 4) : ∀ (k s a : Nat), a < 4 ^ k → ab_walk ρ (k + 1) s (a + d * 4 ^ k) = ab_nx ρ (ab_walk ρ k s a) d
  | 0, s, a, ha => by
    have : a = 0 := by simpa using ha
    subst this
    show ab_nx ρ s ((0 + d * 4 ^ 0) % 4) = ab_nx ρ s d
    rw [Nat.pow_zero, Nat.mul_one, Nat.zero_add, Nat.mod_eq_of_lt hd]
  | k + 1, s, a, ha => by
    have e0 : d * 4 ^ (k + 1) = 4 * (d * 4 ^ k) := by rw [Nat.pow_succ, ← Nat.mul_assoc, Nat.mul_comm]
    have e1 : (a + d * 4 ^ (k + 1)) % 4 = a % 4 := by omega
    have e2 : (a + d * 4 ^ (k + 1)) / 4 = a / 4 + d * 4 ^ k := by omega
    show ab_walk ρ (k + 1) (ab_nx ρ s ((a + d * 4 ^ (k + 1)) % 4)) ((a + d * 4 ^ (k + 1)) / 4) = ab_nx ρ (ab_walk ρ k (ab_nx ρ s (a % 4)) (a / 4)) d
    rw [e1, e2]
    exact ab_walk_app d hd k _ _ (by rw [Nat.pow_succ] at ha; omega)
/-- F k: for each pair the least address of k digits that leads there -/
def ab_isF (ρ : Nat → Nat) (s k : Nat) (F : Nat → Option Nat) : Prop := ∀ t, t < 16 → ab_min (fun a => a < 4 ^ k ∧ ab_walk ρ k s a = t) (F t)
/-- the better of two -/
def ab_or (o : Option Nat) (x : Nat) : Option Nat := match o with
  | none => some x
  | some q => if x < q then some x else some q
/-- the model's turn: over the first n of the sixteen times four steps -/
def ab_leads (ρ : Nat → Nat) (F : Nat → Option Nat) (by_ : Nat) : Nat → Nat → Option Nat
  | 0 => fun _ => none
  | n + 1 => fun t => match F (n / 4) with
    | none => ab_leads ρ F by_ n t
    | some a => if t = ab_nx ρ (n / 4) (n % 4) then ab_or (ab_leads ρ F by_ n t) (a + n % 4 * by_) else ab_leads ρ F by_ n t
theorem ab_or_min {P : Nat → Prop} {o : Option Nat} {x : Nat} (h : ab_min P o) : ab_min (fun a => P a ∨ a = x) (ab_or o x) := by
  cases o with
  | none => exact ⟨Or.inr rfl, fun b hb => hb.elim (fun q => absurd q (h b)) (fun q => by omega)⟩
  | some q =>
    show ab_min _ (if x < q then some x else some q)
    split
    · rename_i hx
      exact ⟨Or.inr rfl, fun b hb => hb.elim (fun z => by have := h.2 b z; omega) (fun z => by omega)⟩
    · rename_i hx
      exact ⟨Or.inl h.1, fun b hb => hb.elim (fun z => h.2 b z) (fun z => by omega)⟩
/-- the least addresses over all walks of k + 1 digits whose k-digit part is least for its pair, the pair's number times four and the digit below n -/
theorem ab_leads_min {ρ : Nat → Nat} {F : Nat → Option Nat} {by_ : Nat} (t : Nat) : ∀ n, ab_min (fun x => ∃ m a, m < n ∧ F (m / 4) = some a ∧ t = ab_nx ρ (m / 4) (m % 4) ∧ x = a + m % 4 * by_) (ab_leads ρ F by_ n t)
  | 0 => fun x ⟨m, _, h, _⟩ => absurd h (by omega)
  | n + 1 => by
    have ih := ab_leads_min (ρ := ρ) (F := F) (by_ := by_) t n
    rw [ab_leads]
    cases e : F (n / 4) with
    | none =>
      simp only
      refine ab_min_congr (fun x => ?_) ih
      constructor
      · rintro ⟨m, a, h1, h2⟩; exact ⟨m, a, by omega, h2⟩
      · rintro ⟨m, a, h1, h2, h3⟩
        by_cases h4 : m = n
        · subst h4; rw [e] at h2; cases h2
        · exact ⟨m, a, by omega, h2, h3⟩
    | some a =>
      simp only
      by_cases ht : t = ab_nx ρ (n / 4) (n % 4)
      · rw [if_pos ht]
        refine ab_min_congr (fun x => ?_) (ab_or_min (x := a + n % 4 * by_) ih)
        constructor
        · rintro (⟨m, a', h1, h2⟩ | h)
          · exact ⟨m, a', by omega, h2⟩
          · exact ⟨n, a, by omega, e, ht, h⟩
        · rintro ⟨m, a', h1, h2, h3, h4⟩
          by_cases h5 : m = n
          · subst h5
            rw [e] at h2
            cases h2
            exact Or.inr h4
          · exact Or.inl ⟨m, a', by omega, h2, h3, h4⟩
      · rw [if_neg ht]
        refine ab_min_congr (fun x => ?_) ih
        constructor
        · rintro ⟨m, a', h1, h2⟩; exact ⟨m, a', by omega, h2⟩
        · rintro ⟨m, a', h1, h2, h3, h4⟩
          by_cases h5 : m = n
          · subst h5; exact absurd h3 ht
          · exact ⟨m, a', by omega, h2, h3, h4⟩
theorem ab_min_le {P Q : Nat → Prop} {o : Option Nat} (h : ab_min P o) (h1 : ∀ a, P a → Q a) (h2 : ∀ a, Q a → ∃ b, P b ∧ b ≤ a) : ab_min Q o := by
  cases o with
  | none => exact fun a ha => let ⟨b, hb, _⟩ := h2 a ha; h b hb
  | some a => exact ⟨h1 a h.1, fun b hb => let ⟨c, hc, hl⟩ := h2 b hb; Nat.le_trans (h.2 c hc) hl⟩
theorem ab_walk_lt {ρ : Nat → Nat} (hρ : ∀ j, j < 16 → ρ j < 4) : ∀ k s a, s < 16 → ab_walk ρ k s a < 16
  | 0, _, _, h => h
  | k + 1, s, a, h => ab_walk_lt hρ k _ _ (ab_nx_lt hρ h (Nat.mod_lt _ (by omega)))
theorem ab_isF_step {ρ : Nat → Nat} (hρ : ∀ j, j < 16 → ρ j < 4) {s k : Nat} (hs : s < 16) {F : Nat → Option Nat} (h : ab_isF ρ s k F) : ab_isF ρ s (k + 1) (ab_leads ρ F (4 ^ k) 64) := by
  intro t ht
  have hpos : 0 < 4 ^ k := Nat.pow_pos (by omega)
  refine ab_min_le (ab_leads_min t 64) ?_ ?_
  · rintro x ⟨m, a, h1, h2, h3, h4⟩
    have hm := h (m / 4) (by omega)
    rw [h2] at hm
    have hd : m % 4 < 4 := Nat.mod_lt _ (by omega)
    subst h4
    refine ⟨?_, ?_⟩
    · rw [Nat.pow_succ, Nat.mul_comm (4 ^ k) 4]
      have : m % 4 * 4 ^ k ≤ 3 * 4 ^ k := Nat.mul_le_mul_right _ (by omega)
      have h8 : a < 4 ^ k := hm.1.1
      omega
    · rw [ab_walk_app _ hd k s a hm.1.1, hm.1.2, h3]
  · rintro x ⟨h1, h2⟩
    have hx : x = x % 4 ^ k + x / 4 ^ k * 4 ^ k := by rw [Nat.mul_comm]; exact (Nat.mod_add_div _ _).symm
    have hd : x / 4 ^ k < 4 := by
      rw [Nat.div_lt_iff_lt_mul hpos]
      rw [Nat.pow_succ, Nat.mul_comm] at h1
      exact h1
    have hlt : x % 4 ^ k < 4 ^ k := Nat.mod_lt _ hpos
    rw [hx, ab_walk_app _ hd k s _ hlt] at h2
    have hu : ab_walk ρ k s (x % 4 ^ k) < 16 := ab_walk_lt hρ k s _ hs
    have hm := h _ hu
    cases e : F (ab_walk ρ k s (x % 4 ^ k)) with
    | none => rw [e] at hm; exact absurd ⟨hlt, rfl⟩ (hm _)
    | some a =>
      rw [e] at hm
      have hud : ∀ u d : Nat, d < 4 → (u * 4 + d) / 4 = u ∧ (u * 4 + d) % 4 = d := fun u d h => by omega
      have e4 : (ab_walk ρ k s (x % 4 ^ k) * 4 + x / 4 ^ k) / 4 = ab_walk ρ k s (x % 4 ^ k) := (hud _ _ hd).1
      have e5 : (ab_walk ρ k s (x % 4 ^ k) * 4 + x / 4 ^ k) % 4 = x / 4 ^ k := (hud _ _ hd).2
      refine ⟨a + x / 4 ^ k * 4 ^ k, ⟨ab_walk ρ k s (x % 4 ^ k) * 4 + x / 4 ^ k, a, (by revert hd hu; generalize x / 4 ^ k = d; generalize ab_walk ρ k s (x % 4 ^ k) = u; intro h1 h2; omega), by rw [e4]; exact e, by rw [e4, e5]; exact h2.symm, by rw [e5]⟩, ?_⟩
      have := hm.2 _ ⟨hlt, rfl⟩
      omega
theorem ab_isF_0 (ρ : Nat → Nat) (s : Nat) : ab_isF ρ s 0 (fun t => if t = s then some 0 else none) := by
  intro t ht
  simp only
  by_cases h : t = s
  · rw [if_pos h]
    exact ⟨⟨by decide, h.symm⟩, fun b _ => Nat.zero_le b⟩
  · rw [if_neg h]
    exact fun a ha => h ha.2.symm
/-- the best of the first n pairs of one way twice -/
def ab_diag (F : Nat → Option Nat) : Nat → Option Nat
  | 0 => none
  | n + 1 => match F (5 * n) with
    | none => ab_diag F n
    | some a => ab_or (ab_diag F n) a
theorem ab_diag_min {ρ : Nat → Nat} {s k : Nat} {F : Nat → Option Nat} (h : ab_isF ρ s k F) : ∀ n, n ≤ 4 → ab_min (fun a => ∃ m, m < n ∧ a < 4 ^ k ∧ ab_walk ρ k s a = 5 * m) (ab_diag F n)
  | 0, _ => fun a ⟨m, h, _⟩ => absurd h (by omega)
  | n + 1, hn => by
    have ih := ab_diag_min h n (by omega)
    have hm := h (5 * n) (by omega)
    rw [ab_diag]
    cases e : F (5 * n) with
    | none =>
      rw [e] at hm
      simp only
      refine ab_min_congr (fun x => ?_) ih
      constructor
      · rintro ⟨m, h1, h2⟩; exact ⟨m, by omega, h2⟩
      · rintro ⟨m, h1, h2, h3⟩
        by_cases h4 : m = n
        · subst h4; exact absurd ⟨h2, h3⟩ (hm x)
        · exact ⟨m, by omega, h2, h3⟩
    | some a =>
      rw [e] at hm
      simp only
      refine ab_min_le (ab_or_min (x := a) ih) ?_ ?_
      · rintro x (⟨m, h1, h2⟩ | h1)
        · exact ⟨m, by omega, h2⟩
        · subst h1; exact ⟨n, by omega, hm.1⟩
      · rintro x ⟨m, h1, h2, h3⟩
        by_cases h4 : m = n
        · subst h4; exact ⟨a, Or.inr rfl, hm.2 x ⟨h2, h3⟩⟩
        · exact ⟨x, Or.inl ⟨m, by omega, h2, h3⟩, Nat.le_refl _⟩
theorem ab_diag_A {ρ : Nat → Nat} (hρ : ∀ j, j < 16 → ρ j < 4) {s k : Nat} (hs : s < 16) {F : Nat → Option Nat} (h : ab_isF ρ s k F) : ab_diag F 4 = ab_A ρ k s := by
  refine ab_min_uniq (ab_min_congr (fun a => ?_) (ab_diag_min h 4 (Nat.le_refl 4))) (ab_A_min hρ k s hs)
  constructor
  · rintro ⟨m, h1, h2, h3⟩
    exact ⟨h2, by rw [h3]; omega⟩
  · rintro ⟨h1, h2⟩
    have h3 := ab_walk_lt hρ k s a hs
    exact ⟨ab_walk ρ k s a % 4, by omega, h1, by omega⟩
theorem ab_isF_lt {ρ : Nat → Nat} {s k t a : Nat} {F : Nat → Option Nat} (h : ab_isF ρ s k F) (ht : t < 16) (e : F t = some a) : a < 4 ^ k := by
  have := h t ht
  rw [e] at this
  exact this.1.1
theorem ab_afd_lt {ρ : Nat → Nat} {ℓ : Nat → Option Nat} (hB : ∀ s a, s < 16 → ℓ s = some a → a < 268435456) (hρ : ∀ j, j < 16 → ρ j < 4) {s : Nat} (hs : s < 16) : ∀ p, p ≤ 4 → ∀ {q}, ab_afd ρ ℓ s p = some q → q < 2147483648
  | 0, _, q, h => by rw [ab_afd] at h; cases h
  | p + 1, hp, q, h => by
    have ih := @ab_afd_lt ρ ℓ hB hρ s hs p (by omega)
    have hn := ab_nx_lt hρ hs (show p < 4 by omega)
    rw [ab_afd] at h
    cases e : ℓ (ab_nx ρ s p) with
    | none => rw [e] at h; exact ih h
    | some a =>
      have ha := hB _ _ hn e
      rw [e] at h
      simp only at h
      cases e2 : ab_afd ρ ℓ s p with
      | none => rw [e2] at h; simp only [Option.some.injEq] at h; omega
      | some z =>
        rw [e2] at h
        simp only at h
        split at h
        · cases h; exact ih e2
        · simp only [Option.some.injEq] at h; omega
