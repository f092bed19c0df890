/-! ===== small rows ===== -/
theorem ab_topI {k b : Nat} {M : ab_MK} {pc : Nat} {ls : List (Option Value)} {st : List Value} {h : ab_H} {post : Value → ab_H → Prop} {x y : Int32} (e : x = y) (kk : ab_R k b M pc ls (.int y :: st) h post) : ab_R k b M pc ls (.int x :: st) h post := by rw [e]; exact kk
theorem ab_topL {k b : Nat} {M : ab_MK} {pc : Nat} {ls : List (Option Value)} {st : List Value} {h : ab_H} {post : Value → ab_H → Prop} {x y : Int64} (e : x = y) (kk : ab_R k b M pc ls (.long y :: st) h post) : ab_R k b M pc ls (.long x :: st) h post := by rw [e]; exact kk
theorem ab_cmp0 {x y : Int64} : lg_cmp x y = 0 ↔ x = y := by
  unfold lg_cmp
  by_cases h1 : x > y
  · rw [if_pos h1]
    constructor
    · intro q; exact absurd q (by decide)
    · rintro rfl; exact (Int64.lt_irrefl h1).elim
  · rw [if_neg h1]
    by_cases h2 : x = y
    · rw [if_pos h2]; exact ⟨fun _ => h2, fun _ => rfl⟩
    · rw [if_neg h2]; exact ⟨fun q => absurd q (by decide), fun q => absurd q h2⟩
theorem ab_ne9 {n : Nat} (hn : n < 2147483648) : ¬ nI n = -9 := by
  intro q
  have h := congrArg Int32.toInt q
  rw [nI_toInt hn] at h
  have h2 : (-9 : Int32).toInt = -9 := by decide
  omega
theorem ab_nneg1 {n : Nat} (hn : n < 2147483648) : ¬ nI n = -1 := by
  intro q
  have h := congrArg Int32.toInt q
  rw [nI_toInt hn] at h
  have h2 : (-1 : Int32).toInt = -1 := by decide
  omega
theorem ab_pow14 {k : Nat} (hk : k ≤ 14) : 4 ^ k ≤ 268435456 := Nat.le_trans (Nat.pow_le_pow_right (by omega) hk) (by decide)
theorem ab_pow15 {k : Nat} (hk : k ≤ 15) : 4 ^ k ≤ 1073741824 := Nat.le_trans (Nat.pow_le_pow_right (by omega) hk) (by decide)
theorem ab_and1 (a : Nat) : a &&& 1 = a % 2 := Nat.and_one_is_mod a
theorem ab_or_lt16 {a b : Nat} (ha : a < 16) (hb : b < 16) : a ||| b < 16 := Nat.or_lt_two_pow (n := 4) ha hb
theorem ab_shl_lt {z : Nat} (h : z < 4) : 1 <<< z < 16 := by revert z; decide
theorem ab_shr_lt {a : Nat} (i : Nat) {n : Nat} (h : a < n) : a >>> i < n := Nat.lt_of_le_of_lt (by rw [Nat.shiftRight_eq_div_pow]; exact Nat.div_le_self _ _) h
theorem ab_or0 (a : Nat) : a ||| 0 = a := Nat.or_zero a
theorem ab_fr.mono {S S' : List Nat} {h h1 : ab_H} (f : ab_fr S h h1) (hs : ∀ a, a ∈ S → a ∈ S') : ab_fr S' h h1 := (ab_fr.rf h).trans f hs
theorem ab_alike_iff (L : Nat → Int64) : ab_alike L = true ↔ L 0 = L 1 ∧ L 1 = L 2 ∧ L 2 = L 3 := by
  unfold ab_alike
  simp only [Bool.and_eq_true, decide_eq_true_eq]
theorem ab_falls_pos {ρ : Nat → Nat} {w j i : Nat} (h : ab_alike (ab_lies ρ w i) = true) : ab_fallsFrom ρ w (j + 1) i = nI i := by rw [ab_fallsFrom, if_pos h]
theorem ab_falls_neg {ρ : Nat → Nat} {w j i : Nat} (h : ¬ ab_alike (ab_lies ρ w i) = true) : ab_fallsFrom ρ w (j + 1) i = ab_fallsFrom ρ w j (i + 1) := by rw [ab_fallsFrom, if_neg h]
/-- one comparison of two lying numbers that fails, that all hold -/
theorem ab_falls_no {L L' : Nat → Int64} (hl : ∀ t, t < 4 → L t = L' t) : ((lg_cmp (L 0) (L 1) = 0 ∧ lg_cmp (L 1) (L 2) = 0 ∧ lg_cmp (L 2) (L 3) = 0) ↔ ab_alike L' = true) := by
  rw [ab_alike_iff, ab_cmp0, ab_cmp0, ab_cmp0, hl 0 (by omega), hl 1 (by omega), hl 2 (by omega), hl 3 (by omega)]
