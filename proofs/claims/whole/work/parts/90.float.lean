/-! ===== floats, in any format of P + 1 digits and bias β ===== -/
def fG (f : FP.Core.Fmt) (P β : Nat) : Prop := f.p = P + 1 ∧ f.tails = 2 ^ P ∧ f.qmin = 1 - (β : Int) - (P : Int) ∧ f.qmax = (β : Int) - (P : Int) ∧ f.exps = 2 * β + 2 ∧ 1 ≤ P ∧ 1 ≤ β
theorem fG_32 : fG FP.Core.b32 23 127 := by unfold fG; decide
theorem fG_64 : fG FP.Core.b64 52 1023 := by unfold fG; decide
/-- the number with exponent E and digits t behind the first -/
def nd (P β E t : Nat) : FP.Core.Datum := .fin false (2 ^ P + t) ((E : Int) - (β : Int) - (P : Int))
theorem fl_sc {A B a b a' b' : Nat} (h : B * 2 ^ b ≤ A * 2 ^ a) (e : b + a' = b' + a) : B * 2 ^ b' ≤ A * 2 ^ a' := by
  refine Nat.le_of_mul_le_mul_right ?_ (Nat.two_pow_pos a)
  calc B * 2 ^ b' * 2 ^ a = B * 2 ^ (b' + a) := by rw [Nat.mul_assoc, ← Nat.pow_add]
    _ = B * 2 ^ b * 2 ^ a' := by rw [← e, Nat.pow_add, Nat.mul_assoc]
    _ ≤ A * 2 ^ a * 2 ^ a' := Nat.mul_le_mul_right _ h
    _ = A * 2 ^ a' * 2 ^ a := Nat.mul_right_comm _ _ _
theorem fl_sc' {A B a b a' b' : Nat} (h : A * 2 ^ a < B * 2 ^ b) (e : b + a' = b' + a) : A * 2 ^ a' < B * 2 ^ b' := by
  refine Nat.lt_of_not_le (fun q => Nat.not_le_of_lt h ?_)
  exact fl_sc q (by omega)
theorem fl_lo {A B a b : Nat} (hA : 0 < A) (hB : 0 < B) (e : (b : Int) - (a : Int) = FP.Core.leading A B) : B * 2 ^ b ≤ A * 2 ^ a := by
  have a1 : 2 ^ A.log2 ≤ A := Nat.log2_self_le (by omega)
  have b2 : B < 2 ^ (B.log2 + 1) := Nat.lt_log2_self
  unfold FP.Core.leading at e
  generalize A.log2 = n at a1 e
  generalize B.log2 = d at b2 e
  simp only at e
  split at e
  · rename_i h
    exact fl_sc h (by omega)
  · have h : B * 2 ^ n ≤ A * 2 ^ (d + 1) :=
      calc B * 2 ^ n ≤ 2 ^ (d + 1) * 2 ^ n := Nat.mul_le_mul_right _ (Nat.le_of_lt b2)
        _ = 2 ^ n * 2 ^ (d + 1) := Nat.mul_comm _ _
        _ ≤ A * 2 ^ (d + 1) := Nat.mul_le_mul_right _ a1
    exact fl_sc h (by omega)
theorem fl_hi {A B a b : Nat} (hA : 0 < A) (hB : 0 < B) (e : (b : Int) - (a : Int) = FP.Core.leading A B + 1) : A * 2 ^ a < B * 2 ^ b := by
  have a2 : A < 2 ^ (A.log2 + 1) := Nat.lt_log2_self
  have b1 : 2 ^ B.log2 ≤ B := Nat.log2_self_le (by omega)
  unfold FP.Core.leading at e
  generalize A.log2 = n at a2 e
  generalize B.log2 = d at b1 e
  simp only at e
  split at e
  · have h : A * 2 ^ d < B * 2 ^ (n + 1) :=
      calc A * 2 ^ d < 2 ^ (n + 1) * 2 ^ d := Nat.mul_lt_mul_of_pos_right a2 (Nat.two_pow_pos d)
        _ = 2 ^ d * 2 ^ (n + 1) := Nat.mul_comm _ _
        _ ≤ B * 2 ^ (n + 1) := Nat.mul_le_mul_right _ b1
    exact fl_sc' h (by omega)
  · rename_i h
    exact fl_sc' (Nat.lt_of_not_le h) (by omega)
/-- where the leading digit lies -/
theorem fl_lead_ge {A B a b : Nat} (hA : 0 < A) (hB : 0 < B) (h : B * 2 ^ b ≤ A * 2 ^ a) : (b : Int) - (a : Int) ≤ FP.Core.leading A B := by
  refine Int.not_lt.mp (fun q => ?_)
  have k := FP.Core.leading A B
  obtain ⟨x, y, hxy⟩ : ∃ x y : Nat, (y : Int) - (x : Int) = FP.Core.leading A B + 1 := ⟨(-(FP.Core.leading A B + 1)).toNat, (FP.Core.leading A B + 1).toNat, by omega⟩
  have h1 := fl_hi hA hB hxy
  have h2 : A * 2 ^ (x + a) < B * 2 ^ (y + a) := fl_sc' h1 (by omega)
  have h3 : B * 2 ^ (b + x) ≤ A * 2 ^ (a + x) := fl_sc h (by omega)
  have h4 : B * 2 ^ (y + a) ≤ B * 2 ^ (b + x) := Nat.mul_le_mul_left _ (Nat.pow_le_pow_right (by decide) (by omega))
  rw [Nat.add_comm a x] at h3
  omega
theorem fl_lead_lt {A B a b : Nat} (hA : 0 < A) (hB : 0 < B) (h : A * 2 ^ a < B * 2 ^ b) : FP.Core.leading A B < (b : Int) - (a : Int) := by
  refine Int.not_le.mp (fun q => ?_)
  obtain ⟨x, y, hxy⟩ : ∃ x y : Nat, (y : Int) - (x : Int) = FP.Core.leading A B := ⟨(-(FP.Core.leading A B)).toNat, (FP.Core.leading A B).toNat, by omega⟩
  have h1 := fl_lo hA hB hxy
  have h2 : B * 2 ^ (y + a) ≤ A * 2 ^ (x + a) := fl_sc h1 (by omega)
  have h3 : A * 2 ^ (a + x) < B * 2 ^ (b + x) := fl_sc' h (by omega)
  have h4 : B * 2 ^ (b + x) ≤ B * 2 ^ (y + a) := Nat.mul_le_mul_left _ (Nat.pow_le_pow_right (by decide) (by omega))
  rw [Nat.add_comm a x] at h3
  omega
theorem fl_near_ge {N D c : Nat} (hD : 0 < D) (h : c * D ≤ N) : c ≤ FP.Core.nearest N D := by
  have h1 : c ≤ N / D := (Nat.le_div_iff_mul_le hD).mpr h
  unfold FP.Core.nearest
  split
  · exact h1
  · split <;> omega
theorem fl_near_le {N D c : Nat} (hD : 0 < D) (h : N < c * D) : FP.Core.nearest N D ≤ c := by
  have h1 : N / D < c := (Nat.div_lt_iff_lt_mul hD).mpr h
  unfold FP.Core.nearest
  split
  · omega
  · split <;> omega
theorem fl_near_eq {D c : Nat} (hD : 0 < D) : FP.Core.nearest (c * D) D = c := by
  unfold FP.Core.nearest
  rw [Nat.mul_mod_left, Nat.mul_div_cancel _ hD, if_pos (by omega)]
/-- rounding where all is normal -/
theorem fl_round {f : FP.Core.Fmt} {P β A B : Nat} {e k : Int} (hf : fG f P β) (hA : 0 < A) (hB : 0 < B) (hk : FP.Core.leading A B = k) (h1 : 1 ≤ k + e + (β : Int)) (h2 : k + e + (β : Int) + 1 ≤ 2 * (β : Int)) : ∃ E t, t < 2 ^ P ∧ FP.Core.roundRatio f false A B e = nd P β E t ∧ (k + e + (β : Int) ≤ (E : Int)) ∧ (E : Int) ≤ k + e + (β : Int) + 1 := by
  obtain ⟨f1, f2, f3, f4, f5, f6, f7⟩ := hf
  have hq : FP.Core.quantum f A B e = k + e - (P : Int) := by
    unfold FP.Core.quantum
    rw [hk, f1, f3]
    omega
  unfold FP.Core.roundRatio
  rw [if_neg (by omega), hq]
  unfold FP.Core.roundAt FP.Core.unitsNum FP.Core.unitsDen
  have hD : 0 < B * 2 ^ (k + e - (P : Int) - e).toNat := Nat.mul_pos hB (Nat.two_pow_pos _)
  have lo : 2 ^ P ≤ FP.Core.nearest (A * 2 ^ (e - (k + e - (P : Int))).toNat) (B * 2 ^ (k + e - (P : Int) - e).toNat) := by
    refine fl_near_ge hD ?_
    have := fl_lo (a := (e - (k + e - (P : Int))).toNat) (b := P + (k + e - (P : Int) - e).toNat) hA hB (by rw [hk]; omega)
    rw [Nat.pow_add] at this
    calc 2 ^ P * (B * 2 ^ (k + e - (P : Int) - e).toNat) = B * (2 ^ P * 2 ^ (k + e - (P : Int) - e).toNat) := by ac_rfl
      _ ≤ _ := this
  have hi : FP.Core.nearest (A * 2 ^ (e - (k + e - (P : Int))).toNat) (B * 2 ^ (k + e - (P : Int) - e).toNat) ≤ 2 ^ (P + 1) := by
    refine fl_near_le hD ?_
    have := fl_hi (a := (e - (k + e - (P : Int))).toNat) (b := P + 1 + (k + e - (P : Int) - e).toNat) hA hB (by rw [hk]; omega)
    rw [Nat.pow_add] at this
    calc _ < _ := this
      _ = 2 ^ (P + 1) * (B * 2 ^ (k + e - (P : Int) - e).toNat) := by ac_rfl
  generalize FP.Core.nearest (A * 2 ^ (e - (k + e - (P : Int))).toNat) (B * 2 ^ (k + e - (P : Int) - e).toNat) = c at lo hi
  have hp2 : 2 ^ (P + 1) = 2 * 2 ^ P := by rw [Nat.pow_succ, Nat.mul_comm]
  have hpos := Nat.two_pow_pos P
  unfold FP.Core.settle FP.Core.bound
  rw [f1, f2, f4]
  by_cases c1 : c < 2 ^ (P + 1)
  · rw [if_pos c1, if_pos (by omega)]
    refine ⟨(k + e + (β : Int)).toNat, c - 2 ^ P, by omega, ?_, by omega, by omega⟩
    unfold nd
    rw [show 2 ^ P + (c - 2 ^ P) = c by omega, show (((k + e + (β : Int)).toNat : Nat) : Int) - (β : Int) - (P : Int) = k + e - (P : Int) by omega]
  · rw [if_neg c1, if_pos (by omega)]
    refine ⟨(k + e + (β : Int) + 1).toNat, 0, hpos, ?_, by omega, by omega⟩
    unfold nd
    rw [Nat.add_zero, show (((k + e + (β : Int) + 1).toNat : Nat) : Int) - (β : Int) - (P : Int) = k + e - (P : Int) + 1 by omega]
/-- rounding what needs none: too many digits, all 0 -/
theorem fl_exact {f : FP.Core.Fmt} {P β E t j : Nat} {e : Int} (hf : fG f P β) (ht : t < 2 ^ P) (h1 : 1 ≤ E) (h2 : E ≤ 2 * β) (he : e = (E : Int) - (β : Int) - (P : Int) - (j : Int)) : FP.Core.roundRatio f false ((2 ^ P + t) * 2 ^ j) 1 e = nd P β E t := by
  obtain ⟨f1, f2, f3, f4, f5, f6, f7⟩ := hf
  have hpos := Nat.two_pow_pos P
  have hj := Nat.two_pow_pos j
  have hA : 0 < (2 ^ P + t) * 2 ^ j := Nat.mul_pos (by omega) hj
  have hk : FP.Core.leading ((2 ^ P + t) * 2 ^ j) 1 = (P : Int) + (j : Int) := by
    have q1 := fl_lead_ge (a := 0) (b := P + j) hA (show 0 < 1 by decide) (by rw [Nat.one_mul, Nat.pow_zero, Nat.mul_one, Nat.pow_add]; exact Nat.mul_le_mul_right _ (by omega))
    have q2 := fl_lead_lt (a := 0) (b := P + 1 + j) hA (show 0 < 1 by decide) (by rw [Nat.one_mul, Nat.pow_zero, Nat.mul_one, Nat.pow_add, Nat.pow_succ]; exact Nat.mul_lt_mul_of_pos_right (by omega) hj)
    omega
  have hq : FP.Core.quantum f ((2 ^ P + t) * 2 ^ j) 1 e = (E : Int) - (β : Int) - (P : Int) := by
    unfold FP.Core.quantum
    rw [hk, f1, f3]
    omega
  unfold FP.Core.roundRatio
  rw [if_neg (by omega), hq]
  unfold FP.Core.roundAt FP.Core.unitsNum FP.Core.unitsDen
  rw [show (e - ((E : Int) - (β : Int) - (P : Int))).toNat = 0 by omega, show ((E : Int) - (β : Int) - (P : Int) - e).toNat = j by omega, Nat.pow_zero, Nat.mul_one, Nat.one_mul, fl_near_eq hj]
  unfold FP.Core.settle FP.Core.bound
  rw [f1, f4, if_pos (by rw [Nat.pow_succ]; omega), if_pos (by omega)]
  rfl
/-- .. too few digits -/
theorem fl_exact2 {f : FP.Core.Fmt} {P β E t j A : Nat} {e : Int} (hf : fG f P β) (ht : t < 2 ^ P) (h1 : 1 ≤ E) (h2 : E ≤ 2 * β) (hA9 : 2 ^ P + t = A * 2 ^ j) (he : e = (E : Int) - (β : Int) - (P : Int) + (j : Int)) : FP.Core.roundRatio f false A 1 e = nd P β E t := by
  obtain ⟨f1, f2, f3, f4, f5, f6, f7⟩ := hf
  have hpos := Nat.two_pow_pos P
  have hj := Nat.two_pow_pos j
  have hA : 0 < A := Nat.pos_of_ne_zero (fun q => by rw [q, Nat.zero_mul] at hA9; omega)
  have hk : FP.Core.leading A 1 = (P : Int) - (j : Int) := by
    have q1 := fl_lead_ge (a := j) (b := P) hA (show 0 < 1 by decide) (by rw [Nat.one_mul, ← hA9]; omega)
    have q2 := fl_lead_lt (a := j) (b := P + 1) hA (show 0 < 1 by decide) (by rw [Nat.one_mul, ← hA9, Nat.pow_succ]; omega)
    omega
  have hq : FP.Core.quantum f A 1 e = (E : Int) - (β : Int) - (P : Int) := by
    unfold FP.Core.quantum
    rw [hk, f1, f3]
    omega
  unfold FP.Core.roundRatio
  rw [if_neg (by omega), hq]
  unfold FP.Core.roundAt FP.Core.unitsNum FP.Core.unitsDen
  rw [show (e - ((E : Int) - (β : Int) - (P : Int))).toNat = j by omega, show ((E : Int) - (β : Int) - (P : Int) - e).toNat = 0 by omega, Nat.pow_zero, Nat.mul_one, ← hA9]
  have q := fl_near_eq (D := 1) (c := 2 ^ P + t) (by decide)
  rw [Nat.mul_one] at q
  rw [q]
  unfold FP.Core.settle FP.Core.bound
  rw [f1, f4, if_pos (by rw [Nat.pow_succ]; omega), if_pos (by omega)]
  rfl
/-! bits -/
theorem fl_enc {f : FP.Core.Fmt} {P β E t : Nat} (hf : fG f P β) (ht : t < 2 ^ P) (h1 : 1 ≤ E) : FP.Core.encode f (nd P β E t) = E * 2 ^ P + t := by
  obtain ⟨f1, f2, f3, f4, f5, f6, f7⟩ := hf
  unfold nd FP.Core.encode FP.Core.assemble
  simp only
  rw [f2, f3, if_neg (by omega)]
  rw [show ((E : Int) - (β : Int) - (P : Int) - (1 - (β : Int) - (P : Int))).toNat + 1 = E by omega, show 2 ^ P + t - 2 ^ P = t by omega]
  simp
theorem fl_dec {f : FP.Core.Fmt} {P β E t : Nat} (hf : fG f P β) (ht : t < 2 ^ P) (h1 : 1 ≤ E) (h2 : E ≤ 2 * β) : FP.Core.decode f (E * 2 ^ P + t) = nd P β E t := by
  obtain ⟨f1, f2, f3, f4, f5, f6, f7⟩ := hf
  have hpos := Nat.two_pow_pos P
  have e1 : (E * 2 ^ P + t) / 2 ^ P = E := by rw [Nat.mul_comm, Nat.mul_add_div hpos, Nat.div_eq_of_lt ht, Nat.add_zero]
  have e2 : (E * 2 ^ P + t) % 2 ^ P = t := by rw [Nat.mul_comm, Nat.mul_add_mod, Nat.mod_eq_of_lt ht]
  have fe : FP.Core.fieldE f (E * 2 ^ P + t) = E := by unfold FP.Core.fieldE; rw [f2, f5, e1, Nat.mod_eq_of_lt (by omega)]
  have ft : FP.Core.fieldT f (E * 2 ^ P + t) = t := by unfold FP.Core.fieldT; rw [f2, e2]
  have fs : FP.Core.fieldS f (E * 2 ^ P + t) = false := by unfold FP.Core.fieldS; rw [f2, f5, e1, Nat.div_eq_of_lt (by omega)]; rfl
  unfold FP.Core.decode
  rw [fe, ft, fs, f5, f2, f3, if_neg (by omega), if_neg (by omega)]
  unfold nd
  rw [show (1 - (β : Int) - (P : Int)) + ((E : Int) - 1) = (E : Int) - (β : Int) - (P : Int) by omega]
theorem fl_dec0 {f : FP.Core.Fmt} {P β : Nat} (hf : fG f P β) : FP.Core.decode f 0 = .fin false 0 f.qmin := by
  obtain ⟨f1, f2, f3, f4, f5, f6, f7⟩ := hf
  unfold FP.Core.decode FP.Core.fieldE FP.Core.fieldT FP.Core.fieldS
  rw [f5]
  simp
theorem fl_enc0 {f : FP.Core.Fmt} {P β : Nat} (hf : fG f P β) : FP.Core.encode f (.fin false 0 f.qmin) = 0 := by
  obtain ⟨f1, f2, f3, f4, f5, f6, f7⟩ := hf
  unfold FP.Core.encode FP.Core.assemble
  simp only
  rw [f2, if_pos (Nat.two_pow_pos P)]
  simp
theorem fl_r0 {f : FP.Core.Fmt} {e : Int} : FP.Core.roundRatio f false 0 1 e = .fin false 0 f.qmin := by unfold FP.Core.roundRatio; rw [if_pos rfl]
