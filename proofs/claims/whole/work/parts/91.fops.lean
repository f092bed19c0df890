/-! ===== floats: what the operations do ===== -/
theorem fo_int {f : FP.Core.Fmt} {P β a : Nat} (hf : fG f P β) (hβ : 64 ≤ β) (h0 : 0 < a) (h1 : a < 2 ^ 63) : ∃ E t, t < 2 ^ P ∧ FP.Core.fromInt f (a : Int) = E * 2 ^ P + t ∧ β ≤ E ∧ E ≤ β + 63 := by
  have k1 := fl_lead_ge (A := a) (B := 1) (a := 0) (b := 0) h0 (by decide) (by omega)
  have k2 := fl_lead_lt (A := a) (B := 1) (a := 0) (b := 63) h0 (by decide) (by omega)
  obtain ⟨E, t, ht, he, e1, e2⟩ := fl_round (e := 0) hf h0 (show 0 < 1 by decide) rfl (by omega) (by omega)
  refine ⟨E, t, ht, ?_, by omega, by omega⟩
  have hd : decide ((a : Int) < 0) = false := decide_eq_false (by omega)
  show FP.Core.encode f (FP.Core.roundRatio f (decide ((a : Int) < 0)) a 1 0) = _
  rw [hd, he, fl_enc hf ht (by omega)]
theorem fo_int0 {f : FP.Core.Fmt} {P β : Nat} (hf : fG f P β) : FP.Core.fromInt f 0 = 0 := by
  show FP.Core.encode f (FP.Core.roundRatio f false 0 1 0) = _
  rw [fl_r0, fl_enc0 hf]
theorem fo_div {f : FP.Core.Fmt} {P β E1 t1 E2 t2 : Nat} (hf : fG f P β) (h1 : t1 < 2 ^ P) (h2 : t2 < 2 ^ P) (a1 : 1 ≤ E1) (a2 : E1 ≤ 2 * β) (b1 : 1 ≤ E2) (b2 : E2 ≤ 2 * β) (c1 : E2 + 2 ≤ E1 + β) (c2 : E1 + 1 ≤ β + E2) : ∃ E t, t < 2 ^ P ∧ FP.Core.div f (E1 * 2 ^ P + t1) (E2 * 2 ^ P + t2) = E * 2 ^ P + t ∧ E1 + β ≤ E + E2 + 1 ∧ E + E2 ≤ E1 + β + 1 := by
  have hpos := Nat.two_pow_pos P
  have hA : 0 < 2 ^ P + t1 := by omega
  have hB : 0 < 2 ^ P + t2 := by omega
  have k1 := fl_lead_ge (a := 1) (b := 0) hA hB (by omega)
  have k2 := fl_lead_lt (a := 0) (b := 1) hA hB (by omega)
  obtain ⟨E, t, ht, he, e1, e2⟩ := fl_round (e := ((E1 : Int) - (β : Int) - (P : Int)) - ((E2 : Int) - (β : Int) - (P : Int))) hf hA hB rfl (by omega) (by omega)
  refine ⟨E, t, ht, ?_, by omega, by omega⟩
  unfold FP.Core.div
  rw [fl_dec hf h1 a1 a2, fl_dec hf h2 b1 b2]
  show FP.Core.encode f (if 2 ^ P + t2 = 0 then _ else FP.Core.roundRatio f false (2 ^ P + t1) (2 ^ P + t2) _) = _
  rw [if_neg (by omega), he, fl_enc hf ht (by omega)]
theorem fo_div0 {f : FP.Core.Fmt} {P β E2 t2 : Nat} (hf : fG f P β) (h2 : t2 < 2 ^ P) (b1 : 1 ≤ E2) (b2 : E2 ≤ 2 * β) : FP.Core.div f 0 (E2 * 2 ^ P + t2) = 0 := by
  have hpos := Nat.two_pow_pos P
  unfold FP.Core.div
  rw [fl_dec0 hf, fl_dec hf h2 b1 b2]
  show FP.Core.encode f (if 2 ^ P + t2 = 0 then _ else FP.Core.roundRatio f false 0 (2 ^ P + t2) _) = _
  rw [if_neg (by omega)]
  unfold FP.Core.roundRatio
  rw [if_pos rfl, fl_enc0 hf]
theorem fo_sum {c d : Nat} {q r : Int} : FP.Core.exactSum (.fin false c q) (.fin false d r) = .fin false (c * 2 ^ (q - min q r).toNat + d * 2 ^ (r - min q r).toNat) (min q r) := by
  have e : FP.Core.sumUnits false c q false d r (min q r) = ((c * 2 ^ (q - min q r).toNat + d * 2 ^ (r - min q r).toNat : Nat) : Int) := by
    unfold FP.Core.sumUnits FP.Core.signed FP.Core.inUnits
    simp
  show FP.Core.Datum.fin (FP.Core.sumSign false false (FP.Core.sumUnits false c q false d r (min q r))) (FP.Core.sumUnits false c q false d r (min q r)).natAbs (min q r) = _
  rw [e]
  unfold FP.Core.sumSign
  rw [Int.natAbs_natCast]
  congr 1
  split
  · rfl
  · exact decide_eq_false (by omega)
theorem fo_add_le {f : FP.Core.Fmt} {P β E1 t1 E2 t2 : Nat} (hf : fG f P β) (h1 : t1 < 2 ^ P) (h2 : t2 < 2 ^ P) (a1 : 1 ≤ E1) (b2 : E2 + 2 ≤ 2 * β) (hle : E1 ≤ E2) : ∃ E t, t < 2 ^ P ∧ FP.Core.round f (FP.Core.exactSum (nd P β E1 t1) (nd P β E2 t2)) = nd P β E t ∧ E2 ≤ E ∧ E ≤ E2 + 2 := by
  have hpos := Nat.two_pow_pos P
  unfold nd
  rw [fo_sum, show min ((E1 : Int) - (β : Int) - (P : Int)) ((E2 : Int) - (β : Int) - (P : Int)) = (E1 : Int) - (β : Int) - (P : Int) by omega, show ((E1 : Int) - (β : Int) - (P : Int) - ((E1 : Int) - (β : Int) - (P : Int))).toNat = 0 by omega, show ((E2 : Int) - (β : Int) - (P : Int) - ((E1 : Int) - (β : Int) - (P : Int))).toNat = E2 - E1 by omega, Nat.pow_zero, Nat.mul_one]
  have hd := Nat.two_pow_pos (E2 - E1)
  have hN : 0 < 2 ^ P + t1 + (2 ^ P + t2) * 2 ^ (E2 - E1) := by omega
  have m1 : 2 ^ P * 2 ^ (E2 - E1) ≤ (2 ^ P + t2) * 2 ^ (E2 - E1) := Nat.mul_le_mul_right _ (by omega)
  have m2 : (2 ^ P + t2) * 2 ^ (E2 - E1) < 2 ^ (P + 1) * 2 ^ (E2 - E1) := Nat.mul_lt_mul_of_pos_right (by rw [Nat.pow_succ]; omega) hd
  have m3 : 2 ^ P + t1 < 2 ^ (P + 1) * 2 ^ (E2 - E1) := Nat.lt_of_lt_of_le (show 2 ^ P + t1 < 2 ^ (P + 1) by rw [Nat.pow_succ]; omega) (Nat.le_mul_of_pos_right _ hd)
  have k1 := fl_lead_ge (a := 0) (b := P + (E2 - E1)) hN (show 0 < 1 by decide) (by rw [Nat.one_mul, Nat.pow_zero, Nat.mul_one, Nat.pow_add]; omega)
  have k2 := fl_lead_lt (a := 0) (b := P + 2 + (E2 - E1)) hN (show 0 < 1 by decide) (by
    rw [Nat.one_mul, Nat.pow_zero, Nat.mul_one, show P + 2 + (E2 - E1) = (P + 1 + (E2 - E1)) + 1 by omega, Nat.pow_succ, Nat.pow_add]
    omega)
  obtain ⟨E, t, ht, he, e1, e2⟩ := fl_round (e := (E1 : Int) - (β : Int) - (P : Int)) hf hN (show 0 < 1 by decide) rfl (by omega) (by omega)
  exact ⟨E, t, ht, he, by omega, by omega⟩
theorem fo_comm {c d : Nat} {q r : Int} : FP.Core.exactSum (.fin false c q) (.fin false d r) = FP.Core.exactSum (.fin false d r) (.fin false c q) := by
  rw [fo_sum, fo_sum, Int.min_comm q r, Nat.add_comm]
theorem fo_add {f : FP.Core.Fmt} {P β E1 t1 E2 t2 : Nat} (hf : fG f P β) (h1 : t1 < 2 ^ P) (h2 : t2 < 2 ^ P) (a1 : 1 ≤ E1) (a2 : E1 + 2 ≤ 2 * β) (b1 : 1 ≤ E2) (b2 : E2 + 2 ≤ 2 * β) : ∃ E t, t < 2 ^ P ∧ FP.Core.add f (E1 * 2 ^ P + t1) (E2 * 2 ^ P + t2) = E * 2 ^ P + t ∧ E1 ≤ E ∧ E2 ≤ E ∧ (E ≤ E1 + 2 ∨ E ≤ E2 + 2) := by
  unfold FP.Core.add
  rw [fl_dec hf h1 a1 (by omega), fl_dec hf h2 b1 (by omega)]
  rcases Nat.le_total E1 E2 with c | c
  · obtain ⟨E, t, ht, he, e1, e2⟩ := fo_add_le hf h1 h2 a1 b2 c
    exact ⟨E, t, ht, by rw [he, fl_enc hf ht (by omega)], by omega, e1, Or.inr e2⟩
  · obtain ⟨E, t, ht, he, e1, e2⟩ := fo_add_le hf h2 h1 b1 a2 c
    refine ⟨E, t, ht, ?_, e1, by omega, Or.inl e2⟩
    have q : FP.Core.exactSum (nd P β E1 t1) (nd P β E2 t2) = FP.Core.exactSum (nd P β E2 t2) (nd P β E1 t1) := fo_comm
    rw [q, he, fl_enc hf ht (by omega)]
theorem fo_add0l {f : FP.Core.Fmt} {P β E t : Nat} (hf : fG f P β) (h : t < 2 ^ P) (a1 : 1 ≤ E) (a2 : E ≤ 2 * β) : FP.Core.add f 0 (E * 2 ^ P + t) = E * 2 ^ P + t := by
  unfold FP.Core.add
  rw [fl_dec hf h a1 a2, fl_dec0 hf]
  unfold nd
  rw [fo_sum]
  obtain ⟨f1, f2, f3, f4, f5, f6, f7⟩ := id hf
  rw [f3, show min (1 - (β : Int) - (P : Int)) ((E : Int) - (β : Int) - (P : Int)) = 1 - (β : Int) - (P : Int) by omega, Nat.zero_mul, Nat.zero_add, show ((E : Int) - (β : Int) - (P : Int) - (1 - (β : Int) - (P : Int))).toNat = E - 1 by omega]
  show FP.Core.encode f (FP.Core.roundRatio f false ((2 ^ P + t) * 2 ^ (E - 1)) 1 _) = _
  rw [fl_exact hf h a1 a2 (by omega), fl_enc hf h a1]
theorem fo_add0r {f : FP.Core.Fmt} {P β E t : Nat} (hf : fG f P β) (h : t < 2 ^ P) (a1 : 1 ≤ E) (a2 : E ≤ 2 * β) : FP.Core.add f (E * 2 ^ P + t) 0 = E * 2 ^ P + t := by
  have q := fo_add0l hf h a1 a2
  unfold FP.Core.add at *
  rw [fl_dec hf h a1 a2, fl_dec0 hf] at *
  unfold nd at *
  rw [fo_comm]
  exact q
theorem fo_add00 {f : FP.Core.Fmt} {P β : Nat} (hf : fG f P β) : FP.Core.add f 0 0 = 0 := by
  unfold FP.Core.add
  rw [fl_dec0 hf, fo_sum, Nat.zero_mul]
  show FP.Core.encode f (FP.Core.roundRatio f false 0 1 _) = 0
  rw [fl_r0, fl_enc0 hf]
theorem fo_mul {f : FP.Core.Fmt} {P β E1 t1 E2 t2 : Nat} (hf : fG f P β) (h1 : t1 < 2 ^ P) (h2 : t2 < 2 ^ P) (a1 : 1 ≤ E1) (a2 : E1 ≤ 2 * β) (b1 : 1 ≤ E2) (b2 : E2 ≤ 2 * β) (c1 : β + 1 ≤ E1 + E2) (c2 : E1 + E2 + 2 ≤ 3 * β) : ∃ E t, t < 2 ^ P ∧ FP.Core.mul f (E1 * 2 ^ P + t1) (E2 * 2 ^ P + t2) = E * 2 ^ P + t ∧ E1 + E2 ≤ E + β ∧ E + β ≤ E1 + E2 + 2 := by
  have hpos := Nat.two_pow_pos P
  have hA : 0 < (2 ^ P + t1) * (2 ^ P + t2) := Nat.mul_pos (by omega) (by omega)
  have m1 : 2 ^ P * 2 ^ P ≤ (2 ^ P + t1) * (2 ^ P + t2) := Nat.mul_le_mul (by omega) (by omega)
  have m2 : (2 ^ P + t1) * (2 ^ P + t2) < 2 ^ (P + 1) * 2 ^ (P + 1) := Nat.mul_lt_mul'' (by rw [Nat.pow_succ]; omega) (by rw [Nat.pow_succ]; omega)
  have k1 := fl_lead_ge (a := 0) (b := P + P) hA (show 0 < 1 by decide) (by rw [Nat.one_mul, Nat.pow_zero, Nat.mul_one, Nat.pow_add]; exact m1)
  have k2 := fl_lead_lt (a := 0) (b := (P + 1) + (P + 1)) hA (show 0 < 1 by decide) (by rw [Nat.one_mul, Nat.pow_zero, Nat.mul_one, Nat.pow_add]; exact m2)
  obtain ⟨E, t, ht, he, e1, e2⟩ := fl_round (e := ((E1 : Int) - (β : Int) - (P : Int)) + ((E2 : Int) - (β : Int) - (P : Int))) hf hA (show 0 < 1 by decide) rfl (by omega) (by omega)
  refine ⟨E, t, ht, ?_, by omega, by omega⟩
  unfold FP.Core.mul
  rw [fl_dec hf h1 a1 a2, fl_dec hf h2 b1 b2]
  show FP.Core.encode f (FP.Core.roundRatio f false ((2 ^ P + t1) * (2 ^ P + t2)) 1 _) = _
  rw [he, fl_enc hf ht (by omega)]
theorem fo_mul2 {f : FP.Core.Fmt} {P β E1 t E2 : Nat} (hf : fG f P β) (h1 : t < 2 ^ P) (a1 : 1 ≤ E1) (a2 : E1 ≤ 2 * β) (b1 : 1 ≤ E2) (b2 : E2 ≤ 2 * β) (c1 : β + 1 ≤ E1 + E2) (c2 : E1 + E2 ≤ 3 * β) : FP.Core.mul f (E1 * 2 ^ P + t) (E2 * 2 ^ P) = (E1 + E2 - β) * 2 ^ P + t := by
  have hpos := Nat.two_pow_pos P
  have e0 : E2 * 2 ^ P = E2 * 2 ^ P + 0 := rfl
  unfold FP.Core.mul
  rw [fl_dec hf h1 a1 a2, e0, fl_dec hf hpos b1 b2]
  show FP.Core.encode f (FP.Core.roundRatio f false ((2 ^ P + t) * (2 ^ P + 0)) 1 (((E1 : Int) - (β : Int) - (P : Int)) + ((E2 : Int) - (β : Int) - (P : Int)))) = _
  rw [Nat.add_zero, fl_exact (E := E1 + E2 - β) hf h1 (by omega) (by omega) (by omega), fl_enc hf h1 (by omega)]
theorem fo_mul0 {f : FP.Core.Fmt} {P β E t : Nat} (hf : fG f P β) (h : t < 2 ^ P) (a1 : 1 ≤ E) (a2 : E ≤ 2 * β) : FP.Core.mul f 0 (E * 2 ^ P + t) = 0 := by
  unfold FP.Core.mul
  rw [fl_dec0 hf, fl_dec hf h a1 a2]
  show FP.Core.encode f (FP.Core.roundRatio f false (0 * (2 ^ P + t)) 1 _) = _
  rw [Nat.zero_mul, fl_r0, fl_enc0 hf]
/-- 1 taken away -/
theorem fo_sub1 {f : FP.Core.Fmt} {P β t : Nat} (hf : fG f P β) (hβ : P + 1 ≤ β) (h : t < 2 ^ P) : (t = 0 ∧ FP.Core.sub f (β * 2 ^ P + t) (β * 2 ^ P) = 0) ∨ ∃ E u j, u < 2 ^ P ∧ FP.Core.sub f (β * 2 ^ P + t) (β * 2 ^ P) = E * 2 ^ P + u ∧ 2 ^ P + u = t * 2 ^ j ∧ E + j = β ∧ j ≤ P := by
  have hpos := Nat.two_pow_pos P
  obtain ⟨f1, f2, f3, f4, f5, f6, f7⟩ := id hf
  have e0 : β * 2 ^ P = β * 2 ^ P + 0 := rfl
  have hs : FP.Core.exactSum (nd P β β t) (FP.Core.negate (nd P β β 0)) = .fin (FP.Core.sumSign false true (t : Int)) t (-(P : Int)) := by
    have e : FP.Core.sumUnits false (2 ^ P + t) ((β : Int) - (β : Int) - (P : Int)) true (2 ^ P + 0) ((β : Int) - (β : Int) - (P : Int)) (min ((β : Int) - (β : Int) - (P : Int)) ((β : Int) - (β : Int) - (P : Int))) = (t : Int) := by
      unfold FP.Core.sumUnits FP.Core.signed FP.Core.inUnits
      rw [show ((β : Int) - (β : Int) - (P : Int) - min ((β : Int) - (β : Int) - (P : Int)) ((β : Int) - (β : Int) - (P : Int))).toNat = 0 by omega]
      simp
      omega
    unfold nd FP.Core.negate FP.Core.exactSum
    simp only [Bool.not_false]
    rw [e, Int.natAbs_natCast, show min ((β : Int) - (β : Int) - (P : Int)) ((β : Int) - (β : Int) - (P : Int)) = -(P : Int) by omega]
  unfold FP.Core.sub
  rw [fl_dec hf h (by omega) (by omega), e0, fl_dec hf hpos (by omega) (by omega), hs]
  by_cases c : t = 0
  · refine Or.inl ⟨c, ?_⟩
    subst c
    show FP.Core.encode f (FP.Core.roundRatio f (FP.Core.sumSign false true ((0 : Nat) : Int)) 0 1 _) = 0
    rw [show FP.Core.sumSign false true ((0 : Nat) : Int) = false by decide, fl_r0, fl_enc0 hf]
  · refine Or.inr ?_
    have hsg : FP.Core.sumSign false true (t : Int) = false := by
      unfold FP.Core.sumSign
      rw [if_neg (by omega)]
      exact decide_eq_false (by omega)
    rw [hsg]
    have l1 : 2 ^ t.log2 ≤ t := Nat.log2_self_le c
    have l2 : t < 2 ^ (t.log2 + 1) := Nat.lt_log2_self
    have l3 : t.log2 < P := (Nat.pow_lt_pow_iff_right (by decide : 1 < 2)).mp (Nat.lt_of_le_of_lt l1 h)
    generalize t.log2 = L at l1 l2 l3
    have m1 : 2 ^ P ≤ t * 2 ^ (P - L) := by
      calc 2 ^ P = 2 ^ L * 2 ^ (P - L) := by rw [← Nat.pow_add]; congr 1; omega
        _ ≤ _ := Nat.mul_le_mul_right _ l1
    have m2 : t * 2 ^ (P - L) < 2 ^ P + 2 ^ P := by
      calc t * 2 ^ (P - L) < 2 ^ (L + 1) * 2 ^ (P - L) := Nat.mul_lt_mul_of_pos_right l2 (Nat.two_pow_pos _)
        _ = 2 ^ (P + 1) := by rw [← Nat.pow_add]; congr 1; omega
        _ = _ := by rw [Nat.pow_succ]; omega
    refine ⟨β - (P - L), t * 2 ^ (P - L) - 2 ^ P, P - L, by omega, ?_, by omega, by omega, by omega⟩
    show FP.Core.encode f (FP.Core.roundRatio f false t 1 _) = _
    rw [fl_exact2 (E := β - (P - L)) (t := t * 2 ^ (P - L) - 2 ^ P) (j := P - L) hf (by omega) (by omega) (by omega) (by omega) (by omega), fl_enc hf (by omega) (by omega)]
/-! comparisons -/
theorem fo_cmp {f : FP.Core.Fmt} {P β E1 t E2 : Nat} (hf : fG f P β) (h : t < 2 ^ P) (a1 : 1 ≤ E1) (a2 : E1 ≤ 2 * β) (b1 : 1 ≤ E2) (b2 : E2 ≤ 2 * β) : (E1 < E2 ∧ FP.Core.cmp f (E1 * 2 ^ P + t) (E2 * 2 ^ P) = some .lt) ∨ (E2 ≤ E1 ∧ (FP.Core.cmp f (E1 * 2 ^ P + t) (E2 * 2 ^ P) = some .eq ∨ FP.Core.cmp f (E1 * 2 ^ P + t) (E2 * 2 ^ P) = some .gt)) := by
  have hpos := Nat.two_pow_pos P
  have e0 : E2 * 2 ^ P = E2 * 2 ^ P + 0 := rfl
  unfold FP.Core.cmp
  rw [fl_dec hf h a1 a2, e0, fl_dec hf hpos b1 b2]
  show (_ ∧ some (compare (((2 ^ P + t) * 2 ^ _ : Nat) : Int) (((2 ^ P + 0) * 2 ^ _ : Nat) : Int)) = _) ∨ (_ ∧ (some (compare (((2 ^ P + t) * 2 ^ _ : Nat) : Int) (((2 ^ P + 0) * 2 ^ _ : Nat) : Int)) = _ ∨ some (compare (((2 ^ P + t) * 2 ^ _ : Nat) : Int) (((2 ^ P + 0) * 2 ^ _ : Nat) : Int)) = _))
  by_cases c : E1 < E2
  · refine Or.inl ⟨c, ?_⟩
    rw [show ((E1 : Int) - (β : Int) - (P : Int) - min ((E1 : Int) - (β : Int) - (P : Int)) ((E2 : Int) - (β : Int) - (P : Int))).toNat = 0 by omega, show ((E2 : Int) - (β : Int) - (P : Int) - min ((E1 : Int) - (β : Int) - (P : Int)) ((E2 : Int) - (β : Int) - (P : Int))).toNat = (E2 - E1 - 1) + 1 by omega, Nat.pow_zero, Nat.mul_one, Nat.add_zero]
    have m : 2 ^ P + t < 2 ^ P * 2 ^ (E2 - E1 - 1 + 1) := by
      have hd := Nat.two_pow_pos (E2 - E1 - 1)
      have m3 : 2 ^ P * 1 ≤ 2 ^ P * 2 ^ (E2 - E1 - 1) := Nat.mul_le_mul_left _ hd
      rw [Nat.pow_succ, ← Nat.mul_assoc]
      omega
    have q : compare ((2 ^ P + t : Nat) : Int) ((2 ^ P * 2 ^ (E2 - E1 - 1 + 1) : Nat) : Int) = .lt := by
      rw [Int.compare_eq_lt]
      omega
    rw [q]
  · refine Or.inr ⟨by omega, ?_⟩
    rw [show ((E2 : Int) - (β : Int) - (P : Int) - min ((E1 : Int) - (β : Int) - (P : Int)) ((E2 : Int) - (β : Int) - (P : Int))).toNat = 0 by omega, Nat.pow_zero, Nat.mul_one, Nat.add_zero]
    generalize ((E1 : Int) - (β : Int) - (P : Int) - min ((E1 : Int) - (β : Int) - (P : Int)) ((E2 : Int) - (β : Int) - (P : Int))).toNat = d
    have hd := Nat.two_pow_pos d
    have m : 2 ^ P ≤ (2 ^ P + t) * 2 ^ d := by
      have m3 : (2 ^ P + t) * 1 ≤ (2 ^ P + t) * 2 ^ d := Nat.mul_le_mul_left _ hd
      omega
    by_cases c2 : (2 ^ P + t) * 2 ^ d = 2 ^ P
    · refine Or.inl ?_
      rw [c2]
      exact congrArg some (Int.compare_eq_eq.mpr rfl)
    · exact Or.inr (congrArg some (Int.compare_eq_gt.mpr (by omega)))
theorem fo_cmp0 {f : FP.Core.Fmt} {P β E t : Nat} (hf : fG f P β) (h : t < 2 ^ P) (a1 : 1 ≤ E) (a2 : E ≤ 2 * β) : FP.Core.cmp f (E * 2 ^ P + t) 0 = some .gt := by
  have hpos := Nat.two_pow_pos P
  unfold FP.Core.cmp
  rw [fl_dec hf h a1 a2, fl_dec0 hf]
  show some (compare (((2 ^ P + t) * 2 ^ _ : Nat) : Int) ((0 * 2 ^ _ : Nat) : Int)) = _
  rw [Nat.zero_mul]
  refine congrArg some (Int.compare_eq_gt.mpr ?_)
  have : 0 < (2 ^ P + t) * 2 ^ ((E : Int) - (β : Int) - (P : Int) - min ((E : Int) - (β : Int) - (P : Int)) f.qmin).toNat := Nat.mul_pos (by omega) (Nat.two_pow_pos _)
  omega
theorem fo_cmps {f : FP.Core.Fmt} {P β E t : Nat} (hf : fG f P β) (h : t < 2 ^ P) (a1 : 1 ≤ E) (a2 : E ≤ 2 * β) : FP.Core.cmp f (E * 2 ^ P + t) (E * 2 ^ P + t) = some .eq := by
  unfold FP.Core.cmp
  rw [fl_dec hf h a1 a2]
  show some (compare (((2 ^ P + t) * 2 ^ _ : Nat) : Int) (((2 ^ P + t) * 2 ^ _ : Nat) : Int)) = _
  exact congrArg some (Int.compare_eq_eq.mpr rfl)
theorem fo_cmp00 {f : FP.Core.Fmt} {P β : Nat} (hf : fG f P β) : FP.Core.cmp f 0 0 = some .eq := by
  unfold FP.Core.cmp
  rw [fl_dec0 hf]
  show some (compare ((0 * 2 ^ _ : Nat) : Int) ((0 * 2 ^ _ : Nat) : Int)) = _
  exact congrArg some (Int.compare_eq_eq.mpr rfl)
/-! whole numbers out of floats -/
theorem fo_trunc {f : FP.Core.Fmt} {P β E u t j : Nat} {lo hi : Int} (hf : fG f P β) (h : u < 2 ^ P) (a1 : 1 ≤ E) (a2 : E ≤ 2 * β) (hu : 2 ^ P + u = t * 2 ^ j) (he : E + j = β + P) (l0 : lo ≤ 0) (l1 : (t : Int) ≤ hi) : FP.Core.toInt lo hi (FP.Core.decode f (E * 2 ^ P + u)) = (t : Int) := by
  rw [fl_dec hf h a1 a2]
  show max lo (min hi (FP.Core.truncate false (2 ^ P + u) ((E : Int) - (β : Int) - (P : Int)))) = _
  have q : FP.Core.truncate false (2 ^ P + u) ((E : Int) - (β : Int) - (P : Int)) = (t : Int) := by
    unfold FP.Core.truncate FP.Core.signed
    rw [show ((E : Int) - (β : Int) - (P : Int)).toNat = 0 by omega, show (-((E : Int) - (β : Int) - (P : Int))).toNat = j by omega, hu, Nat.pow_zero, Nat.mul_one, Nat.mul_div_cancel _ (Nat.two_pow_pos j)]
    simp
  rw [q]
  omega
theorem fo_trunc0 {f : FP.Core.Fmt} {P β : Nat} {lo hi : Int} (hf : fG f P β) (l0 : lo ≤ 0) (l1 : 0 ≤ hi) : FP.Core.toInt lo hi (FP.Core.decode f 0) = 0 := by
  rw [fl_dec0 hf]
  show max lo (min hi (FP.Core.truncate false 0 f.qmin)) = _
  have q : FP.Core.truncate false 0 f.qmin = 0 := by
    unfold FP.Core.truncate FP.Core.signed
    simp
  rw [q]
  omega
