/-! ===== whole numbers as longs ===== -/
def zI (z : Int) : Int64 := Int64.ofInt z
def zK (z : Int) : Prop := -9223372036854775808 ≤ z ∧ z < 9223372036854775808
theorem zI_int {z : Int} (h : zK z) : (zI z).toInt = z := Int64.toInt_ofInt_of_le (by have := h.1; omega) (by have := h.2; omega)
theorem zI_add (a b : Int) : zI a + zI b = zI (a + b) := (Int64.ofInt_add a b).symm
theorem zI_sub (a b : Int) : zI a - zI b = zI (a - b) := (Int64.ofInt_sub a b).symm
theorem zI_mul (a b : Int) : zI a * zI b = zI (a * b) := (Int64.ofInt_mul a b).symm
theorem zI_neg (a : Int) : -zI a = zI (-a) := (Int64.ofInt_neg a).symm
theorem zI_mulN (a b : Nat) : zI (a : Int) * zI (b : Int) = zI ((a * b : Nat) : Int) := by rw [zI_mul, Int.natCast_mul]
theorem zI_inj {a b : Int} (ha : zK a) (hb : zK b) : zI a = zI b ↔ a = b := ⟨fun e => by rw [← zI_int ha, ← zI_int hb, e], fun e => by rw [e]⟩
theorem zI_lt {a b : Int} (ha : zK a) (hb : zK b) : zI a < zI b ↔ a < b := by rw [Int64.lt_iff_toInt_lt, zI_int ha, zI_int hb]
theorem zI_le {a b : Int} (ha : zK a) (hb : zK b) : zI a ≤ zI b ↔ a ≤ b := by rw [Int64.le_iff_toInt_le, zI_int ha, zI_int hb]
theorem zK_0 : zK 0 := by unfold zK; omega
theorem zK_1 : zK 1 := by unfold zK; omega
theorem zI_0 : (0 : Int64) = zI 0 := by decide
theorem zI_1 : (1 : Int64) = zI 1 := by decide
theorem zI_div {a b : Int} (ha : zK a) (hb : zK b) : zI a / zI b = zI (a.tdiv b) := by
  have e1 : Int64.minValue.toInt = -9223372036854775808 := by decide
  have e2 : Int64.maxValue.toInt = 9223372036854775807 := by decide
  unfold zK at ha hb
  exact (Int64.ofInt_tdiv (by rw [e1]; omega) (by rw [e2]; omega) (by rw [e1]; omega) (by rw [e2]; omega)).symm
theorem zI_rem {a b : Int} (ha : zK a) (hb : zK b) : zI a - zI a / zI b * zI b = zI (a.tmod b) := by
  rw [zI_div ha hb, zI_mul, zI_sub, Int.tmod_def, Int.mul_comm b]
def nK (n : Nat) : Prop := n < 9223372036854775808
theorem nK.z {n : Nat} (h : nK n) : zK (n : Int) := by unfold nK at h; unfold zK; omega
theorem nK.mod {x y : Nat} (hx : nK x) : nK (x % y) := Nat.lt_of_le_of_lt (Nat.mod_le x y) hx
theorem zI_remN {x y : Nat} (hx : nK x) (hy : nK y) : zI (x : Int) - zI (x : Int) / zI (y : Int) * zI (y : Int) = zI ((x % y : Nat) : Int) := by
  rw [zI_rem hx.z hy.z, Int.ofNat_tmod]
theorem zI_ne0 {y : Nat} (hy : nK y) (h : ¬ y = 0) : ¬ zI (y : Int) = 0 := by
  rw [zI_0, zI_inj hy.z zK_0]; omega
theorem zc_eq0 {y : Nat} (hy : nK y) : lg_cmp (zI (y : Int)) 0 = 0 ↔ y = 0 := by
  rw [lg_cmp_eq, zI_0, zI_inj hy.z zK_0]; omega
theorem zI_abs {z : Int} (h : nK z.natAbs) : (if 0 < zI z then zI z else -zI z) = zI (z.natAbs : Int) := by
  unfold nK at h
  have hz : zK z := by unfold zK; omega
  by_cases c : 0 < z
  · rw [if_pos (by rw [zI_0]; exact (zI_lt zK_0 hz).mpr c), show (z.natAbs : Int) = z by omega]
  · rw [if_neg (by rw [zI_0]; exact mt (zI_lt zK_0 hz).mp c), zI_neg, show (z.natAbs : Int) = -z by omega]
/-! ===== Euclid ===== -/
/-- j steps are enough -/
def eu_ok : Nat → Nat → Nat → Prop
  | 0, _, y => y = 0
  | j + 1, x, y => y = 0 ∨ eu_ok j y (x % y)
theorem eu_step {j x y : Nat} (h : eu_ok (j + 1) x y) (hy : ¬ y = 0) : eu_ok j y (x % y) := h.elim (fun q => absurd q hy) id
theorem eu_gcd {x y : Nat} : Nat.gcd y (x % y) = Nat.gcd x y := by rw [Nat.gcd_comm x y, Nat.gcd_rec y x, Nat.gcd_comm]
theorem eu_0 {x y : Nat} (h : y = 0) : Nat.gcd x y = x := by rw [h, Nat.gcd_zero_right]
theorem eu_mono : ∀ (j : Nat) {x y : Nat}, eu_ok j x y → eu_ok (j + 1) x y
  | 0, _, _, h => Or.inl h
  | j + 1, _, _, h => h.elim Or.inl (fun q => Or.inr (eu_mono j q))
theorem eu_all : ∀ (m : Nat) {x y : Nat}, y < 2 ^ m → eu_ok (2 * m) x y
  | 0, _, y, h => by rw [Nat.pow_zero] at h; show y = 0; omega
  | m + 1, x, y, h => by
    show eu_ok (2 * m + 1 + 1) x y
    by_cases hy : y = 0
    · exact Or.inl hy
    · refine Or.inr ?_
      by_cases hr : x % y = 0
      · exact Or.inl hr
      · refine Or.inr (eu_all m ?_)
        have h1 := Nat.mod_lt x (Nat.pos_of_ne_zero hy)
        have h2 := Nat.mod_lt y (Nat.pos_of_ne_zero hr)
        have h3 : y % (x % y) ≤ y - (x % y) := by
          rw [Nat.mod_eq_sub_mod (Nat.le_of_lt h1)]
          exact Nat.mod_le _ _
        rw [Nat.pow_succ] at h
        omega
theorem eu_126 {x y : Nat} (h : nK y) : eu_ok 126 x y := eu_all 63 (by unfold nK at h; exact Nat.lt_of_lt_of_le h (by decide))
/-! ===== fractions: above the line, below it ===== -/
def fR_g (p : Int × Nat) : Nat := Nat.gcd p.1.natAbs p.2
/-- in least terms -/
def fR (p : Int × Nat) : Int × Nat := (p.1 / (fR_g p : Int), p.2 / fR_g p)
theorem fR_gpos {p : Int × Nat} (hp : 0 < p.2) : 0 < fR_g p := Nat.gcd_pos_of_pos_right _ hp
theorem fR_n (p : Int × Nat) : p.1 = (fR p).1 * (fR_g p : Int) := (Int.ediv_mul_cancel (Int.ofNat_dvd_left.mpr (Nat.gcd_dvd_left _ _))).symm
theorem fR_d (p : Int × Nat) : p.2 = (fR p).2 * fR_g p := (Nat.div_mul_cancel (Nat.gcd_dvd_right _ _)).symm
theorem fR_pos {p : Int × Nat} (hp : 0 < p.2) : 0 < (fR p).2 := Nat.pos_of_ne_zero (fun e => by have := fR_d p; rw [e, Nat.zero_mul] at this; omega)
theorem fR_le2 {p : Int × Nat} : (fR p).2 ≤ p.2 := Nat.div_le_self _ _
theorem fR_le1 {p : Int × Nat} (hp : 0 < p.2) : (fR p).1.natAbs ≤ p.1.natAbs := by
  have e := congrArg Int.natAbs (fR_n p)
  rw [Int.natAbs_mul, Int.natAbs_natCast] at e
  rw [e]
  exact Nat.le_mul_of_pos_right _ (fR_gpos hp)
theorem fR_one {p : Int × Nat} (h : fR_g p = 1) : fR p = p := by
  unfold fR
  rw [h]
  simp
theorem fR_mul {n : Int} {d k : Nat} (hk : 0 < k) : fR (n * (k : Int), d * k) = fR (n, d) := by
  have e : fR_g (n * (k : Int), d * k) = fR_g (n, d) * k := by
    unfold fR_g
    simp only
    rw [Int.natAbs_mul, Int.natAbs_natCast, Nat.gcd_mul_right]
  unfold fR
  rw [e]
  simp only
  have hk' : (0 : Int) < (k : Int) := by omega
  rw [Int.natCast_mul, Int.mul_ediv_mul_of_pos_left _ _ hk', Nat.mul_div_mul_right _ _ hk]
theorem fR_eq {p q : Int × Nat} (hp : 0 < p.2) (hq : 0 < q.2) (h : p.1 * (q.2 : Int) = q.1 * (p.2 : Int)) : fR p = fR q := by
  have e1 := fR_mul (n := p.1) (d := p.2) hq
  have e2 := fR_mul (n := q.1) (d := q.2) hp
  rw [h, Nat.mul_comm] at e1
  exact e1.symm.trans e2
def q_sub (p q : Int × Nat) : Int × Nat := (p.1 * (q.2 : Int) - q.1 * (p.2 : Int), p.2 * q.2)
def q_add (p q : Int × Nat) : Int × Nat := (p.1 * (q.2 : Int) + q.1 * (p.2 : Int), p.2 * q.2)
def q_mul (p q : Int × Nat) : Int × Nat := (p.1 * q.1, p.2 * q.2)
theorem fR_of {p q : Int × Nat} {k : Nat} (hk : 0 < k) (h1 : p.1 = q.1 * (k : Int)) (h2 : p.2 = q.2 * k) : fR p = fR q := by
  have e : p = (q.1 * (k : Int), q.2 * k) := Prod.ext h1 h2
  rw [e, fR_mul hk]
theorem fR_sub {p q : Int × Nat} (hp : 0 < p.2) (hq : 0 < q.2) : fR (q_sub (fR p) (fR q)) = fR (q_sub p q) := by
  refine (fR_of (k := fR_g p * fR_g q) (Nat.mul_pos (fR_gpos hp) (fR_gpos hq)) ?_ ?_).symm
  · show p.1 * (q.2 : Int) - q.1 * (p.2 : Int) = ((fR p).1 * ((fR q).2 : Int) - (fR q).1 * ((fR p).2 : Int)) * _
    have e1 := fR_n p
    have e2 : (p.2 : Int) = ((fR p).2 : Int) * (fR_g p : Int) := by rw [← Int.natCast_mul, ← fR_d p]
    have e3 := fR_n q
    have e4 : (q.2 : Int) = ((fR q).2 : Int) * (fR_g q : Int) := by rw [← Int.natCast_mul, ← fR_d q]
    rw [e2, e4, Int.natCast_mul, Int.sub_mul]
    conv => lhs; rw [e1, e3]
    congr 1 <;> ac_rfl
  · show p.2 * q.2 = (fR p).2 * (fR q).2 * _
    conv => lhs; rw [fR_d p, fR_d q]
    ac_rfl
theorem fR_add {p q : Int × Nat} (hp : 0 < p.2) (hq : 0 < q.2) : fR (q_add (fR p) (fR q)) = fR (q_add p q) := by
  refine (fR_of (k := fR_g p * fR_g q) (Nat.mul_pos (fR_gpos hp) (fR_gpos hq)) ?_ ?_).symm
  · show p.1 * (q.2 : Int) + q.1 * (p.2 : Int) = ((fR p).1 * ((fR q).2 : Int) + (fR q).1 * ((fR p).2 : Int)) * _
    have e1 := fR_n p
    have e2 : (p.2 : Int) = ((fR p).2 : Int) * (fR_g p : Int) := by rw [← Int.natCast_mul, ← fR_d p]
    have e3 := fR_n q
    have e4 : (q.2 : Int) = ((fR q).2 : Int) * (fR_g q : Int) := by rw [← Int.natCast_mul, ← fR_d q]
    rw [e2, e4, Int.natCast_mul, Int.add_mul]
    conv => lhs; rw [e1, e3]
    congr 1 <;> ac_rfl
  · show p.2 * q.2 = (fR p).2 * (fR q).2 * _
    conv => lhs; rw [fR_d p, fR_d q]
    ac_rfl
theorem fR_tim {p q : Int × Nat} (hp : 0 < p.2) (hq : 0 < q.2) : fR (q_mul (fR p) (fR q)) = fR (q_mul p q) := by
  refine (fR_of (k := fR_g p * fR_g q) (Nat.mul_pos (fR_gpos hp) (fR_gpos hq)) ?_ ?_).symm
  · show p.1 * q.1 = (fR p).1 * (fR q).1 * _
    have e1 := fR_n p
    have e3 := fR_n q
    rw [Int.natCast_mul]
    conv => lhs; rw [e1, e3]
    ac_rfl
  · show p.2 * q.2 = (fR p).2 * (fR q).2 * _
    conv => lhs; rw [fR_d p, fR_d q]
    ac_rfl
/-- its amount, m times, through v -/
def fA (m v : Nat) (p : Int × Nat) : Int × Nat := ((p.1.natAbs * m : Nat), p.2 * v)
theorem fR_fA {m v : Nat} {p : Int × Nat} (hp : 0 < p.2) : fR (fA m v (fR p)) = fR (fA m v p) := by
  refine (fR_of (k := fR_g p) (fR_gpos hp) ?_ ?_).symm
  · show ((p.1.natAbs * m : Nat) : Int) = (((fR p).1.natAbs * m : Nat) : Int) * _
    have e1 := congrArg Int.natAbs (fR_n p)
    rw [Int.natAbs_mul, Int.natAbs_natCast] at e1
    rw [← Int.natCast_mul]
    congr 1
    conv => lhs; rw [e1]
    ac_rfl
  · show p.2 * v = (fR p).2 * v * _
    conv => lhs; rw [fR_d p]
    ac_rfl
theorem fR_fA1 {m v m' v' : Nat} {p : Int × Nat} (hp : 0 < p.2) (hv : 0 < v) : fR (fA m' v' (fR (fA m v p))) = fR (fA (m * m') (v * v') p) := by
  rw [fR_fA (show 0 < (fA m v p).2 from Nat.mul_pos hp hv)]
  unfold fA
  simp only [Int.natAbs_natCast, Nat.mul_assoc]
/-! ===== how many twos ===== -/
def v2f : Nat → Nat → Nat
  | 0, _ => 0
  | f + 1, n => if n % 2 = 1 then 0 else v2f f (n / 2) + 1
def v2 (n : Nat) : Nat := v2f 64 n
theorem v2f_ok : ∀ (f n : Nat), 0 < n → n < 2 ^ f → ∃ m, n = 2 ^ v2f f n * m ∧ m % 2 = 1 ∧ v2f f n < f
  | 0, n, h0, h => by rw [Nat.pow_zero] at h; omega
  | f + 1, n, h0, h => by
    unfold v2f
    by_cases c : n % 2 = 1
    · rw [if_pos c]; exact ⟨n, by rw [Nat.pow_zero, Nat.one_mul], c, by omega⟩
    · rw [if_neg c]
      rw [Nat.pow_succ] at h
      obtain ⟨m, e, hm, hf⟩ := v2f_ok f (n / 2) (by omega) (by omega)
      refine ⟨m, ?_, hm, by omega⟩
      rw [Nat.pow_succ, Nat.mul_assoc, Nat.mul_comm 2 m, ← Nat.mul_assoc, ← e]
      omega
theorem v2_ok {n : Nat} (h0 : 0 < n) (h : nK n) : ∃ m, n = 2 ^ v2 n * m ∧ m % 2 = 1 ∧ v2 n < 64 := v2f_ok 64 n h0 (Nat.lt_trans h (by decide))
theorem v2_uni : ∀ (a b : Nat) {m k : Nat}, 2 ^ a * m = 2 ^ b * k → m % 2 = 1 → k % 2 = 1 → a = b
  | 0, 0, _, _, _, _, _ => rfl
  | 0, b + 1, m, k, h, h1, _ => by
    rw [Nat.pow_zero, Nat.one_mul, Nat.pow_succ, Nat.mul_comm (2 ^ b) 2, Nat.mul_assoc] at h
    omega
  | a + 1, 0, m, k, h, _, h2 => by
    rw [Nat.pow_zero, Nat.one_mul, Nat.pow_succ, Nat.mul_comm (2 ^ a) 2, Nat.mul_assoc] at h
    omega
  | a + 1, b + 1, m, k, h, h1, h2 => by
    rw [Nat.pow_succ, Nat.pow_succ, Nat.mul_comm (2 ^ a) 2, Nat.mul_comm (2 ^ b) 2, Nat.mul_assoc, Nat.mul_assoc] at h
    rw [v2_uni a b (m := m) (k := k) (by omega) h1 h2]
theorem v2_is {n a m : Nat} (h0 : 0 < n) (h : nK n) (e : n = 2 ^ a * m) (hm : m % 2 = 1) : v2 n = a := by
  obtain ⟨k, e1, hk, -⟩ := v2_ok h0 h
  exact v2_uni _ _ (e1.symm.trans e) hk hm
theorem v2_mul {x y : Nat} (hx : 0 < x) (hy : 0 < y) (hxy : nK (x * y)) : v2 (x * y) = v2 x + v2 y := by
  have h1 : nK x := Nat.lt_of_le_of_lt (Nat.le_mul_of_pos_right x hy) hxy
  have h2 : nK y := Nat.lt_of_le_of_lt (Nat.le_mul_of_pos_left y hx) hxy
  obtain ⟨m, e1, hm, -⟩ := v2_ok hx h1
  obtain ⟨k, e2, hk, -⟩ := v2_ok hy h2
  refine v2_is (m := m * k) (Nat.mul_pos hx hy) hxy ?_ ?_
  · conv => lhs; rw [e1, e2]
    rw [Nat.pow_add]
    ac_rfl
  · simp [Nat.mul_mod, hm, hk]
/-- the valuation of a fraction not below 0; of 0 it is 99 -/
def vQ (p : Int × Nat) : Int := if p.1 = 0 then 99 else (v2 p.1.natAbs : Int) - (v2 p.2 : Int)
theorem vQ_R {p : Int × Nat} (hp : 0 < p.2) (h1 : nK p.1.natAbs) (h2 : nK p.2) : vQ (fR p) = vQ p := by
  unfold vQ
  have hg := fR_gpos hp
  have e1 := congrArg Int.natAbs (fR_n p)
  rw [Int.natAbs_mul, Int.natAbs_natCast] at e1
  by_cases c : p.1 = 0
  · rw [if_pos c, if_pos (by
      have : (fR p).1.natAbs = 0 := by
        rw [c] at e1
        have e1 := e1.symm
        rw [Int.natAbs_zero] at e1
        rcases Nat.mul_eq_zero.mp e1 with q | q
        · exact q
        · omega
      omega)]
  · have c2 : ¬ (fR p).1 = 0 := fun q => by rw [q] at e1; simp at e1; exact c e1
    rw [if_neg c, if_neg c2]
    have p1 : 0 < (fR p).1.natAbs := by omega
    have p2 := fR_pos hp
    have a1 := v2_mul p1 hg (by rw [← e1]; exact h1)
    have e2 := fR_d p
    have a2 := v2_mul p2 hg (by rw [← e2]; exact h2)
    rw [← e1] at a1
    rw [← e2] at a2
    rw [a1, a2]
    omega
