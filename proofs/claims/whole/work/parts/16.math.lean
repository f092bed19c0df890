/-! ===== the rule, as numbers ===== -/
/-- the parts as naturals below 4 -/
def ab_rho (h : ab_H) (a : Nat) (ρ : Nat → Nat) : Prop := ∀ j, j < 16 → ab_i h a j = nI (ρ j) ∧ ρ j < 4
theorem ab_rho.fr {S : List Nat} {h h1 : ab_H} {a : Nat} {ρ : Nat → Nat} (f : ab_fr S h h1) (ha : a ∉ S) (H : ab_rho h a ρ) : ab_rho h1 a ρ := fun j hj => by rw [ab_i_fr f ha]; exact H j hj
/-- how many lie how behind the first n of the sixteen falls of one cut -/
def ab_cut (ρ : Nat → Nat) (L : Nat → Int64) : Nat → Nat → Int64
  | 0 => fun _ => 0
  | n + 1 => fun t => if t = ρ n then ab_cut ρ L n t + L (n / 4) else ab_cut ρ L n t
def ab_one (w : Nat) (t : Nat) : Int64 := if t = w then 1 else 0
theorem ab_cut_congr {ρ : Nat → Nat} {L L' : Nat → Int64} (h : ∀ t, t < 4 → L t = L' t) : ∀ n, n ≤ 16 → ab_cut ρ L n = ab_cut ρ L' n
  | 0, _ => rfl
  | n + 1, hn => by
    funext t
    show (if t = ρ n then ab_cut ρ L n t + L (n / 4) else ab_cut ρ L n t) = (if t = ρ n then ab_cut ρ L' n t + L' (n / 4) else ab_cut ρ L' n t)
    rw [ab_cut_congr h n (by omega), h (n / 4) (by omega)]
theorem ab_cut_step {ρ : Nat → Nat} {h1 : ab_H} {a b n w : Nat} {L : Nat → Int64} (hw : n / 4 = w) (hL : ab_l h1 a w = L w) (hn : ρ n < 4) (hl : ∀ t, t < 4 → ab_l h1 b t = ab_cut ρ L n t) : ∀ t, t < 4 → ab_l (ab_sl h1 b (ρ n) (ab_l h1 b (ρ n) + ab_l h1 a w)) b t = ab_cut ρ L (n + 1) t := by
  intro t ht
  rw [ab_l_sl, if_pos rfl, ab_up_at]
  show _ = if t = ρ n then ab_cut ρ L n t + L (n / 4) else ab_cut ρ L n t
  by_cases e : t = ρ n
  · rw [if_pos e, if_pos e, hl _ hn, hL, hw, e]
  · rw [if_neg e, if_neg e]; exact hl t ht
/-- the state of the lying ones behind n cuts -/
def ab_lies (ρ : Nat → Nat) (w : Nat) : Nat → Nat → Int64
  | 0 => ab_one w
  | n + 1 => ab_cut ρ (ab_lies ρ w n) 16
def ab_alike (L : Nat → Int64) : Bool := decide (L 0 = L 1) && (decide (L 1 = L 2) && decide (L 2 = L 3))
/-- the first of j more cuts, from the i-th on, behind which all lie alike often; -9 -/
def ab_fallsFrom (ρ : Nat → Nat) (w : Nat) : Nat → Nat → Int32
  | 0, _ => -9
  | j + 1, i => if ab_alike (ab_lies ρ w i) = true then nI i else ab_fallsFrom ρ w j (i + 1)
/-- the way at an address of n digits -/
def ab_way (ρ : Nat → Nat) : Nat → Nat → Nat → Nat
  | 0, t, _ => t
  | n + 1, t, a => ab_way ρ n (ρ (t * 4 + a % 4)) (a / 4)
theorem ab_and3 (a : Nat) : a &&& 3 = a % 4 := by rw [show (3 : Nat) = 2 ^ 2 - 1 from rfl, Nat.and_two_pow_sub_one_eq_mod]
theorem ab_shr2 (a : Nat) : a >>> 2 = a / 4 := by rw [Nat.shiftRight_eq_div_pow]
/-- the ways behind a set of ways (bits), the first n falls -/
def ab_wb (ρ : Nat → Nat) (s : Nat) : Nat → Nat
  | 0 => 0
  | n + 1 => if s >>> (n / 4) &&& 1 = 1 then ab_wb ρ s n ||| 1 <<< ρ n else ab_wb ρ s n
theorem ab_wb_lt {ρ : Nat → Nat} (hρ : ∀ j, j < 16 → ρ j < 4) (s : Nat) : ∀ n, n ≤ 16 → ab_wb ρ s n < 16
  | 0, _ => by show (0 : Nat) < 16; omega
  | n + 1, hn => by
    have h1 := ab_wb_lt hρ s n (by omega)
    have h2 := hρ n (by omega)
    unfold ab_wb
    split
    · refine Nat.or_lt_two_pow (n := 4) h1 ?_
      revert h2
      generalize ρ n = z
      revert z
      decide
    · exact h1
/-- the set behind n cuts -/
def ab_set (ρ : Nat → Nat) (w : Nat) : Nat → Nat
  | 0 => 1 <<< w
  | n + 1 => ab_wb ρ (ab_set ρ w n) 16
/-- all sets from the fourth to the n-th together -/
def ab_steady (ρ : Nat → Nat) (w : Nat) : Nat → Nat
  | 0 => 0
  | n + 1 => if 4 ≤ n + 1 then ab_steady ρ w n ||| ab_set ρ w (n + 1) else ab_steady ρ w n
theorem ab_set_lt {ρ : Nat → Nat} (hρ : ∀ j, j < 16 → ρ j < 4) {w : Nat} (hw : w < 4) : ∀ n, ab_set ρ w n < 16
  | 0 => by show 1 <<< w < 16; revert w; decide
  | n + 1 => ab_wb_lt hρ _ 16 (Nat.le_refl _)
theorem ab_steady_lt {ρ : Nat → Nat} (hρ : ∀ j, j < 16 → ρ j < 4) {w : Nat} (hw : w < 4) : ∀ n, ab_steady ρ w n < 16
  | 0 => by show (0 : Nat) < 16; omega
  | n + 1 => by
    unfold ab_steady
    split
    · exact Nat.or_lt_two_pow (n := 4) (ab_steady_lt hρ hw n) (ab_set_lt hρ hw (n + 1))
    · exact ab_steady_lt hρ hw n
/-- behind goes over unions -/
theorem ab_bit_or (a b i : Nat) : ((a ||| b) >>> i &&& 1 = 1) ↔ (a >>> i &&& 1 = 1 ∨ b >>> i &&& 1 = 1) := by
  rw [Nat.shiftRight_or_distrib, Nat.and_or_distrib_right]
  have h1 : a >>> i &&& 1 = 0 ∨ a >>> i &&& 1 = 1 := by rw [Nat.and_one_is_mod]; omega
  have h2 : b >>> i &&& 1 = 0 ∨ b >>> i &&& 1 = 1 := by rw [Nat.and_one_is_mod]; omega
  rcases h1 with h1 | h1 <;> rcases h2 with h2 | h2 <;> simp [h1, h2]
theorem ab_wb_or (ρ : Nat → Nat) (a b : Nat) : ∀ n, ab_wb ρ (a ||| b) n = ab_wb ρ a n ||| ab_wb ρ b n
  | 0 => (Nat.or_self 0).symm
  | n + 1 => by
    have ih := ab_wb_or ρ a b n
    unfold ab_wb
    rw [ih]
    by_cases ha : a >>> (n / 4) &&& 1 = 1 <;> by_cases hb : b >>> (n / 4) &&& 1 = 1
    · rw [if_pos ((ab_bit_or _ _ _).mpr (Or.inl ha)), if_pos ha, if_pos hb]
      apply Nat.eq_of_testBit_eq; intro i; simp only [Nat.testBit_or]
      cases (ab_wb ρ a n).testBit i <;> cases (ab_wb ρ b n).testBit i <;> cases (1 <<< ρ n).testBit i <;> rfl
    · rw [if_pos ((ab_bit_or _ _ _).mpr (Or.inl ha)), if_pos ha, if_neg hb]
      apply Nat.eq_of_testBit_eq; intro i; simp only [Nat.testBit_or]
      cases (ab_wb ρ a n).testBit i <;> cases (ab_wb ρ b n).testBit i <;> cases (1 <<< ρ n).testBit i <;> rfl
    · rw [if_pos ((ab_bit_or _ _ _).mpr (Or.inr hb)), if_neg ha, if_pos hb]
      apply Nat.eq_of_testBit_eq; intro i; simp only [Nat.testBit_or]
      cases (ab_wb ρ a n).testBit i <;> cases (ab_wb ρ b n).testBit i <;> cases (1 <<< ρ n).testBit i <;> rfl
    · rw [if_neg (fun q => ((ab_bit_or _ _ _).mp q).elim ha hb), if_neg ha, if_neg hb]
theorem ab_steady_step (ρ : Nat → Nat) (w : Nat) : ∀ n, ab_steady ρ w (n + 5) = ab_set ρ w 4 ||| ab_wb ρ (ab_steady ρ w (n + 4)) 16
  | 0 => by
    show ab_steady ρ w 4 ||| ab_set ρ w 5 = _
    have e4 : ab_steady ρ w 4 = ab_set ρ w 4 := by
      show (0 : Nat) ||| ab_set ρ w 4 = _
      simp
    show _ = ab_set ρ w 4 ||| ab_wb ρ (ab_steady ρ w 4) 16
    rw [e4]
    rfl
  | n + 1 => by
    have ih := ab_steady_step ρ w n
    have e5 : ab_steady ρ w (n + 1 + 5) = ab_steady ρ w (n + 5) ||| ab_set ρ w (n + 6) := by
      show (if 4 ≤ n + 5 + 1 then _ else _) = _
      rw [if_pos (by omega)]
    have e6 : ab_steady ρ w (n + 1 + 4) = ab_steady ρ w (n + 4) ||| ab_set ρ w (n + 5) := by
      show (if 4 ≤ n + 4 + 1 then _ else _) = _
      rw [if_pos (by omega)]
    have e7 : ab_wb ρ (ab_steady ρ w (n + 1 + 4)) 16 = ab_wb ρ (ab_steady ρ w (n + 4)) 16 ||| ab_set ρ w (n + 6) := by
      rw [e6, ab_wb_or]
      rfl
    rw [e5, ih, Nat.or_assoc, ← e7, ← ih]
def ab_pc (n : Nat) : Nat := n % 2 + n / 2 % 2 + n / 4 % 2 + n / 8 % 2
theorem ab_pc_lt : ∀ a, a < 16 → ∀ b, b < 16 → a ||| b = b → a ≠ b → ab_pc a < ab_pc b := by decide +kernel
theorem ab_pc_le : ∀ a, a < 16 → ab_pc a ≤ 4 := by decide +kernel
theorem ab_steady_up (ρ : Nat → Nat) (w n : Nat) : ab_steady ρ w (n + 4) ||| ab_steady ρ w (n + 5) = ab_steady ρ w (n + 5) := by
  have e6 : ab_steady ρ w (n + 5) = ab_steady ρ w (n + 4) ||| ab_set ρ w (n + 5) := by
    show (if 4 ≤ n + 4 + 1 then _ else _) = _
    rw [if_pos (by omega)]
  rw [e6, ← Nat.or_assoc, Nat.or_self]
/-- once it stands still it stays -/
theorem ab_steady_still {ρ : Nat → Nat} {w n : Nat} (h : ab_steady ρ w (n + 5) = ab_steady ρ w (n + 4)) : ∀ m, ab_steady ρ w (n + m + 4) = ab_steady ρ w (n + 4)
  | 0 => rfl
  | m + 1 => by
    have ih := ab_steady_still h m
    rw [show n + (m + 1) + 4 = (n + m) + 5 by omega, ab_steady_step, ih, ← ab_steady_step, h]
theorem ab_steady_15 {ρ : Nat → Nat} (hρ : ∀ j, j < 16 → ρ j < 4) {w : Nat} (hw : w < 4) : ab_steady ρ w 23 = ab_steady ρ w 15 := by
  have key : ∃ n, n ≤ 5 ∧ ab_steady ρ w (n + 5) = ab_steady ρ w (n + 4) := by
    refine Classical.byContradiction fun hne => ?_
    have h : ∀ n, n ≤ 5 → ab_pc (ab_steady ρ w (n + 4)) < ab_pc (ab_steady ρ w (n + 5)) := fun n hn =>
      ab_pc_lt _ (ab_steady_lt hρ hw _) _ (ab_steady_lt hρ hw _) (ab_steady_up ρ w n) (fun e => hne ⟨n, hn, e.symm⟩)
    have h0 := h 0 (by omega)
    have h1 := h 1 (by omega)
    have h2 := h 2 (by omega)
    have h3 := h 3 (by omega)
    have h4 := h 4 (by omega)
    have h5 := ab_pc_le _ (ab_steady_lt hρ hw (4 + 5))
    simp only [Nat.reduceAdd] at h0 h1 h2 h3 h4 h5
    omega
  obtain ⟨n, hn, e⟩ := key
  have a1 := ab_steady_still e (19 - n)
  have a2 := ab_steady_still e (11 - n)
  rw [show n + (19 - n) + 4 = 23 by omega] at a1
  rw [show n + (11 - n) + 4 = 15 by omega] at a2
  rw [a1, a2]
/-! lots -/
def ab_seed (z : Int32) : Int32 := z * 1664525 + 1013904223
def ab_dg (z : Int32) : Nat := (z &&& 2147483647).toNatClampNeg / 256 % 4
theorem ab_mask (z : Int32) : ∃ n, z &&& 2147483647 = nI n ∧ n < 2147483648 := by
  refine ab_of0 ?_
  rw [Int32.le_iff_toInt_le, Int32.toInt_zero, ← Int32.toInt_toBitVec, Int32.toBitVec_and]
  have h2 : (z.toBitVec &&& (2147483647 : Int32).toBitVec).msb = false := by
    rw [BitVec.msb_and]
    have : ((2147483647 : Int32).toBitVec).msb = false := by decide
    rw [this, Bool.and_false]
  rw [BitVec.toInt_eq_toNat_of_msb h2]
  omega
/-- n draws of one address: the way there, the seed behind -/
def ab_draw (sd : Int32 → Int32) (dg : Int32 → Nat) (ρ : Nat → Nat) : Nat → Nat → Int32 → Nat × Int32
  | 0, t, z => (t, z)
  | n + 1, t, z => ab_draw sd dg ρ n (ρ (t * 4 + dg (sd z))) (sd z)
/-- n lots of a way: how often way 0, all ways together -/
def ab_lots (sd : Int32 → Int32) (dg : Int32 → Nat) (ρ : Nat → Nat) (w : Nat) : Nat → Int32 → Nat × Nat
  | 0, _ => (0, 0)
  | n + 1, z => ((if (ab_draw sd dg ρ 8 w z).1 = 0 then 1 else 0) + (ab_lots sd dg ρ w n (ab_draw sd dg ρ 8 w z).2).1, (ab_draw sd dg ρ 8 w z).1 + (ab_lots sd dg ρ w n (ab_draw sd dg ρ 8 w z).2).2)
theorem ab_dg_lt (z : Int32) : ab_dg z < 4 := Nat.mod_lt _ (by omega)
theorem ab_draw_lt {sd : Int32 → Int32} {dg : Int32 → Nat} (hdg : ∀ z, dg z < 4) {ρ : Nat → Nat} (hρ : ∀ j, j < 16 → ρ j < 4) (n : Nat) : ∀ t z, t < 4 → (ab_draw sd dg ρ n t z).1 < 4 := by
  induction n with
  | zero => intro t z h; rw [ab_draw]; exact h
  | succ n ih =>
    intro t z h
    rw [ab_draw]
    refine ih _ _ (hρ _ ?_)
    have := hdg (sd z)
    omega
