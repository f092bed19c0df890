/-! ===== the class: Fraction, what it does ===== -/
theorem zI_qsub {p q : Int × Nat} : zI p.1 * zI (q.2 : Int) - zI q.1 * zI (p.2 : Int) = zI (q_sub p q).1 := by rw [zI_mul, zI_mul, zI_sub]; rfl
theorem zI_qadd {p q : Int × Nat} : zI p.1 * zI (q.2 : Int) + zI q.1 * zI (p.2 : Int) = zI (q_add p q).1 := by rw [zI_mul, zI_mul, zI_add]; rfl
theorem zI_bv (n : Nat) : (zI (n : Int)).toBitVec = BitVec.ofNat 64 n := by unfold zI; rw [Int64.ofInt_eq_ofNat]; rfl
theorem zI_63 {i : Nat} (hi : i < 64) : (nI i).toInt64 &&& 63 = zI (i : Int) := by
  revert hi
  revert i
  decide +kernel
theorem zI_shr {n i : Nat} (hn : nK n) (hi : i < 64) : zI (n : Int) >>> ((nI i).toInt64 &&& 63) = zI ((n / 2 ^ i : Nat) : Int) := by
  rw [zI_63 hi]
  apply Int64.toBitVec_inj.mp
  rw [Int64.toBitVec_shiftRight, zI_bv, zI_bv, zI_bv]
  have e : (BitVec.ofNat 64 i).smod 64 = BitVec.ofNat 64 i := by
    revert hi
    revert i
    decide +kernel
  rw [e]
  unfold nK at hn
  apply BitVec.eq_of_toNat_eq
  have h1 : (BitVec.ofNat 64 n).msb = false := by
    rw [BitVec.msb_eq_decide]
    simp
    omega
  rw [BitVec.sshiftRight_eq', BitVec.sshiftRight_eq_of_msb_false h1]
  have h2 : n / 2 ^ i ≤ n := Nat.div_le_self _ _
  simp [BitVec.toNat_ushiftRight, Nat.shiftRight_eq_div_pow, Nat.mod_eq_of_lt (show i < 18446744073709551616 by omega), Nat.mod_eq_of_lt (show n < 18446744073709551616 by omega), Nat.mod_eq_of_lt (show n / 2 ^ i < 18446744073709551616 by omega)]
theorem zI_and1 (m : Nat) : zI (m : Int) &&& 1 = zI ((m % 2 : Nat) : Int) := by
  apply Int64.toBitVec_inj.mp
  rw [Int64.toBitVec_and, zI_bv, zI_bv, show (1 : Int64).toBitVec = BitVec.ofNat 64 1 from rfl, ← BitVec.ofNat_and, Nat.and_one_is_mod]
theorem v2_bit {n i : Nat} (h0 : 0 < n) (h : nK n) (hi : i ≤ v2 n) : n / 2 ^ i % 2 = if i = v2 n then 1 else 0 := by
  obtain ⟨m, e, hm, -⟩ := v2_ok h0 h
  by_cases c : i = v2 n
  · rw [if_pos c, c]
    have e2 : n / 2 ^ v2 n = m := by
      have q := Nat.mul_div_cancel_left m (Nat.two_pow_pos (v2 n))
      rw [← e] at q
      exact q
    rw [e2]
    exact hm
  · rw [if_neg c]
    obtain ⟨d, hd⟩ : ∃ d, v2 n = i + (d + 1) := ⟨v2 n - i - 1, by omega⟩
    have e2 : n = 2 ^ i * (2 * (2 ^ d * m)) := by
      conv => lhs; rw [e, hd, Nat.pow_add, Nat.pow_succ]
      ac_rfl
    conv => lhs; rw [e2]
    rw [Nat.mul_div_cancel_left _ (Nat.two_pow_pos _)]
    omega
def iI (z : Int) : Int32 := Int32.ofInt z
theorem iI_nat (n : Nat) : nI n = iI (n : Int) := (Int32.ofInt_eq_ofNat).symm
theorem iI_sub (a b : Nat) : nI a - nI b = iI ((a : Int) - (b : Int)) := by rw [iI_nat, iI_nat]; exact (Int32.ofInt_sub _ _).symm

set_option maxRecDepth 100000 in
set_option maxHeartbeats 4000000 in
theorem c_fr_plus {k b r r2 : Nat} {h : ab_H} {P Q : Int × Nat} (hk : 3 ≤ k) (hb1 : 1 ≤ b) (hb : ab_bs h) (hA : fr_at h r P) (hB : fr_at h r2 Q) (hP : 0 < P.2) (hQ : 0 < Q.2) (hn : nK (q_add P Q).1.natAbs) (hd : nK (P.2 * Q.2)) : ab_M k b mX2_plus [.ref r, .ref r2] h (ab_pr (fun x h' => ab_gr [] [] h h' ∧ fr_at h' x (fR (q_add P Q)))) := by
  refine ab_enter ?_
  refine ab_aload_n dX2_plus_0 rfl ?_
  refine ab_getL dX2_plus_1 fl_X2_7 hA.2.2.1 hA.2.2.2.1 ?_
  refine ab_aload_n dX2_plus_4 rfl ?_
  refine ab_getL dX2_plus_5 fl_X2_13 hB.2.2.1 hB.2.2.2.2 ?_
  refine ab_lmul dX2_plus_8 ?_
  refine ab_aload_n dX2_plus_9 rfl ?_
  refine ab_getL dX2_plus_10 fl_X2_7 hB.2.2.1 hB.2.2.2.1 ?_
  refine ab_aload_n dX2_plus_13 rfl ?_
  refine ab_getL dX2_plus_14 fl_X2_13 hA.2.2.1 hA.2.2.2.2 ?_
  refine ab_lmul dX2_plus_17 ?_
  refine ab_ladd dX2_plus_18 ?_
  refine ab_topL zI_qadd ?_
  refine ab_aload_n dX2_plus_19 rfl ?_
  refine ab_getL dX2_plus_20 fl_X2_13 hA.2.2.1 hA.2.2.2.2 ?_
  refine ab_aload_n dX2_plus_23 rfl ?_
  refine ab_getL dX2_plus_24 fl_X2_13 hB.2.2.1 hB.2.2.2.2 ?_
  refine ab_lmul dX2_plus_27 ?_
  refine ab_topL (zI_mulN _ _) ?_
  refine ab_callSr [_, _] dX2_plus_28 ml_X2_29 mk_X2_inLeastTerms (c_least (p := q_add P Q) (k := 2) (b := 1) (Nat.le_refl _) (Nat.le_refl _) hb hn (Nat.mul_pos hP hQ) hd) (fun x h1 hq => ?_)
  refine ab_retr dX2_plus_31 ?_
  exact hq
set_option maxRecDepth 100000 in
set_option maxHeartbeats 4000000 in
theorem c_fr_minus {k b r r2 : Nat} {h : ab_H} {P Q : Int × Nat} (hk : 3 ≤ k) (hb1 : 1 ≤ b) (hb : ab_bs h) (hA : fr_at h r P) (hB : fr_at h r2 Q) (hP : 0 < P.2) (hQ : 0 < Q.2) (hn : nK (q_sub P Q).1.natAbs) (hd : nK (P.2 * Q.2)) : ab_M k b mX2_minus [.ref r, .ref r2] h (ab_pr (fun x h' => ab_gr [] [] h h' ∧ fr_at h' x (fR (q_sub P Q)))) := by
  refine ab_enter ?_
  refine ab_aload_n dX2_minus_0 rfl ?_
  refine ab_getL dX2_minus_1 fl_X2_7 hA.2.2.1 hA.2.2.2.1 ?_
  refine ab_aload_n dX2_minus_4 rfl ?_
  refine ab_getL dX2_minus_5 fl_X2_13 hB.2.2.1 hB.2.2.2.2 ?_
  refine ab_lmul dX2_minus_8 ?_
  refine ab_aload_n dX2_minus_9 rfl ?_
  refine ab_getL dX2_minus_10 fl_X2_7 hB.2.2.1 hB.2.2.2.1 ?_
  refine ab_aload_n dX2_minus_13 rfl ?_
  refine ab_getL dX2_minus_14 fl_X2_13 hA.2.2.1 hA.2.2.2.2 ?_
  refine ab_lmul dX2_minus_17 ?_
  refine ab_lsub dX2_minus_18 ?_
  refine ab_topL zI_qsub ?_
  refine ab_aload_n dX2_minus_19 rfl ?_
  refine ab_getL dX2_minus_20 fl_X2_13 hA.2.2.1 hA.2.2.2.2 ?_
  refine ab_aload_n dX2_minus_23 rfl ?_
  refine ab_getL dX2_minus_24 fl_X2_13 hB.2.2.1 hB.2.2.2.2 ?_
  refine ab_lmul dX2_minus_27 ?_
  refine ab_topL (zI_mulN _ _) ?_
  refine ab_callSr [_, _] dX2_minus_28 ml_X2_29 mk_X2_inLeastTerms (c_least (p := q_sub P Q) (k := 2) (b := 1) (Nat.le_refl _) (Nat.le_refl _) hb hn (Nat.mul_pos hP hQ) hd) (fun x h1 hq => ?_)
  refine ab_retr dX2_minus_31 ?_
  exact hq
set_option maxRecDepth 100000 in
set_option maxHeartbeats 4000000 in
theorem c_fr_times {k b r r2 : Nat} {h : ab_H} {P Q : Int × Nat} (hk : 3 ≤ k) (hb1 : 1 ≤ b) (hb : ab_bs h) (hA : fr_at h r P) (hB : fr_at h r2 Q) (hP : 0 < P.2) (hQ : 0 < Q.2) (hn : nK (q_mul P Q).1.natAbs) (hd : nK (P.2 * Q.2)) : ab_M k b mX2_times [.ref r, .ref r2] h (ab_pr (fun x h' => ab_gr [] [] h h' ∧ fr_at h' x (fR (q_mul P Q)))) := by
  refine ab_enter ?_
  refine ab_aload_n dX2_times_0 rfl ?_
  refine ab_getL dX2_times_1 fl_X2_7 hA.2.2.1 hA.2.2.2.1 ?_
  refine ab_aload_n dX2_times_4 rfl ?_
  refine ab_getL dX2_times_5 fl_X2_7 hB.2.2.1 hB.2.2.2.1 ?_
  refine ab_lmul dX2_times_8 ?_
  refine ab_topL (zI_mul _ _) ?_
  refine ab_aload_n dX2_times_9 rfl ?_
  refine ab_getL dX2_times_10 fl_X2_13 hA.2.2.1 hA.2.2.2.2 ?_
  refine ab_aload_n dX2_times_13 rfl ?_
  refine ab_getL dX2_times_14 fl_X2_13 hB.2.2.1 hB.2.2.2.2 ?_
  refine ab_lmul dX2_times_17 ?_
  refine ab_topL (zI_mulN _ _) ?_
  refine ab_callSr [_, _] dX2_times_18 ml_X2_29 mk_X2_inLeastTerms (c_least (p := q_mul P Q) (k := 2) (b := 1) (Nat.le_refl _) (Nat.le_refl _) hb hn (Nat.mul_pos hP hQ) hd) (fun x h1 hq => ?_)
  refine ab_retr dX2_times_21 ?_
  exact hq
set_option maxRecDepth 100000 in
set_option maxHeartbeats 4000000 in
theorem lp_twosIn {k b n : Nat} {h : ab_H} (h0 : 0 < n) (hn : nK n) : ∀ (j i : Nat), i + j = v2 n → ab_R k b mX2_twosIn 2 [some (.long (zI (n : Int))), none, some (.int (nI i))] [] h (ab_pn (fun v h' => h' = h ∧ v = v2 n)) := by
  intro j
  induction j with
  | zero =>
    intro i hi
    obtain ⟨-, -, -, h64⟩ := v2_ok h0 hn
    obtain rfl : i = v2 n := by omega
    have hbit := v2_bit h0 hn (Nat.le_refl _)
    rw [if_pos rfl] at hbit
    refine ab_iload_n dX2_twosIn_2 rfl ?_
    refine ab_bipush (v := nI 64) dX2_twosIn_3 (by decide) ?_
    refine ab_nicmp_ge 24 dX2_twosIn_5 (by decide) (by omega) (by omega) (fun c_5 => ?_) (fun c_5 => ?_)
    · skip
      exact absurd c_5 (by omega)
    · skip
      refine ab_lload_n dX2_twosIn_8 rfl ?_
      refine ab_iload_n dX2_twosIn_9 rfl ?_
      refine ab_lshr dX2_twosIn_10 ?_
      refine ab_lconst (v := 1) dX2_twosIn_11 (by decide) ?_
      refine ab_land dX2_twosIn_12 ?_
      refine ab_topL ((congrArg (fun z => z &&& (1 : Int64)) (zI_shr hn (by omega))).trans (zI_and1 _)) ?_
      refine ab_lconst (v := 0) dX2_twosIn_13 (by decide) ?_
      refine ab_lcmp dX2_twosIn_14 ?_
      refine ab_if_ne 24 dX2_twosIn_15 (by decide) (fun c_15 => ?_) (fun c_15 => ?_)
      · skip
        refine ab_iload_n dX2_twosIn_24 rfl ?_
        refine ab_retn dX2_twosIn_25 ?_
        exact ⟨rfl, rfl⟩
      · skip
        exact absurd ((zc_eq0 (by rw [hbit]; unfold nK; omega)).mp c_15) (by rw [hbit]; omega)
  | succ j ih =>
    intro i hi
    obtain ⟨-, -, -, h64⟩ := v2_ok h0 hn
    have hbit := v2_bit h0 hn (show i ≤ v2 n by omega)
    rw [if_neg (by omega)] at hbit
    refine ab_iload_n dX2_twosIn_2 rfl ?_
    refine ab_bipush (v := nI 64) dX2_twosIn_3 (by decide) ?_
    refine ab_nicmp_ge 24 dX2_twosIn_5 (by decide) (by omega) (by omega) (fun c_5 => ?_) (fun c_5 => ?_)
    · skip
      exact absurd c_5 (by omega)
    · skip
      refine ab_lload_n dX2_twosIn_8 rfl ?_
      refine ab_iload_n dX2_twosIn_9 rfl ?_
      refine ab_lshr dX2_twosIn_10 ?_
      refine ab_lconst (v := 1) dX2_twosIn_11 (by decide) ?_
      refine ab_land dX2_twosIn_12 ?_
      refine ab_topL ((congrArg (fun z => z &&& (1 : Int64)) (zI_shr hn (by omega))).trans (zI_and1 _)) ?_
      refine ab_lconst (v := 0) dX2_twosIn_13 (by decide) ?_
      refine ab_lcmp dX2_twosIn_14 ?_
      refine ab_if_ne 24 dX2_twosIn_15 (by decide) (fun c_15 => ?_) (fun c_15 => ?_)
      · skip
        exact absurd ((zc_eq0 (by rw [hbit]; unfold nK; omega)).mpr hbit) c_15
      · skip
        refine ab_nincR (ls' := [_, _, _]) dX2_twosIn_18 rfl rfl ?_
        refine ab_goto 2 dX2_twosIn_21 (by decide) ?_
        exact ih (i + 1) (by omega)
set_option maxRecDepth 100000 in
set_option maxHeartbeats 4000000 in
theorem c_twosIn {k b n : Nat} {h : ab_H} (h0 : 0 < n) (hn : nK n) : ab_M k b mX2_twosIn [.long (zI (n : Int))] h (ab_pn (fun v h' => h' = h ∧ v = v2 n)) := by
  refine ab_enter ?_
  refine ab_iconst (v := nI 0) dX2_twosIn_0 (by decide) ?_
  refine ab_sti_n (ls' := [_, _, _]) dX2_twosIn_1 (by decide) rfl ?_
  exact lp_twosIn h0 hn (v2 n) 0 (by omega)
set_option maxRecDepth 100000 in
set_option maxHeartbeats 4000000 in
theorem c_fr_val {k b r : Nat} {h : ab_H} {P : Int × Nat} (hk : 1 ≤ k) (hA : fr_at h r P) (h0 : 0 ≤ P.1) (hn : nK P.1.natAbs) (hp : 0 < P.2) (hd : nK P.2) : ab_M k b mX2_valuation [.ref r] h (ab_pi (fun v h' => h' = h ∧ v = iI (vQ P))) := by
  refine ab_enter ?_
  refine ab_aload_n dX2_valuation_0 rfl ?_
  refine ab_getL dX2_valuation_1 fl_X2_7 hA.2.2.1 hA.2.2.2.1 ?_
  refine ab_lconst (v := 0) dX2_valuation_4 (by decide) ?_
  refine ab_lcmp dX2_valuation_5 ?_
  refine ab_if_ne 14 dX2_valuation_6 (by decide) (fun c_6 => ?_) (fun c_6 => ?_)
  · replace c_6 : ¬ P.1 = 0 := fun q => c_6 (by rw [q, ← zI_0]; exact (lg_cmp_eq _ _).mpr rfl)
    refine ab_aload_n dX2_valuation_14 rfl ?_
    refine ab_getL dX2_valuation_15 fl_X2_7 hA.2.2.1 hA.2.2.2.1 ?_
    refine ab_topL (congrArg zI (show P.1 = ((P.1.natAbs : Nat) : Int) by omega)) ?_
    refine ab_callSn [_] dX2_valuation_18 ml_X2_33 mk_X2_twosIn (c_twosIn (k := 0) (b := 0) (by omega) hn) (fun x h1 hq => ?_)
    obtain ⟨hhe, rfl⟩ := hq
    rw [hhe]
    refine ab_aload_n dX2_valuation_21 rfl ?_
    refine ab_getL dX2_valuation_22 fl_X2_13 hA.2.2.1 hA.2.2.2.2 ?_
    refine ab_callSn [_] dX2_valuation_25 ml_X2_33 mk_X2_twosIn (c_twosIn (k := 0) (b := 0) hp hd) (fun x h1 hq => ?_)
    obtain ⟨hhe, rfl⟩ := hq
    rw [hhe]
    refine ab_isub dX2_valuation_28 ?_
    refine ab_reti dX2_valuation_29 ?_
    first | exact ⟨rfl, by unfold vQ; rw [if_pos c_6]; decide⟩ | exact ⟨rfl, by unfold vQ; rw [if_neg c_6]; exact iI_sub _ _⟩
  · replace c_6 : P.1 = 0 := (zI_inj (zK_abs hn) zK_0).mp ((lg_cmp_eq _ _).mp c_6)
    refine ab_bipush (v := nI 99) dX2_valuation_9 (by decide) ?_
    refine ab_goto 29 dX2_valuation_11 (by decide) ?_
    refine ab_reti dX2_valuation_29 ?_
    first | exact ⟨rfl, by unfold vQ; rw [if_pos c_6]; decide⟩ | exact ⟨rfl, by unfold vQ; rw [if_neg c_6]; exact iI_sub _ _⟩
set_option maxRecDepth 100000 in
set_option maxHeartbeats 4000000 in
theorem c_fr_told {k b r : Nat} {h : ab_H} {P : Int × Nat} {x : Int32} (hA : fr_at h r P) : ab_M k b mX2_told [.ref r, .int x] h (ab_pl (fun v h' => h' = h ∧ v = if x = 0 then zI P.1 else zI (P.2 : Int))) := by
  refine ab_enter ?_
  refine ab_iload_n dX2_told_0 rfl ?_
  refine ab_if_ne 11 dX2_told_1 (by decide) (fun c_1 => ?_) (fun c_1 => ?_)
  · skip
    refine ab_aload_n dX2_told_11 rfl ?_
    refine ab_getL dX2_told_12 fl_X2_13 hA.2.2.1 hA.2.2.2.2 ?_
    refine ab_retl dX2_told_15 ?_
    first | exact ⟨rfl, by rw [if_neg c_1]⟩ | exact ⟨rfl, by rw [if_pos c_1]⟩
  · skip
    refine ab_aload_n dX2_told_4 rfl ?_
    refine ab_getL dX2_told_5 fl_X2_7 hA.2.2.1 hA.2.2.2.1 ?_
    refine ab_goto 15 dX2_told_8 (by decide) ?_
    refine ab_retl dX2_told_15 ?_
    first | exact ⟨rfl, by rw [if_neg c_1]⟩ | exact ⟨rfl, by rw [if_pos c_1]⟩
set_option maxRecDepth 100000 in
set_option maxHeartbeats 4000000 in
theorem c_fr_above {k b r : Nat} {h : ab_H} {P : Int × Nat} {L : Int} (hA : fr_at h r P) (hL : zK L) (hn : nK P.1.natAbs) (hd : nK P.2) : ab_M k b mX2_isAbove [.ref r, .long (zI L)] h (ab_pb (fun t h' => h' = h ∧ t = decide (L < P.1 ∨ L < (P.2 : Int)))) := by
  refine ab_enter ?_
  refine ab_aload_n dX2_isAbove_0 rfl ?_
  refine ab_getL dX2_isAbove_1 fl_X2_7 hA.2.2.1 hA.2.2.2.1 ?_
  refine ab_lload_n dX2_isAbove_4 rfl ?_
  refine ab_lcmp dX2_isAbove_5 ?_
  refine ab_if_gt 18 dX2_isAbove_6 (by decide) (fun c_6 => ?_) (fun c_6 => ?_)
  · replace c_6 := (zI_lt hL (zK_abs hn)).mp ((lg_cmp_gt _ _).mp c_6)
    refine ab_iconst (v := nI 1) dX2_isAbove_18 (by decide) ?_
    refine ab_goto 23 dX2_isAbove_19 (by decide) ?_
    refine ab_retb (x := true) dX2_isAbove_23 ?_
    first | exact ⟨rfl, (decide_eq_true (Or.inl c_6)).symm⟩ | exact ⟨rfl, (decide_eq_true (Or.inr (Int.not_le.mp c_15))).symm⟩ | exact ⟨rfl, (decide_eq_false (by omega)).symm⟩
  · replace c_6 := mt (fun q => (lg_cmp_gt _ _).mpr ((zI_lt hL (zK_abs hn)).mpr q)) c_6
    refine ab_aload_n dX2_isAbove_9 rfl ?_
    refine ab_getL dX2_isAbove_10 fl_X2_13 hA.2.2.1 hA.2.2.2.2 ?_
    refine ab_lload_n dX2_isAbove_13 rfl ?_
    refine ab_lcmp dX2_isAbove_14 ?_
    refine ab_if_le 22 dX2_isAbove_15 (by decide) (fun c_15 => ?_) (fun c_15 => ?_)
    · replace c_15 := (zI_le hd.z hL).mp ((lg_cmp_le _ _).mp c_15)
      refine ab_iconst (v := nI 0) dX2_isAbove_22 (by decide) ?_
      refine ab_retb (x := false) dX2_isAbove_23 ?_
      first | exact ⟨rfl, (decide_eq_true (Or.inl c_6)).symm⟩ | exact ⟨rfl, (decide_eq_true (Or.inr (Int.not_le.mp c_15))).symm⟩ | exact ⟨rfl, (decide_eq_false (by omega)).symm⟩
    · replace c_15 := mt (fun q => (lg_cmp_le _ _).mpr ((zI_le hd.z hL).mpr q)) c_15
      refine ab_iconst (v := nI 1) dX2_isAbove_18 (by decide) ?_
      refine ab_goto 23 dX2_isAbove_19 (by decide) ?_
      refine ab_retb (x := true) dX2_isAbove_23 ?_
      first | exact ⟨rfl, (decide_eq_true (Or.inl c_6)).symm⟩ | exact ⟨rfl, (decide_eq_true (Or.inr (Int.not_le.mp c_15))).symm⟩ | exact ⟨rfl, (decide_eq_false (by omega)).symm⟩
set_option maxRecDepth 100000 in
set_option maxHeartbeats 4000000 in
theorem c_fr_equal {k b r r2 : Nat} {h : ab_H} {P Q : Int × Nat} (hA : fr_at h r P) (hB : fr_at h r2 Q) (hn : nK P.1.natAbs) (hd : nK P.2) (hn2 : nK Q.1.natAbs) (hd2 : nK Q.2) : ab_M k b mX2_equalTo [.ref r, .ref r2] h (ab_pb (fun t h' => h' = h ∧ t = decide (P = Q))) := by
  refine ab_enter ?_
  refine ab_aload_n dX2_equalTo_0 rfl ?_
  refine ab_getL dX2_equalTo_1 fl_X2_7 hA.2.2.1 hA.2.2.2.1 ?_
  refine ab_aload_n dX2_equalTo_4 rfl ?_
  refine ab_getL dX2_equalTo_5 fl_X2_7 hB.2.2.1 hB.2.2.2.1 ?_
  refine ab_lcmp dX2_equalTo_8 ?_
  refine ab_if_ne 28 dX2_equalTo_9 (by decide) (fun c_9 => ?_) (fun c_9 => ?_)
  · replace c_9 := mt (fun q : P.1 = Q.1 => (lg_cmp_eq _ _).mpr (congrArg zI q)) c_9
    refine ab_iconst (v := nI 0) dX2_equalTo_28 (by decide) ?_
    refine ab_retb (x := false) dX2_equalTo_29 ?_
    first | exact ⟨rfl, (decide_eq_false (fun q => c_9 (by rw [q]))).symm⟩ | exact ⟨rfl, (decide_eq_false (fun q => c_21 (by rw [q]))).symm⟩ | exact ⟨rfl, (decide_eq_true (Prod.ext c_9 (by omega))).symm⟩
  · replace c_9 := (zI_inj (zK_abs hn) (zK_abs hn2)).mp ((lg_cmp_eq _ _).mp c_9)
    refine ab_aload_n dX2_equalTo_12 rfl ?_
    refine ab_getL dX2_equalTo_13 fl_X2_13 hA.2.2.1 hA.2.2.2.2 ?_
    refine ab_aload_n dX2_equalTo_16 rfl ?_
    refine ab_getL dX2_equalTo_17 fl_X2_13 hB.2.2.1 hB.2.2.2.2 ?_
    refine ab_lcmp dX2_equalTo_20 ?_
    refine ab_if_ne 28 dX2_equalTo_21 (by decide) (fun c_21 => ?_) (fun c_21 => ?_)
    · replace c_21 := mt (fun q : (P.2 : Int) = (Q.2 : Int) => (lg_cmp_eq _ _).mpr (congrArg zI q)) c_21
      refine ab_iconst (v := nI 0) dX2_equalTo_28 (by decide) ?_
      refine ab_retb (x := false) dX2_equalTo_29 ?_
      first | exact ⟨rfl, (decide_eq_false (fun q => c_9 (by rw [q]))).symm⟩ | exact ⟨rfl, (decide_eq_false (fun q => c_21 (by rw [q]))).symm⟩ | exact ⟨rfl, (decide_eq_true (Prod.ext c_9 (by omega))).symm⟩
    · replace c_21 := (zI_inj hd.z hd2.z).mp ((lg_cmp_eq _ _).mp c_21)
      refine ab_iconst (v := nI 1) dX2_equalTo_24 (by decide) ?_
      refine ab_goto 29 dX2_equalTo_25 (by decide) ?_
      refine ab_retb (x := true) dX2_equalTo_29 ?_
      first | exact ⟨rfl, (decide_eq_false (fun q => c_9 (by rw [q]))).symm⟩ | exact ⟨rfl, (decide_eq_false (fun q => c_21 (by rw [q]))).symm⟩ | exact ⟨rfl, (decide_eq_true (Prod.ext c_9 (by omega))).symm⟩
def sp_f (P : Int × Nat) : UInt32 := FP.fdiv (FP.l2f (zI P.1)) (FP.l2f (zI (P.2 : Int)))
def sp_d (P : Int × Nat) : UInt64 := FP.ddiv (FP.l2d (zI P.1)) (FP.l2d (zI (P.2 : Int)))
set_option maxRecDepth 100000 in
set_option maxHeartbeats 4000000 in
theorem c_fr_float {k b r : Nat} {h : ab_H} {P : Int × Nat} (hA : fr_at h r P) (hne : vf_n32 (sp_f P)) : ab_M k b mX2_asFloat [.ref r] h (ab_pf (fun v h' => h' = h ∧ v = sp_f P)) := by
  refine ab_enter ?_
  refine ab_aload_n dX2_asFloat_0 rfl ?_
  refine ab_getL dX2_asFloat_1 fl_X2_7 hA.2.2.1 hA.2.2.2.1 ?_
  refine ab_l2f dX2_asFloat_4 ?_
  refine ab_aload_n dX2_asFloat_5 rfl ?_
  refine ab_getL dX2_asFloat_6 fl_X2_13 hA.2.2.1 hA.2.2.2.2 ?_
  refine ab_l2f dX2_asFloat_9 ?_
  refine ab_fdiv dX2_asFloat_10 hne ?_
  refine ab_retf dX2_asFloat_11 ?_
  exact ⟨rfl, rfl⟩
set_option maxRecDepth 100000 in
set_option maxHeartbeats 4000000 in
theorem c_fr_double {k b r : Nat} {h : ab_H} {P : Int × Nat} (hA : fr_at h r P) (hne : vf_n64 (sp_d P)) : ab_M k b mX2_asDouble [.ref r] h (ab_pd (fun v h' => h' = h ∧ v = sp_d P)) := by
  refine ab_enter ?_
  refine ab_aload_n dX2_asDouble_0 rfl ?_
  refine ab_getL dX2_asDouble_1 fl_X2_7 hA.2.2.1 hA.2.2.2.1 ?_
  refine ab_l2d dX2_asDouble_4 ?_
  refine ab_aload_n dX2_asDouble_5 rfl ?_
  refine ab_getL dX2_asDouble_6 fl_X2_13 hA.2.2.1 hA.2.2.2.2 ?_
  refine ab_l2d dX2_asDouble_9 ?_
  refine ab_ddiv dX2_asDouble_10 hne ?_
  refine ab_retd dX2_asDouble_11 ?_
  exact ⟨rfl, rfl⟩
