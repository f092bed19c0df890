/-! ===== the model: numbers ===== -/
theorem nz_bit {N k m i : Nat} (e : N = 2 ^ k * m) (hm : m % 2 = 1) : ((!N.testBit i) && (N - 1).testBit i) = decide (i < k) := by
  have h2 : 0 < 2 ^ k := Nat.two_pow_pos k
  have e1 : N = 2 ^ k * m + 0 := by omega
  have e2 : N - 1 = 2 ^ k * (m - 1) + (2 ^ k - 1) := by
    have : 2 ^ k * m = 2 ^ k * (m - 1) + 2 ^ k := by
      conv => lhs; rw [show m = (m - 1) + 1 by omega, Nat.mul_add, Nat.mul_one]
    omega
  rw [e2, Nat.testBit_two_pow_mul_add _ (by omega)]
  rw [e1, Nat.testBit_two_pow_mul_add _ h2]
  by_cases c : i < k
  · rw [if_pos c, if_pos c, Nat.zero_testBit, Nat.testBit_two_pow_sub_one]
    simp [c]
  · rw [if_neg c, if_neg c, decide_eq_false c]
    cases hj : i - k with
    | zero => simp [Nat.testBit_zero, hm]
    | succ j =>
      rw [Nat.testBit_add_one, Nat.testBit_add_one, show (m - 1) / 2 = m / 2 by omega]
      simp
theorem nz_low {N k m : Nat} (e : N = 2 ^ k * m) (hm : m % 2 = 1) : (nI N ^^^ (-1)) &&& (nI N - nI 1) = nI (2 ^ k - 1) := by
  have h2 : 0 < 2 ^ k := Nat.two_pow_pos k
  have h0 : 1 ≤ N := by rw [e]; exact Nat.mul_pos h2 (by omega)
  rw [ab_nsub h0]
  apply Int32.toBitVec_inj.mp
  rw [Int32.toBitVec_and, Int32.toBitVec_xor, ab_nbv, ab_nbv, ab_nbv, show (-1 : Int32).toBitVec = BitVec.allOnes 32 from rfl]
  apply BitVec.eq_of_getLsbD_eq
  intro i hi
  rw [BitVec.getLsbD_and, BitVec.getLsbD_xor, BitVec.getLsbD_ofNat, BitVec.getLsbD_ofNat, BitVec.getLsbD_ofNat, BitVec.getLsbD_allOnes]
  have q := nz_bit (i := i) e hm
  rw [Nat.testBit_two_pow_sub_one]
  simp only [hi, decide_true, Bool.true_and, Bool.xor_true]
  exact q
theorem zI_to32 (n : Nat) : (zI (n : Int)).toInt32 = nI n := by
  unfold zI
  rw [Int64.toInt32_ofInt]
  exact Int32.ofInt_eq_ofNat
theorem nI_mod (n : Nat) : nI n = nI (n % 4294967296) := by
  apply Int32.toBitVec_inj.mp
  rw [ab_nbv, ab_nbv]
  apply BitVec.eq_of_toNat_eq
  simp
theorem zI_up32 {n : Nat} (hn : nK n) : (((zI (n : Int)).toUInt64 >>> ((nI 32).toInt64.toUInt64 &&& 63)).toInt64).toInt32 = nI (n / 4294967296) := by
  rw [← zI_to32 (n / 4294967296)]
  refine congrArg Int64.toInt32 ?_
  apply Int64.toBitVec_inj.mp
  rw [zI_bv, UInt64.toBitVec_toInt64, UInt64.toBitVec_shiftRight, Int64.toBitVec_toUInt64, zI_bv, show ((nI 32).toInt64.toUInt64 &&& 63).toBitVec % 64 = 32#64 by decide]
  unfold nK at hn
  apply BitVec.eq_of_toNat_eq
  have h2 : n / 4294967296 ≤ n := Nat.div_le_self _ _
  simp [Nat.shiftRight_eq_div_pow, Nat.mod_eq_of_lt (show n < 18446744073709551616 by omega), Nat.mod_eq_of_lt (show n / 4294967296 < 18446744073709551616 by omega)]
theorem v2_split {n : Nat} (h0 : 0 < n) (hn : nK n) : (n % 4294967296 = 0 → ∃ m, n / 4294967296 = 2 ^ (v2 n - 32) * m ∧ m % 2 = 1 ∧ 32 ≤ v2 n ∧ v2 n < 64) ∧ (¬ n % 4294967296 = 0 → ∃ m, n % 4294967296 = 2 ^ v2 n * m ∧ m % 2 = 1 ∧ v2 n < 32) := by
  obtain ⟨m, e, hm, h64⟩ := v2_ok h0 hn
  have e32 : (4294967296 : Nat) = 2 ^ 32 := by decide
  constructor
  · intro h
    have hge : 32 ≤ v2 n := by
      rcases Nat.lt_or_ge (v2 n) 32 with q | q
      · exfalso
        obtain ⟨d, hd⟩ : ∃ d, 32 = v2 n + (d + 1) := ⟨32 - v2 n - 1, by omega⟩
        have hq : n = 4294967296 * (n / 4294967296) := by omega
        rw [e32, hd, Nat.pow_add, Nat.pow_succ, Nat.mul_assoc, Nat.mul_assoc] at hq
        have hq2 : 2 ^ v2 n * m = 2 ^ v2 n * (2 ^ d * (2 * (n / (2 ^ v2 n * (2 ^ d * 2))))) := by rw [← e]; exact hq
        have hq3 := Nat.eq_of_mul_eq_mul_left (Nat.two_pow_pos _) hq2
        have hq4 : m = 2 * (2 ^ d * (n / (2 ^ v2 n * (2 ^ d * 2)))) := by rw [hq3]; ac_rfl
        omega
      · exact q
    refine ⟨m, ?_, hm, hge, h64⟩
    obtain ⟨d, hd⟩ : ∃ d, v2 n = 32 + d := ⟨v2 n - 32, by omega⟩
    rw [show v2 n - 32 = d by omega]
    rw [hd, Nat.pow_add, Nat.mul_assoc] at e
    conv => lhs; rw [e, e32]
    exact Nat.mul_div_cancel_left _ (by decide)
  · intro h
    have hlt : v2 n < 32 := by
      rcases Nat.lt_or_ge (v2 n) 32 with q | q
      · exact q
      · exfalso
        obtain ⟨d, hd⟩ : ∃ d, v2 n = 32 + d := ⟨v2 n - 32, by omega⟩
        rw [hd, Nat.pow_add, Nat.mul_assoc] at e
        apply h
        rw [e, e32]
        exact Nat.mul_mod_right _ _
    obtain ⟨d, hd⟩ : ∃ d, 32 = v2 n + (d + 1) := ⟨32 - v2 n - 1, by omega⟩
    have hpw : (4294967296 : Nat) = 2 ^ v2 n * (2 * 2 ^ d) := by rw [e32]; conv => lhs; rw [hd, Nat.pow_add, Nat.pow_succ, Nat.mul_comm (2 ^ d) 2]
    refine ⟨m % (2 * 2 ^ d), ?_, ?_, hlt⟩
    · conv => lhs; rw [e, hpw]
      exact Nat.mul_mod_mul_left _ _ _
    · rw [Nat.mod_mul_right_mod]
      exact hm
set_option maxRecDepth 100000 in
set_option maxHeartbeats 4000000 in
theorem m_ntz32 {k' b N k m : Nat} {h : ab_H} (hk : k < 32) (e : N = 2 ^ k * m) (hm : m % 2 = 1) : ab_M k' b mJ6_numberOfTrailingZeros_0f7a4 [.int (nI N)] h (ab_pi (fun v h' => h' = h ∧ v = nI k)) := by
  refine ab_enter ?_
  refine ab_iload_n dJ6_numberOfTrailingZeros_0f7a4_0 rfl ?_
  refine ab_iconst (v := -1) dJ6_numberOfTrailingZeros_0f7a4_1 (by decide) ?_
  refine ab_ixor dJ6_numberOfTrailingZeros_0f7a4_2 ?_
  refine ab_iload_n dJ6_numberOfTrailingZeros_0f7a4_3 rfl ?_
  refine ab_iconst (v := nI 1) dJ6_numberOfTrailingZeros_0f7a4_4 (by decide) ?_
  refine ab_isub dJ6_numberOfTrailingZeros_0f7a4_5 ?_
  refine ab_iand dJ6_numberOfTrailingZeros_0f7a4_6 ?_
  refine ab_topI (nz_low e hm) ?_
  refine ab_sti_n (ls' := [_, _]) dJ6_numberOfTrailingZeros_0f7a4_7 (by decide) rfl ?_
  refine ab_iload_n dJ6_numberOfTrailingZeros_0f7a4_8 rfl ?_
  refine ab_if_gt 17 dJ6_numberOfTrailingZeros_0f7a4_9 (by decide) (fun c_9 => ?_) (fun c_9 => ?_)
  · skip
    refine ab_iconst (v := nI 1) dJ6_numberOfTrailingZeros_0f7a4_17 (by decide) ?_
    refine ab_sti_n (ls' := [_, _]) dJ6_numberOfTrailingZeros_0f7a4_18 (by decide) rfl ?_
    refine ab_iload_n dJ6_numberOfTrailingZeros_0f7a4_19 rfl ?_
    refine ab_ldcw dJ6_numberOfTrailingZeros_0f7a4_20 kc_J6_264 ?_
    refine ab_icmp_le 34 dJ6_numberOfTrailingZeros_0f7a4_23 (by decide) (fun c_23 => ?_) (fun c_23 => ?_)
    · skip
      refine ab_iload_n dJ6_numberOfTrailingZeros_0f7a4_34 rfl ?_
      refine ab_sipush (v := nI 256) dJ6_numberOfTrailingZeros_0f7a4_35 (by decide) ?_
      refine ab_icmp_le 49 dJ6_numberOfTrailingZeros_0f7a4_38 (by decide) (fun c_38 => ?_) (fun c_38 => ?_)
      · skip
        refine ab_iload_n dJ6_numberOfTrailingZeros_0f7a4_49 rfl ?_
        refine ab_bipush (v := nI 16) dJ6_numberOfTrailingZeros_0f7a4_50 (by decide) ?_
        refine ab_icmp_le 62 dJ6_numberOfTrailingZeros_0f7a4_52 (by decide) (fun c_52 => ?_) (fun c_52 => ?_)
        · skip
          refine ab_iload_n dJ6_numberOfTrailingZeros_0f7a4_62 rfl ?_
          refine ab_iconst (v := nI 4) dJ6_numberOfTrailingZeros_0f7a4_63 (by decide) ?_
          refine ab_icmp_le 74 dJ6_numberOfTrailingZeros_0f7a4_64 (by decide) (fun c_64 => ?_) (fun c_64 => ?_)
          · skip
            refine ab_iload_n dJ6_numberOfTrailingZeros_0f7a4_74 rfl ?_
            refine ab_iload_n dJ6_numberOfTrailingZeros_0f7a4_75 rfl ?_
            refine ab_iconst (v := nI 1) dJ6_numberOfTrailingZeros_0f7a4_76 (by decide) ?_
            refine ab_iushr dJ6_numberOfTrailingZeros_0f7a4_77 ?_
            refine ab_iadd dJ6_numberOfTrailingZeros_0f7a4_78 ?_
            refine ab_reti dJ6_numberOfTrailingZeros_0f7a4_79 ?_
            exact ⟨rfl, by clear e hm; have H := And.intro c_9 (And.intro c_23 (And.intro c_38 (And.intro c_52 c_64))); clear c_9 c_23 c_38 c_52 c_64; revert H; revert hk; revert k; decide +kernel⟩
          · skip
            refine ab_iinc' (ls' := [_, _]) dJ6_numberOfTrailingZeros_0f7a4_67 rfl rfl rfl ?_
            refine ab_iload_n dJ6_numberOfTrailingZeros_0f7a4_70 rfl ?_
            refine ab_iconst (v := nI 2) dJ6_numberOfTrailingZeros_0f7a4_71 (by decide) ?_
            refine ab_iushr dJ6_numberOfTrailingZeros_0f7a4_72 ?_
            refine ab_sti_n (ls' := [_, _]) dJ6_numberOfTrailingZeros_0f7a4_73 (by decide) rfl ?_
            refine ab_iload_n dJ6_numberOfTrailingZeros_0f7a4_74 rfl ?_
            refine ab_iload_n dJ6_numberOfTrailingZeros_0f7a4_75 rfl ?_
            refine ab_iconst (v := nI 1) dJ6_numberOfTrailingZeros_0f7a4_76 (by decide) ?_
            refine ab_iushr dJ6_numberOfTrailingZeros_0f7a4_77 ?_
            refine ab_iadd dJ6_numberOfTrailingZeros_0f7a4_78 ?_
            refine ab_reti dJ6_numberOfTrailingZeros_0f7a4_79 ?_
            exact ⟨rfl, by clear e hm; have H := And.intro c_9 (And.intro c_23 (And.intro c_38 (And.intro c_52 c_64))); clear c_9 c_23 c_38 c_52 c_64; revert H; revert hk; revert k; decide +kernel⟩
        · skip
          refine ab_iinc' (ls' := [_, _]) dJ6_numberOfTrailingZeros_0f7a4_55 rfl rfl rfl ?_
          refine ab_iload_n dJ6_numberOfTrailingZeros_0f7a4_58 rfl ?_
          refine ab_iconst (v := nI 4) dJ6_numberOfTrailingZeros_0f7a4_59 (by decide) ?_
          refine ab_iushr dJ6_numberOfTrailingZeros_0f7a4_60 ?_
          refine ab_sti_n (ls' := [_, _]) dJ6_numberOfTrailingZeros_0f7a4_61 (by decide) rfl ?_
          refine ab_iload_n dJ6_numberOfTrailingZeros_0f7a4_62 rfl ?_
          refine ab_iconst (v := nI 4) dJ6_numberOfTrailingZeros_0f7a4_63 (by decide) ?_
          refine ab_icmp_le 74 dJ6_numberOfTrailingZeros_0f7a4_64 (by decide) (fun c_64 => ?_) (fun c_64 => ?_)
          · skip
            refine ab_iload_n dJ6_numberOfTrailingZeros_0f7a4_74 rfl ?_
            refine ab_iload_n dJ6_numberOfTrailingZeros_0f7a4_75 rfl ?_
            refine ab_iconst (v := nI 1) dJ6_numberOfTrailingZeros_0f7a4_76 (by decide) ?_
            refine ab_iushr dJ6_numberOfTrailingZeros_0f7a4_77 ?_
            refine ab_iadd dJ6_numberOfTrailingZeros_0f7a4_78 ?_
            refine ab_reti dJ6_numberOfTrailingZeros_0f7a4_79 ?_
            exact ⟨rfl, by clear e hm; have H := And.intro c_9 (And.intro c_23 (And.intro c_38 (And.intro c_52 c_64))); clear c_9 c_23 c_38 c_52 c_64; revert H; revert hk; revert k; decide +kernel⟩
          · skip
            refine ab_iinc' (ls' := [_, _]) dJ6_numberOfTrailingZeros_0f7a4_67 rfl rfl rfl ?_
            refine ab_iload_n dJ6_numberOfTrailingZeros_0f7a4_70 rfl ?_
            refine ab_iconst (v := nI 2) dJ6_numberOfTrailingZeros_0f7a4_71 (by decide) ?_
            refine ab_iushr dJ6_numberOfTrailingZeros_0f7a4_72 ?_
            refine ab_sti_n (ls' := [_, _]) dJ6_numberOfTrailingZeros_0f7a4_73 (by decide) rfl ?_
            refine ab_iload_n dJ6_numberOfTrailingZeros_0f7a4_74 rfl ?_
            refine ab_iload_n dJ6_numberOfTrailingZeros_0f7a4_75 rfl ?_
            refine ab_iconst (v := nI 1) dJ6_numberOfTrailingZeros_0f7a4_76 (by decide) ?_
            refine ab_iushr dJ6_numberOfTrailingZeros_0f7a4_77 ?_
            refine ab_iadd dJ6_numberOfTrailingZeros_0f7a4_78 ?_
            refine ab_reti dJ6_numberOfTrailingZeros_0f7a4_79 ?_
            exact ⟨rfl, by clear e hm; have H := And.intro c_9 (And.intro c_23 (And.intro c_38 (And.intro c_52 c_64))); clear c_9 c_23 c_38 c_52 c_64; revert H; revert hk; revert k; decide +kernel⟩
      · skip
        refine ab_iinc' (ls' := [_, _]) dJ6_numberOfTrailingZeros_0f7a4_41 rfl rfl rfl ?_
        refine ab_iload_n dJ6_numberOfTrailingZeros_0f7a4_44 rfl ?_
        refine ab_bipush (v := nI 8) dJ6_numberOfTrailingZeros_0f7a4_45 (by decide) ?_
        refine ab_iushr dJ6_numberOfTrailingZeros_0f7a4_47 ?_
        refine ab_sti_n (ls' := [_, _]) dJ6_numberOfTrailingZeros_0f7a4_48 (by decide) rfl ?_
        refine ab_iload_n dJ6_numberOfTrailingZeros_0f7a4_49 rfl ?_
        refine ab_bipush (v := nI 16) dJ6_numberOfTrailingZeros_0f7a4_50 (by decide) ?_
        refine ab_icmp_le 62 dJ6_numberOfTrailingZeros_0f7a4_52 (by decide) (fun c_52 => ?_) (fun c_52 => ?_)
        · skip
          refine ab_iload_n dJ6_numberOfTrailingZeros_0f7a4_62 rfl ?_
          refine ab_iconst (v := nI 4) dJ6_numberOfTrailingZeros_0f7a4_63 (by decide) ?_
          refine ab_icmp_le 74 dJ6_numberOfTrailingZeros_0f7a4_64 (by decide) (fun c_64 => ?_) (fun c_64 => ?_)
          · skip
            refine ab_iload_n dJ6_numberOfTrailingZeros_0f7a4_74 rfl ?_
            refine ab_iload_n dJ6_numberOfTrailingZeros_0f7a4_75 rfl ?_
            refine ab_iconst (v := nI 1) dJ6_numberOfTrailingZeros_0f7a4_76 (by decide) ?_
            refine ab_iushr dJ6_numberOfTrailingZeros_0f7a4_77 ?_
            refine ab_iadd dJ6_numberOfTrailingZeros_0f7a4_78 ?_
            refine ab_reti dJ6_numberOfTrailingZeros_0f7a4_79 ?_
            exact ⟨rfl, by clear e hm; have H := And.intro c_9 (And.intro c_23 (And.intro c_38 (And.intro c_52 c_64))); clear c_9 c_23 c_38 c_52 c_64; revert H; revert hk; revert k; decide +kernel⟩
          · skip
            refine ab_iinc' (ls' := [_, _]) dJ6_numberOfTrailingZeros_0f7a4_67 rfl rfl rfl ?_
            refine ab_iload_n dJ6_numberOfTrailingZeros_0f7a4_70 rfl ?_
            refine ab_iconst (v := nI 2) dJ6_numberOfTrailingZeros_0f7a4_71 (by decide) ?_
            refine ab_iushr dJ6_numberOfTrailingZeros_0f7a4_72 ?_
            refine ab_sti_n (ls' := [_, _]) dJ6_numberOfTrailingZeros_0f7a4_73 (by decide) rfl ?_
            refine ab_iload_n dJ6_numberOfTrailingZeros_0f7a4_74 rfl ?_
            refine ab_iload_n dJ6_numberOfTrailingZeros_0f7a4_75 rfl ?_
            refine ab_iconst (v := nI 1) dJ6_numberOfTrailingZeros_0f7a4_76 (by decide) ?_
            refine ab_iushr dJ6_numberOfTrailingZeros_0f7a4_77 ?_
            refine ab_iadd dJ6_numberOfTrailingZeros_0f7a4_78 ?_
            refine ab_reti dJ6_numberOfTrailingZeros_0f7a4_79 ?_
            exact ⟨rfl, by clear e hm; have H := And.intro c_9 (And.intro c_23 (And.intro c_38 (And.intro c_52 c_64))); clear c_9 c_23 c_38 c_52 c_64; revert H; revert hk; revert k; decide +kernel⟩
        · skip
          refine ab_iinc' (ls' := [_, _]) dJ6_numberOfTrailingZeros_0f7a4_55 rfl rfl rfl ?_
          refine ab_iload_n dJ6_numberOfTrailingZeros_0f7a4_58 rfl ?_
          refine ab_iconst (v := nI 4) dJ6_numberOfTrailingZeros_0f7a4_59 (by decide) ?_
          refine ab_iushr dJ6_numberOfTrailingZeros_0f7a4_60 ?_
          refine ab_sti_n (ls' := [_, _]) dJ6_numberOfTrailingZeros_0f7a4_61 (by decide) rfl ?_
          refine ab_iload_n dJ6_numberOfTrailingZeros_0f7a4_62 rfl ?_
          refine ab_iconst (v := nI 4) dJ6_numberOfTrailingZeros_0f7a4_63 (by decide) ?_
          refine ab_icmp_le 74 dJ6_numberOfTrailingZeros_0f7a4_64 (by decide) (fun c_64 => ?_) (fun c_64 => ?_)
          · skip
            refine ab_iload_n dJ6_numberOfTrailingZeros_0f7a4_74 rfl ?_
            refine ab_iload_n dJ6_numberOfTrailingZeros_0f7a4_75 rfl ?_
            refine ab_iconst (v := nI 1) dJ6_numberOfTrailingZeros_0f7a4_76 (by decide) ?_
            refine ab_iushr dJ6_numberOfTrailingZeros_0f7a4_77 ?_
            refine ab_iadd dJ6_numberOfTrailingZeros_0f7a4_78 ?_
            refine ab_reti dJ6_numberOfTrailingZeros_0f7a4_79 ?_
            exact ⟨rfl, by clear e hm; have H := And.intro c_9 (And.intro c_23 (And.intro c_38 (And.intro c_52 c_64))); clear c_9 c_23 c_38 c_52 c_64; revert H; revert hk; revert k; decide +kernel⟩
          · skip
            refine ab_iinc' (ls' := [_, _]) dJ6_numberOfTrailingZeros_0f7a4_67 rfl rfl rfl ?_
            refine ab_iload_n dJ6_numberOfTrailingZeros_0f7a4_70 rfl ?_
            refine ab_iconst (v := nI 2) dJ6_numberOfTrailingZeros_0f7a4_71 (by decide) ?_
            refine ab_iushr dJ6_numberOfTrailingZeros_0f7a4_72 ?_
            refine ab_sti_n (ls' := [_, _]) dJ6_numberOfTrailingZeros_0f7a4_73 (by decide) rfl ?_
            refine ab_iload_n dJ6_numberOfTrailingZeros_0f7a4_74 rfl ?_
            refine ab_iload_n dJ6_numberOfTrailingZeros_0f7a4_75 rfl ?_
            refine ab_iconst (v := nI 1) dJ6_numberOfTrailingZeros_0f7a4_76 (by decide) ?_
            refine ab_iushr dJ6_numberOfTrailingZeros_0f7a4_77 ?_
            refine ab_iadd dJ6_numberOfTrailingZeros_0f7a4_78 ?_
            refine ab_reti dJ6_numberOfTrailingZeros_0f7a4_79 ?_
            exact ⟨rfl, by clear e hm; have H := And.intro c_9 (And.intro c_23 (And.intro c_38 (And.intro c_52 c_64))); clear c_9 c_23 c_38 c_52 c_64; revert H; revert hk; revert k; decide +kernel⟩
    · skip
      refine ab_iinc' (ls' := [_, _]) dJ6_numberOfTrailingZeros_0f7a4_26 rfl rfl rfl ?_
      refine ab_iload_n dJ6_numberOfTrailingZeros_0f7a4_29 rfl ?_
      refine ab_bipush (v := nI 16) dJ6_numberOfTrailingZeros_0f7a4_30 (by decide) ?_
      refine ab_iushr dJ6_numberOfTrailingZeros_0f7a4_32 ?_
      refine ab_sti_n (ls' := [_, _]) dJ6_numberOfTrailingZeros_0f7a4_33 (by decide) rfl ?_
      refine ab_iload_n dJ6_numberOfTrailingZeros_0f7a4_34 rfl ?_
      refine ab_sipush (v := nI 256) dJ6_numberOfTrailingZeros_0f7a4_35 (by decide) ?_
      refine ab_icmp_le 49 dJ6_numberOfTrailingZeros_0f7a4_38 (by decide) (fun c_38 => ?_) (fun c_38 => ?_)
      · skip
        refine ab_iload_n dJ6_numberOfTrailingZeros_0f7a4_49 rfl ?_
        refine ab_bipush (v := nI 16) dJ6_numberOfTrailingZeros_0f7a4_50 (by decide) ?_
        refine ab_icmp_le 62 dJ6_numberOfTrailingZeros_0f7a4_52 (by decide) (fun c_52 => ?_) (fun c_52 => ?_)
        · skip
          refine ab_iload_n dJ6_numberOfTrailingZeros_0f7a4_62 rfl ?_
          refine ab_iconst (v := nI 4) dJ6_numberOfTrailingZeros_0f7a4_63 (by decide) ?_
          refine ab_icmp_le 74 dJ6_numberOfTrailingZeros_0f7a4_64 (by decide) (fun c_64 => ?_) (fun c_64 => ?_)
          · skip
            refine ab_iload_n dJ6_numberOfTrailingZeros_0f7a4_74 rfl ?_
            refine ab_iload_n dJ6_numberOfTrailingZeros_0f7a4_75 rfl ?_
            refine ab_iconst (v := nI 1) dJ6_numberOfTrailingZeros_0f7a4_76 (by decide) ?_
            refine ab_iushr dJ6_numberOfTrailingZeros_0f7a4_77 ?_
            refine ab_iadd dJ6_numberOfTrailingZeros_0f7a4_78 ?_
            refine ab_reti dJ6_numberOfTrailingZeros_0f7a4_79 ?_
            exact ⟨rfl, by clear e hm; have H := And.intro c_9 (And.intro c_23 (And.intro c_38 (And.intro c_52 c_64))); clear c_9 c_23 c_38 c_52 c_64; revert H; revert hk; revert k; decide +kernel⟩
          · skip
            refine ab_iinc' (ls' := [_, _]) dJ6_numberOfTrailingZeros_0f7a4_67 rfl rfl rfl ?_
            refine ab_iload_n dJ6_numberOfTrailingZeros_0f7a4_70 rfl ?_
            refine ab_iconst (v := nI 2) dJ6_numberOfTrailingZeros_0f7a4_71 (by decide) ?_
            refine ab_iushr dJ6_numberOfTrailingZeros_0f7a4_72 ?_
            refine ab_sti_n (ls' := [_, _]) dJ6_numberOfTrailingZeros_0f7a4_73 (by decide) rfl ?_
            refine ab_iload_n dJ6_numberOfTrailingZeros_0f7a4_74 rfl ?_
            refine ab_iload_n dJ6_numberOfTrailingZeros_0f7a4_75 rfl ?_
            refine ab_iconst (v := nI 1) dJ6_numberOfTrailingZeros_0f7a4_76 (by decide) ?_
            refine ab_iushr dJ6_numberOfTrailingZeros_0f7a4_77 ?_
            refine ab_iadd dJ6_numberOfTrailingZeros_0f7a4_78 ?_
            refine ab_reti dJ6_numberOfTrailingZeros_0f7a4_79 ?_
            exact ⟨rfl, by clear e hm; have H := And.intro c_9 (And.intro c_23 (And.intro c_38 (And.intro c_52 c_64))); clear c_9 c_23 c_38 c_52 c_64; revert H; revert hk; revert k; decide +kernel⟩
        · skip
          refine ab_iinc' (ls' := [_, _]) dJ6_numberOfTrailingZeros_0f7a4_55 rfl rfl rfl ?_
          refine ab_iload_n dJ6_numberOfTrailingZeros_0f7a4_58 rfl ?_
          refine ab_iconst (v := nI 4) dJ6_numberOfTrailingZeros_0f7a4_59 (by decide) ?_
          refine ab_iushr dJ6_numberOfTrailingZeros_0f7a4_60 ?_
          refine ab_sti_n (ls' := [_, _]) dJ6_numberOfTrailingZeros_0f7a4_61 (by decide) rfl ?_
          refine ab_iload_n dJ6_numberOfTrailingZeros_0f7a4_62 rfl ?_
          refine ab_iconst (v := nI 4) dJ6_numberOfTrailingZeros_0f7a4_63 (by decide) ?_
          refine ab_icmp_le 74 dJ6_numberOfTrailingZeros_0f7a4_64 (by decide) (fun c_64 => ?_) (fun c_64 => ?_)
          · skip
            refine ab_iload_n dJ6_numberOfTrailingZeros_0f7a4_74 rfl ?_
            refine ab_iload_n dJ6_numberOfTrailingZeros_0f7a4_75 rfl ?_
            refine ab_iconst (v := nI 1) dJ6_numberOfTrailingZeros_0f7a4_76 (by decide) ?_
            refine ab_iushr dJ6_numberOfTrailingZeros_0f7a4_77 ?_
            refine ab_iadd dJ6_numberOfTrailingZeros_0f7a4_78 ?_
            refine ab_reti dJ6_numberOfTrailingZeros_0f7a4_79 ?_
            exact ⟨rfl, by clear e hm; have H := And.intro c_9 (And.intro c_23 (And.intro c_38 (And.intro c_52 c_64))); clear c_9 c_23 c_38 c_52 c_64; revert H; revert hk; revert k; decide +kernel⟩
          · skip
            refine ab_iinc' (ls' := [_, _]) dJ6_numberOfTrailingZeros_0f7a4_67 rfl rfl rfl ?_
            refine ab_iload_n dJ6_numberOfTrailingZeros_0f7a4_70 rfl ?_
            refine ab_iconst (v := nI 2) dJ6_numberOfTrailingZeros_0f7a4_71 (by decide) ?_
            refine ab_iushr dJ6_numberOfTrailingZeros_0f7a4_72 ?_
            refine ab_sti_n (ls' := [_, _]) dJ6_numberOfTrailingZeros_0f7a4_73 (by decide) rfl ?_
            refine ab_iload_n dJ6_numberOfTrailingZeros_0f7a4_74 rfl ?_
            refine ab_iload_n dJ6_numberOfTrailingZeros_0f7a4_75 rfl ?_
            refine ab_iconst (v := nI 1) dJ6_numberOfTrailingZeros_0f7a4_76 (by decide) ?_
            refine ab_iushr dJ6_numberOfTrailingZeros_0f7a4_77 ?_
            refine ab_iadd dJ6_numberOfTrailingZeros_0f7a4_78 ?_
            refine ab_reti dJ6_numberOfTrailingZeros_0f7a4_79 ?_
            exact ⟨rfl, by clear e hm; have H := And.intro c_9 (And.intro c_23 (And.intro c_38 (And.intro c_52 c_64))); clear c_9 c_23 c_38 c_52 c_64; revert H; revert hk; revert k; decide +kernel⟩
      · skip
        refine ab_iinc' (ls' := [_, _]) dJ6_numberOfTrailingZeros_0f7a4_41 rfl rfl rfl ?_
        refine ab_iload_n dJ6_numberOfTrailingZeros_0f7a4_44 rfl ?_
        refine ab_bipush (v := nI 8) dJ6_numberOfTrailingZeros_0f7a4_45 (by decide) ?_
        refine ab_iushr dJ6_numberOfTrailingZeros_0f7a4_47 ?_
        refine ab_sti_n (ls' := [_, _]) dJ6_numberOfTrailingZeros_0f7a4_48 (by decide) rfl ?_
        refine ab_iload_n dJ6_numberOfTrailingZeros_0f7a4_49 rfl ?_
        refine ab_bipush (v := nI 16) dJ6_numberOfTrailingZeros_0f7a4_50 (by decide) ?_
        refine ab_icmp_le 62 dJ6_numberOfTrailingZeros_0f7a4_52 (by decide) (fun c_52 => ?_) (fun c_52 => ?_)
        · skip
          refine ab_iload_n dJ6_numberOfTrailingZeros_0f7a4_62 rfl ?_
          refine ab_iconst (v := nI 4) dJ6_numberOfTrailingZeros_0f7a4_63 (by decide) ?_
          refine ab_icmp_le 74 dJ6_numberOfTrailingZeros_0f7a4_64 (by decide) (fun c_64 => ?_) (fun c_64 => ?_)
          · skip
            refine ab_iload_n dJ6_numberOfTrailingZeros_0f7a4_74 rfl ?_
            refine ab_iload_n dJ6_numberOfTrailingZeros_0f7a4_75 rfl ?_
            refine ab_iconst (v := nI 1) dJ6_numberOfTrailingZeros_0f7a4_76 (by decide) ?_
            refine ab_iushr dJ6_numberOfTrailingZeros_0f7a4_77 ?_
            refine ab_iadd dJ6_numberOfTrailingZeros_0f7a4_78 ?_
            refine ab_reti dJ6_numberOfTrailingZeros_0f7a4_79 ?_
            exact ⟨rfl, by clear e hm; have H := And.intro c_9 (And.intro c_23 (And.intro c_38 (And.intro c_52 c_64))); clear c_9 c_23 c_38 c_52 c_64; revert H; revert hk; revert k; decide +kernel⟩
          · skip
            refine ab_iinc' (ls' := [_, _]) dJ6_numberOfTrailingZeros_0f7a4_67 rfl rfl rfl ?_
            refine ab_iload_n dJ6_numberOfTrailingZeros_0f7a4_70 rfl ?_
            refine ab_iconst (v := nI 2) dJ6_numberOfTrailingZeros_0f7a4_71 (by decide) ?_
            refine ab_iushr dJ6_numberOfTrailingZeros_0f7a4_72 ?_
            refine ab_sti_n (ls' := [_, _]) dJ6_numberOfTrailingZeros_0f7a4_73 (by decide) rfl ?_
            refine ab_iload_n dJ6_numberOfTrailingZeros_0f7a4_74 rfl ?_
            refine ab_iload_n dJ6_numberOfTrailingZeros_0f7a4_75 rfl ?_
            refine ab_iconst (v := nI 1) dJ6_numberOfTrailingZeros_0f7a4_76 (by decide) ?_
            refine ab_iushr dJ6_numberOfTrailingZeros_0f7a4_77 ?_
            refine ab_iadd dJ6_numberOfTrailingZeros_0f7a4_78 ?_
            refine ab_reti dJ6_numberOfTrailingZeros_0f7a4_79 ?_
            exact ⟨rfl, by clear e hm; have H := And.intro c_9 (And.intro c_23 (And.intro c_38 (And.intro c_52 c_64))); clear c_9 c_23 c_38 c_52 c_64; revert H; revert hk; revert k; decide +kernel⟩
        · skip
          refine ab_iinc' (ls' := [_, _]) dJ6_numberOfTrailingZeros_0f7a4_55 rfl rfl rfl ?_
          refine ab_iload_n dJ6_numberOfTrailingZeros_0f7a4_58 rfl ?_
          refine ab_iconst (v := nI 4) dJ6_numberOfTrailingZeros_0f7a4_59 (by decide) ?_
          refine ab_iushr dJ6_numberOfTrailingZeros_0f7a4_60 ?_
          refine ab_sti_n (ls' := [_, _]) dJ6_numberOfTrailingZeros_0f7a4_61 (by decide) rfl ?_
          refine ab_iload_n dJ6_numberOfTrailingZeros_0f7a4_62 rfl ?_
          refine ab_iconst (v := nI 4) dJ6_numberOfTrailingZeros_0f7a4_63 (by decide) ?_
          refine ab_icmp_le 74 dJ6_numberOfTrailingZeros_0f7a4_64 (by decide) (fun c_64 => ?_) (fun c_64 => ?_)
          · skip
            refine ab_iload_n dJ6_numberOfTrailingZeros_0f7a4_74 rfl ?_
            refine ab_iload_n dJ6_numberOfTrailingZeros_0f7a4_75 rfl ?_
            refine ab_iconst (v := nI 1) dJ6_numberOfTrailingZeros_0f7a4_76 (by decide) ?_
            refine ab_iushr dJ6_numberOfTrailingZeros_0f7a4_77 ?_
            refine ab_iadd dJ6_numberOfTrailingZeros_0f7a4_78 ?_
            refine ab_reti dJ6_numberOfTrailingZeros_0f7a4_79 ?_
            exact ⟨rfl, by clear e hm; have H := And.intro c_9 (And.intro c_23 (And.intro c_38 (And.intro c_52 c_64))); clear c_9 c_23 c_38 c_52 c_64; revert H; revert hk; revert k; decide +kernel⟩
          · skip
            refine ab_iinc' (ls' := [_, _]) dJ6_numberOfTrailingZeros_0f7a4_67 rfl rfl rfl ?_
            refine ab_iload_n dJ6_numberOfTrailingZeros_0f7a4_70 rfl ?_
            refine ab_iconst (v := nI 2) dJ6_numberOfTrailingZeros_0f7a4_71 (by decide) ?_
            refine ab_iushr dJ6_numberOfTrailingZeros_0f7a4_72 ?_
            refine ab_sti_n (ls' := [_, _]) dJ6_numberOfTrailingZeros_0f7a4_73 (by decide) rfl ?_
            refine ab_iload_n dJ6_numberOfTrailingZeros_0f7a4_74 rfl ?_
            refine ab_iload_n dJ6_numberOfTrailingZeros_0f7a4_75 rfl ?_
            refine ab_iconst (v := nI 1) dJ6_numberOfTrailingZeros_0f7a4_76 (by decide) ?_
            refine ab_iushr dJ6_numberOfTrailingZeros_0f7a4_77 ?_
            refine ab_iadd dJ6_numberOfTrailingZeros_0f7a4_78 ?_
            refine ab_reti dJ6_numberOfTrailingZeros_0f7a4_79 ?_
            exact ⟨rfl, by clear e hm; have H := And.intro c_9 (And.intro c_23 (And.intro c_38 (And.intro c_52 c_64))); clear c_9 c_23 c_38 c_52 c_64; revert H; revert hk; revert k; decide +kernel⟩
  · skip
    refine ab_iload_n dJ6_numberOfTrailingZeros_0f7a4_12 rfl ?_
    refine ab_bipush (v := nI 32) dJ6_numberOfTrailingZeros_0f7a4_13 (by decide) ?_
    refine ab_iand dJ6_numberOfTrailingZeros_0f7a4_15 ?_
    refine ab_reti dJ6_numberOfTrailingZeros_0f7a4_16 ?_
    exact ⟨rfl, by clear e hm; have H := c_9; clear c_9; revert H; revert hk; revert k; decide +kernel⟩
theorem nI0_mod {n : Nat} (h : n < 4294967296) (e : nI n = 0) : n = 0 := by
  have q := congrArg (fun z : Int32 => z.toBitVec.toNat) e
  have q2 : (BitVec.ofNat 32 n).toNat = 0 := q
  simp at q2
  omega
set_option maxRecDepth 100000 in
set_option maxHeartbeats 4000000 in
theorem m_ntz {k b n : Nat} {h : ab_H} (hk : 1 ≤ k) (h0 : 0 < n) (hn : nK n) : ab_M k b mJ13_numberOfTrailingZeros_95d88 [.long (zI (n : Int))] h (ab_pi (fun v h' => h' = h ∧ v = nI (v2 n))) := by
  refine ab_enter ?_
  refine ab_lload_n dJ13_numberOfTrailingZeros_95d88_0 rfl ?_
  refine ab_l2i dJ13_numberOfTrailingZeros_95d88_1 ?_
  refine ab_topI ((zI_to32 n).trans (nI_mod n)) ?_
  refine ab_sti_n (ls' := [_, _, _]) dJ13_numberOfTrailingZeros_95d88_2 (by decide) rfl ?_
  refine ab_iload_n dJ13_numberOfTrailingZeros_95d88_3 rfl ?_
  refine ab_if_ne 21 dJ13_numberOfTrailingZeros_95d88_4 (by decide) (fun c_4 => ?_) (fun c_4 => ?_)
  · replace c_4 : ¬ n % 4294967296 = 0 := fun q => c_4 (by rw [q]; rfl)
    refine ab_iload_n dJ13_numberOfTrailingZeros_95d88_21 rfl ?_
    obtain ⟨m, e, hm, hv⟩ := (v2_split h0 hn).2 c_4
    refine ab_callSi [_] dJ13_numberOfTrailingZeros_95d88_22 ml_J13_311 mk_J6_numberOfTrailingZeros_0f7a4 (m_ntz32 (k' := 0) (b := 0) hv e hm) (fun x h1 hq => ?_)
    obtain ⟨hhe, rfl⟩ := hq
    rw [hhe]
    refine ab_reti dJ13_numberOfTrailingZeros_95d88_25 ?_
    first | exact ⟨rfl, rfl⟩ | exact ⟨rfl, by rw [ab_nadd]; congr 1; omega⟩
  · replace c_4 : n % 4294967296 = 0 := nI0_mod (Nat.mod_lt _ (by omega)) c_4
    refine ab_bipush (v := nI 32) dJ13_numberOfTrailingZeros_95d88_7 (by decide) ?_
    refine ab_lload_n dJ13_numberOfTrailingZeros_95d88_9 rfl ?_
    refine ab_bipush (v := nI 32) dJ13_numberOfTrailingZeros_95d88_10 (by decide) ?_
    refine ab_lushr dJ13_numberOfTrailingZeros_95d88_12 ?_
    refine ab_l2i dJ13_numberOfTrailingZeros_95d88_13 ?_
    refine ab_topI (zI_up32 hn) ?_
    obtain ⟨m, e, hm, hv, hv2⟩ := (v2_split h0 hn).1 c_4
    refine ab_callSi [_] dJ13_numberOfTrailingZeros_95d88_14 ml_J13_311 mk_J6_numberOfTrailingZeros_0f7a4 (m_ntz32 (k' := 0) (b := 0) (k := v2 n - 32) (by omega) e hm) (fun x h1 hq => ?_)
    obtain ⟨hhe, rfl⟩ := hq
    rw [hhe]
    refine ab_iadd dJ13_numberOfTrailingZeros_95d88_17 ?_
    refine ab_goto 25 dJ13_numberOfTrailingZeros_95d88_18 (by decide) ?_
    refine ab_reti dJ13_numberOfTrailingZeros_95d88_25 ?_
    first | exact ⟨rfl, rfl⟩ | exact ⟨rfl, by rw [ab_nadd]; congr 1; omega⟩
set_option maxRecDepth 100000 in
set_option maxHeartbeats 4000000 in
theorem m_twos {k b n : Nat} {h : ab_H} (hk : 2 ≤ k) (h0 : 0 < n) (hn : nK n) : ab_M k b mX12_twos [.long (zI (n : Int))] h (ab_pi (fun v h' => h' = h ∧ v = nI (v2 n))) := by
  refine ab_enter ?_
  refine ab_lload_n dX12_twos_0 rfl ?_
  refine ab_callSi [_] dX12_twos_1 ml_X12_214 mk_J13_numberOfTrailingZeros_95d88 (m_ntz (k := 1) (b := 0) (by omega) h0 hn) (fun x h1 hq => ?_)
  obtain ⟨hhe, rfl⟩ := hq
  rw [hhe]
  refine ab_reti dX12_twos_4 ?_
  exact ⟨rfl, rfl⟩
set_option maxRecDepth 100000 in
set_option maxHeartbeats 4000000 in
theorem m_val {k b : Nat} {h : ab_H} {P : Int × Nat} (hk : 3 ≤ k) (h0 : 0 ≤ P.1) (hn : nK P.1.natAbs) (hp : 0 < P.2) (hd : nK P.2) : ab_M k b mX12_valuation [.long (zI P.1), .long (zI (P.2 : Int))] h (ab_pi (fun v h' => h' = h ∧ v = iI (vQ P))) := by
  refine ab_enter ?_
  refine ab_lload_n dX12_valuation_0 rfl ?_
  refine ab_lconst (v := 0) dX12_valuation_1 (by decide) ?_
  refine ab_lcmp dX12_valuation_2 ?_
  refine ab_if_ne 11 dX12_valuation_3 (by decide) (fun c_3 => ?_) (fun c_3 => ?_)
  · replace c_3 : ¬ P.1 = 0 := fun q => c_3 (by rw [q, ← zI_0]; exact (lg_cmp_eq _ _).mpr rfl)
    refine ab_lload_n dX12_valuation_11 rfl ?_
    refine ab_topL (congrArg zI (show P.1 = ((P.1.natAbs : Nat) : Int) by omega)) ?_
    refine ab_callSi [_] dX12_valuation_12 ml_X12_220 mk_X12_twos (m_twos (k := 2) (b := 0) (by omega) (by omega) hn) (fun x h1 hq => ?_)
    obtain ⟨hhe, rfl⟩ := hq
    rw [hhe]
    refine ab_lload_n dX12_valuation_15 rfl ?_
    refine ab_callSi [_] dX12_valuation_16 ml_X12_220 mk_X12_twos (m_twos (k := 2) (b := 0) (by omega) hp hd) (fun x h1 hq => ?_)
    obtain ⟨hhe, rfl⟩ := hq
    rw [hhe]
    refine ab_isub dX12_valuation_19 ?_
    refine ab_reti dX12_valuation_20 ?_
    first | exact ⟨rfl, by unfold vQ; rw [if_pos c_3]; decide⟩ | exact ⟨rfl, by unfold vQ; rw [if_neg c_3]; exact iI_sub _ _⟩
  · replace c_3 : P.1 = 0 := (zI_inj (zK_abs hn) zK_0).mp ((lg_cmp_eq _ _).mp c_3)
    refine ab_bipush (v := nI 99) dX12_valuation_6 (by decide) ?_
    refine ab_goto 20 dX12_valuation_8 (by decide) ?_
    refine ab_reti dX12_valuation_20 ?_
    first | exact ⟨rfl, by unfold vQ; rw [if_pos c_3]; decide⟩ | exact ⟨rfl, by unfold vQ; rw [if_neg c_3]; exact iI_sub _ _⟩
set_option maxRecDepth 100000 in
set_option maxHeartbeats 4000000 in
theorem lp_mgcd {k b G : Nat} {h : ab_H} : ∀ (j x y : Nat) (a0 a1 a2 a8 a9 : Option Value), nK x → nK y → eu_ok j x y → Nat.gcd x y = G → ab_R k b mX12_divisor 12 [a0, a1, a2, none, some (.long (zI (x : Int))), none, some (.long (zI (y : Int))), none, a8, a9] [] h (ab_pl (fun v h' => h' = h ∧ v = zI (G : Int))) := by
  intro j
  induction j with
  | zero =>
    intro x y a0 a1 a2 a8 a9 hx hy hs hG
    refine ab_lload dX12_divisor_12 rfl ?_
    refine ab_lconst (v := 0) dX12_divisor_14 (by decide) ?_
    refine ab_lcmp dX12_divisor_15 ?_
    refine ab_if_eq 37 dX12_divisor_16 (by decide) (fun c_16 => ?_) (fun c_16 => ?_)
    · skip
      refine ab_lload (j := 4) dX12_divisor_37 rfl ?_
      refine ab_retl dX12_divisor_39 ?_
      exact ⟨rfl, by rw [← hG, eu_0 hs]⟩
    · skip
      exact absurd ((zc_eq0 hy).mpr hs) c_16
  | succ j ih =>
    intro x y a0 a1 a2 a8 a9 hx hy hs hG
    refine ab_lload dX12_divisor_12 rfl ?_
    refine ab_lconst (v := 0) dX12_divisor_14 (by decide) ?_
    refine ab_lcmp dX12_divisor_15 ?_
    refine ab_if_eq 37 dX12_divisor_16 (by decide) (fun c_16 => ?_) (fun c_16 => ?_)
    · skip
      refine ab_lload (j := 4) dX12_divisor_37 rfl ?_
      refine ab_retl dX12_divisor_39 ?_
      exact ⟨rfl, by rw [← hG, eu_0 ((zc_eq0 hy).mp c_16)]⟩
    · skip
      refine ab_lload dX12_divisor_19 rfl ?_
      refine ab_lload dX12_divisor_21 rfl ?_
      refine ab_lrem dX12_divisor_23 (zI_ne0 hy (fun q => c_16 ((zc_eq0 hy).mpr q))) ?_
      refine ab_topL (zI_remN hx hy) ?_
      refine ab_stl (ls' := [_, _, _, _, _, _, _, _, _, _]) dX12_divisor_24 (by decide) rfl ?_
      refine ab_lload dX12_divisor_26 rfl ?_
      refine ab_stl (ls' := [_, _, _, _, _, _, _, _, _, _]) dX12_divisor_28 (by decide) rfl ?_
      refine ab_lload dX12_divisor_30 rfl ?_
      refine ab_stl (ls' := [_, _, _, _, _, _, _, _, _, _]) dX12_divisor_32 (by decide) rfl ?_
      refine ab_goto 12 dX12_divisor_34 (by decide) ?_
      exact ih y (x % y) _ _ _ _ _ hy (nK.mod hx) (eu_step hs (fun q => c_16 ((zc_eq0 hy).mpr q))) (eu_gcd.trans hG)
set_option maxRecDepth 100000 in
set_option maxHeartbeats 4000000 in
theorem m_divisor {k b : Nat} {h : ab_H} {x y : Int} (hk : 1 ≤ k) (hx : nK x.natAbs) (hy : nK y.natAbs) : ab_M k b mX12_divisor [.long (zI x), .long (zI y)] h (ab_pl (fun v h' => h' = h ∧ v = zI ((Nat.gcd x.natAbs y.natAbs : Nat) : Int))) := by
  refine ab_enter ?_
  refine ab_lload_n dX12_divisor_0 rfl ?_
  refine ab_mabs dX12_divisor_1 ml_X12_13 ?_
  refine ab_topL (zI_abs hx) ?_
  refine ab_stl (ls' := [_, _, _, _, _, _, _, _, _, _]) dX12_divisor_4 (by decide) rfl ?_
  refine ab_lload_n dX12_divisor_6 rfl ?_
  refine ab_mabs dX12_divisor_7 ml_X12_13 ?_
  refine ab_topL (zI_abs hy) ?_
  refine ab_stl (ls' := [_, _, _, _, _, _, _, _, _, _]) dX12_divisor_10 (by decide) rfl ?_
  exact lp_mgcd 126 _ _ _ _ _ _ _ hx hy (eu_126 hy) rfl
set_option maxRecDepth 100000 in
set_option maxHeartbeats 4000000 in
theorem m_part {k b : Nat} {h : ab_H} {P : Int × Nat} {x : Int32} (hk : 2 ≤ k) (hn : nK P.1.natAbs) (hp : 0 < P.2) (hd : nK P.2) : ab_M k b mX12_part [.long (zI P.1), .long (zI (P.2 : Int)), .int x] h (ab_pl (fun v h' => h' = h ∧ v = if x = 0 then zI (fR P).1 else zI ((fR P).2 : Int))) := by
  refine ab_enter ?_
  refine ab_lload_n dX12_part_0 rfl ?_
  refine ab_lload_n dX12_part_1 rfl ?_
  refine ab_callSl [_, _] dX12_part_2 ml_X12_19 mk_X12_divisor (m_divisor (k := 1) (b := 0) (x := P.1) (y := (P.2 : Int)) (by omega) hn hd) (fun x h1 hq => ?_)
  obtain ⟨hhe, rfl⟩ := hq
  rw [hhe]
  refine ab_stl (ls' := [_, _, _, _, _, _, _]) dX12_part_5 (by decide) rfl ?_
  refine ab_iload dX12_part_7 rfl ?_
  refine ab_if_ne 19 dX12_part_9 (by decide) (fun c_9 => ?_) (fun c_9 => ?_)
  · skip
    refine ab_lload_n dX12_part_19 rfl ?_
    refine ab_lload dX12_part_20 rfl ?_
    refine ab_ldiv dX12_part_22 (zI_ne0 (y := fR_g P) (fR_gK hp hd) (Nat.ne_of_gt (fR_gpos hp))) ?_
    refine ab_topL ((zI_div hd.z (fR_gK hp hd).z).trans (congrArg zI (Int.ofNat_tdiv _ _).symm)) ?_
    refine ab_retl dX12_part_23 ?_
    first | exact ⟨rfl, by rw [if_neg c_9]; rfl⟩ | exact ⟨rfl, by rw [if_pos c_9]⟩
  · skip
    refine ab_lload_n dX12_part_12 rfl ?_
    refine ab_lload dX12_part_13 rfl ?_
    refine ab_ldiv dX12_part_15 (zI_ne0 (y := fR_g P) (fR_gK hp hd) (Nat.ne_of_gt (fR_gpos hp))) ?_
    refine ab_topL ((zI_div (zK_abs hn) (fR_gK hp hd).z).trans (congrArg zI fR_tdiv)) ?_
    refine ab_goto 23 dX12_part_16 (by decide) ?_
    refine ab_retl dX12_part_23 ?_
    first | exact ⟨rfl, by rw [if_neg c_9]; rfl⟩ | exact ⟨rfl, by rw [if_pos c_9]⟩
set_option maxRecDepth 100000 in
set_option maxHeartbeats 4000000 in
theorem m_tells {k b : Nat} {h : ab_H} {P : Int × Nat} (hk : 2 ≤ k) (hM : at_M (ab_sh h) (ab_r h)) (hn : nK P.1.natAbs) (hp : 0 < P.2) (hd : nK P.2) : ab_M k b mX12_tells [.ref 50, .long (zI P.1), .long (zI (P.2 : Int))] h (ab_pv (fun h' => h' = ab_sl (ab_sl h 50 20 (zI (fR P).1)) 50 21 (zI ((fR P).2 : Int)))) := by
  refine ab_enter ?_
  refine ab_lload_n dX12_tells_0 rfl ?_
  refine ab_lload_n dX12_tells_1 rfl ?_
  refine ab_callSl [_, _] dX12_tells_2 ml_X12_19 mk_X12_divisor (m_divisor (k := 1) (b := 0) (x := P.1) (y := (P.2 : Int)) (by omega) hn hd) (fun x h1 hq => ?_)
  obtain ⟨hhe, rfl⟩ := hq
  rw [hhe]
  refine ab_stl (ls' := [_, _, _, _, _, _, _]) dX12_tells_5 (by decide) rfl ?_
  refine ab_aload_n dX12_tells_7 rfl ?_
  refine ab_lload_n dX12_tells_8 rfl ?_
  refine ab_lload dX12_tells_9 rfl ?_
  refine ab_ldiv dX12_tells_11 (zI_ne0 (y := fR_g P) (fR_gK hp hd) (Nat.ne_of_gt (fR_gpos hp))) ?_
  refine ab_topL ((zI_div (zK_abs hn) (fR_gK hp hd).z).trans (congrArg zI fR_tdiv)) ?_
  refine ab_putL dX12_tells_12 fl_X12_250 hM.hs ?_
  refine ab_aload_n dX12_tells_15 rfl ?_
  refine ab_lload_n dX12_tells_16 rfl ?_
  refine ab_lload dX12_tells_17 rfl ?_
  refine ab_ldiv dX12_tells_19 (zI_ne0 (y := fR_g P) (fR_gK hp hd) (Nat.ne_of_gt (fR_gpos hp))) ?_
  refine ab_topL ((zI_div hd.z (fR_gK hp hd).z).trans (congrArg zI (Int.ofNat_tdiv _ _).symm)) ?_
  refine ab_putL dX12_tells_20 fl_X12_254 hM.hs ?_
  refine ab_retv dX12_tells_23 ?_
  exact rfl
