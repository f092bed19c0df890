/-! ===== bits of floats, the class's way ===== -/
theorem nI_dec {n : Nat} (h : 1 ≤ n) : nI n + Int32.ofInt (-1) = nI (n - 1) := by
  rw [← ab_nsub h, show Int32.ofInt (-1) = -(nI 1) from by decide]
  exact (Int32.sub_eq_add_neg _ _).symm
theorem zI_incN (n : Nat) : zI (n : Int) + zI ((1 : Nat) : Int) = zI ((n + 1 : Nat) : Int) := by rw [zI_add, Int.natCast_add]
theorem zI_decN {n : Nat} (h : 1 ≤ n) : zI (n : Int) - zI ((1 : Nat) : Int) = zI ((n - 1 : Nat) : Int) := by
  rw [zI_sub]
  congr 1
  omega
theorem zI_shl52 {n : Nat} : zI (n : Int) <<< ((nI 52).toInt64 &&& 63) = zI ((n * 2 ^ 52 : Nat) : Int) := by
  apply Int64.toBitVec_inj.mp
  rw [Int64.toBitVec_shiftLeft, zI_bv, zI_bv, show (((nI 52).toInt64 &&& 63).toBitVec.smod 64) = 52#64 by decide]
  apply BitVec.eq_of_toNat_eq
  simp [BitVec.toNat_shiftLeft, Nat.shiftLeft_eq, Nat.mod_mul_mod]
theorem fb_c2 : FP.fconst2.toNat = 128 * 2 ^ 23 := by decide
theorem fb_c1 : FP.fconst1.toNat = 127 * 2 ^ 23 := by decide
theorem fb_ch : (1056964608 : UInt32).toNat = 126 * 2 ^ 23 := by decide
theorem fb_cm : (1258291200 : UInt32).toNat = (127 + 23) * 2 ^ 23 := by decide
theorem db_c2 : (4611686018427387904 : UInt64).toNat = 1024 * 2 ^ 52 := by decide
theorem db_c1 : FP.dconst1.toNat = 1023 * 2 ^ 52 := by decide
theorem db_ch : (4602678819172646912 : UInt64).toNat = 1022 * 2 ^ 52 := by decide
theorem db_cm : (4841369599423283200 : UInt64).toNat = (1023 + 52) * 2 ^ 52 := by decide
theorem fb_one {E t : Nat} (ht : t < 2 ^ 23) : FB32 E E (UInt32.ofNat (E * 2 ^ 23 + t)) := Or.inr ⟨E, t, ht, rfl, Nat.le_refl _, Nat.le_refl _⟩
theorem db_one {E t : Nat} (ht : t < 2 ^ 52) : FB64 E E (UInt64.ofNat (E * 2 ^ 52 + t)) := Or.inr ⟨E, t, ht, rfl, Nat.le_refl _, Nat.le_refl _⟩
set_option maxRecDepth 100000 in
set_option maxHeartbeats 4000000 in
theorem lp_ib2 {k b E0 t : Nat} {h : ab_H} (ht : t < 2 ^ 23) (hE0 : E0 ≤ 254) : ∀ (j E ex i : Nat) (x0 : UInt32), E + j = 127 → 1 ≤ E → ex + E = 127 + E0 → i + j ≤ 200 → ab_R k b mX1_intBits 44 [some (.float x0), some (.float (UInt32.ofNat (E * 2 ^ 23 + t))), some (.int (nI ex)), some (.int (nI i))] [] h (ab_pi (fun v h' => h' = h ∧ v = nI (E0 * 2 ^ 23 + t))) := by
  intro j
  induction j with
  | zero =>
    intro E ex i x0 hj h1 hex hi
    refine ab_iload_n dX1_intBits_44 rfl ?_
    refine ab_sipush (v := nI 1100) dX1_intBits_45 (by decide) ?_
    refine ab_nicmp_ge 70 dX1_intBits_48 (by decide) (by omega) (by omega) (fun c_48 => ?_) (fun c_48 => ?_)
    · skip
      exact absurd c_48 (by omega)
    · skip
      refine ab_fload_n dX1_intBits_51 rfl ?_
      refine ab_fconst1 dX1_intBits_52 ?_
      refine ab_fcmp dX1_intBits_53 ?_
      refine ab_if_ge 70 dX1_intBits_54 (by decide) (fun c_54 => ?_) (fun c_54 => ?_)
      · skip
        obtain rfl : E = 127 := by omega
        obtain rfl : ex = E0 := by omega
        refine ab_iload_n dX1_intBits_70 rfl ?_
        refine ab_bipush (v := nI 23) dX1_intBits_71 (by decide) ?_
        refine ab_nshlR dX1_intBits_73 (by omega) ?_
        refine ab_fload_n dX1_intBits_74 rfl ?_
        refine ab_fconst1 dX1_intBits_75 ?_
        refine ab_fsub dX1_intBits_76 (fb32_rest fb_cm ht).1 ?_
        refine ab_ldcf dX1_intBits_77 kc_X1_10 ?_
        refine ab_fmul dX1_intBits_79 (fb32_rest fb_cm ht).2.1 ?_
        refine ab_f2i dX1_intBits_80 ?_
        refine ab_topI ((fb32_rest fb_cm ht).2.2.trans Int32.ofInt_eq_ofNat) ?_
        refine ab_naddR dX1_intBits_81 ?_
        refine ab_reti dX1_intBits_82 ?_
        exact ⟨rfl, congrArg nI (by rw [Nat.shiftLeft_eq])⟩
      · skip
        exact absurd ((fb32_cmp (op := .g) fb_c1 ht (by omega) (by omega) (by decide) (by decide)).mp (Int32.not_le.mp c_54)) (by omega)
  | succ j ih =>
    intro E ex i x0 hj h1 hex hi
    refine ab_iload_n dX1_intBits_44 rfl ?_
    refine ab_sipush (v := nI 1100) dX1_intBits_45 (by decide) ?_
    refine ab_nicmp_ge 70 dX1_intBits_48 (by decide) (by omega) (by omega) (fun c_48 => ?_) (fun c_48 => ?_)
    · skip
      exact absurd c_48 (by omega)
    · skip
      refine ab_fload_n dX1_intBits_51 rfl ?_
      refine ab_fconst1 dX1_intBits_52 ?_
      refine ab_fcmp dX1_intBits_53 ?_
      refine ab_if_ge 70 dX1_intBits_54 (by decide) (fun c_54 => ?_) (fun c_54 => ?_)
      · skip
        exact absurd ((fb32_cmp (op := .g) fb_c1 ht (by omega) (by omega) (by decide) (by decide)).mpr (by omega)) (Int32.not_lt.mpr c_54)
      · skip
        refine ab_fload_n dX1_intBits_57 rfl ?_
        refine ab_fconst2 dX1_intBits_58 ?_
        refine ab_fmul dX1_intBits_59 (by rw [fb32_m2 (E2 := 128) fb_c2 ht (by omega) (by omega) (by decide) (by decide) (by omega) (by omega)]; exact (fb_one ht).n (by omega)) ?_
        rw [fb32_m2 (E2 := 128) fb_c2 ht (by omega) (by omega) (by decide) (by decide) (by omega) (by omega)]
        refine ab_stf_n (ls' := [_, _, _, _]) dX1_intBits_60 (by decide) rfl ?_
        refine ab_iinc' (ls' := [_, _, _, _]) dX1_intBits_61 rfl (nI_dec (by omega)) rfl ?_
        refine ab_nincR (ls' := [_, _, _, _]) dX1_intBits_64 rfl rfl ?_
        refine ab_goto 44 dX1_intBits_67 (by decide) ?_
        exact ih (E + 128 - 127) (ex - 1) (i + 1) _ (by omega) (by omega) (by omega) (by omega)
set_option maxRecDepth 100000 in
set_option maxHeartbeats 4000000 in
theorem lp_ib1 {k b E0 t : Nat} {h : ab_H} (ht : t < 2 ^ 23) (hE0 : E0 ≤ 254) : ∀ (j E ex i : Nat) (x0 : UInt32), (E = 127 + j ∨ (j = 0 ∧ E ≤ 127)) → 1 ≤ E → E ≤ 254 → ex + E = 127 + E0 → i + j ≤ 200 → ab_R k b mX1_intBits 15 [some (.float x0), some (.float (UInt32.ofNat (E * 2 ^ 23 + t))), some (.int (nI ex)), some (.int (nI i))] [] h (ab_pi (fun v h' => h' = h ∧ v = nI (E0 * 2 ^ 23 + t))) := by
  intro j
  induction j with
  | zero =>
    intro E ex i x0 hj h1 h2 hex hi
    refine ab_iload_n dX1_intBits_15 rfl ?_
    refine ab_sipush (v := nI 1100) dX1_intBits_16 (by decide) ?_
    refine ab_nicmp_ge 42 dX1_intBits_19 (by decide) (by omega) (by omega) (fun c_19 => ?_) (fun c_19 => ?_)
    · skip
      exact absurd c_19 (by omega)
    · skip
      refine ab_fload_n dX1_intBits_22 rfl ?_
      refine ab_fconst2 dX1_intBits_23 ?_
      refine ab_fcmp dX1_intBits_24 ?_
      refine ab_if_lt 42 dX1_intBits_25 (by decide) (fun c_25 => ?_) (fun c_25 => ?_)
      · skip
        refine ab_iconst (v := nI 0) dX1_intBits_42 (by decide) ?_
        refine ab_sti_n (ls' := [_, _, _, _]) dX1_intBits_43 (by decide) rfl ?_
        exact lp_ib2 ht hE0 (127 - E) E ex 0 _ (by omega) (by omega) (by omega) (by omega)
      · skip
        exact absurd ((fb32_cmp (op := .l) fb_c2 ht (by omega) (by omega) (by decide) (by decide)).mpr (by omega)) c_25
  | succ j ih =>
    intro E ex i x0 hj h1 h2 hex hi
    refine ab_iload_n dX1_intBits_15 rfl ?_
    refine ab_sipush (v := nI 1100) dX1_intBits_16 (by decide) ?_
    refine ab_nicmp_ge 42 dX1_intBits_19 (by decide) (by omega) (by omega) (fun c_19 => ?_) (fun c_19 => ?_)
    · skip
      exact absurd c_19 (by omega)
    · skip
      refine ab_fload_n dX1_intBits_22 rfl ?_
      refine ab_fconst2 dX1_intBits_23 ?_
      refine ab_fcmp dX1_intBits_24 ?_
      refine ab_if_lt 42 dX1_intBits_25 (by decide) (fun c_25 => ?_) (fun c_25 => ?_)
      · skip
        exact absurd ((fb32_cmp (op := .l) fb_c2 ht (by omega) (by omega) (by decide) (by decide)).mp c_25) (by omega)
      · skip
        refine ab_fload_n dX1_intBits_28 rfl ?_
        refine ab_ldcf dX1_intBits_29 kc_X1_9 ?_
        refine ab_fmul dX1_intBits_31 (by rw [fb32_m2 (E2 := 126) fb_ch ht (by omega) (by omega) (by decide) (by decide) (by omega) (by omega)]; exact (fb_one ht).n (by omega)) ?_
        rw [fb32_m2 (E2 := 126) fb_ch ht (by omega) (by omega) (by decide) (by decide) (by omega) (by omega)]
        refine ab_stf_n (ls' := [_, _, _, _]) dX1_intBits_32 (by decide) rfl ?_
        refine ab_nincR (ls' := [_, _, _, _]) dX1_intBits_33 rfl rfl ?_
        refine ab_nincR (ls' := [_, _, _, _]) dX1_intBits_36 rfl rfl ?_
        refine ab_goto 15 dX1_intBits_39 (by decide) ?_
        exact ih (E + 126 - 127) (ex + 1) (i + 1) _ (Or.inl (by omega)) (by omega) (by omega) (by omega) (by omega)
set_option maxRecDepth 100000 in
set_option maxHeartbeats 4000000 in
theorem c_intBits {k b lo hi : Nat} {h : ab_H} {x : UInt32} (hx : FB32 lo hi x) (hl : 1 ≤ lo) (hh : hi ≤ 254) : ab_M k b mX1_intBits [.float x] h (ab_pi (fun v h' => h' = h ∧ v = x.toInt32)) := by
  rcases hx with rfl | ⟨E, t, ht, rfl, e1, e2⟩
  · refine ab_enter ?_
    refine ab_fload_n dX1_intBits_0 rfl ?_
    refine ab_fconst0 dX1_intBits_1 ?_
    refine ab_fcmp dX1_intBits_2 ?_
    refine ab_topI (show Op.cmpValue (FP.fcmp 0 FP.fconst0) .g = nI 0 by decide +kernel) ?_
    refine ab_if_gt 8 dX1_intBits_3 (by decide) (fun c_3 => ?_) (fun c_3 => ?_)
    · skip
      exact absurd c_3 (by decide)
    · skip
      refine ab_iconst (v := nI 0) dX1_intBits_6 (by decide) ?_
      refine ab_reti dX1_intBits_7 ?_
      exact ⟨rfl, by decide⟩
  · rw [UInt32.toInt32_ofNat']
    refine ab_enter ?_
    refine ab_fload_n dX1_intBits_0 rfl ?_
    refine ab_fconst0 dX1_intBits_1 ?_
    refine ab_fcmp dX1_intBits_2 ?_
    refine ab_topI (fb32_cmp0 ht (by omega) (by omega)) ?_
    refine ab_if_gt 8 dX1_intBits_3 (by decide) (fun c_3 => ?_) (fun c_3 => ?_)
    · skip
      refine ab_fload_n dX1_intBits_8 rfl ?_
      refine ab_stf_n (ls' := [_, _, _, _]) dX1_intBits_9 (by decide) rfl ?_
      refine ab_bipush (v := nI 127) dX1_intBits_10 (by decide) ?_
      refine ab_sti_n (ls' := [_, _, _, _]) dX1_intBits_12 (by decide) rfl ?_
      refine ab_iconst (v := nI 0) dX1_intBits_13 (by decide) ?_
      refine ab_sti_n (ls' := [_, _, _, _]) dX1_intBits_14 (by decide) rfl ?_
      exact lp_ib1 ht (by omega) (E - 127) E 127 0 _ (by omega) (by omega) (by omega) (by omega) (by omega)
    · skip
      exact absurd (show (0 : Int32) < 1 by decide) c_3
set_option maxRecDepth 100000 in
set_option maxHeartbeats 4000000 in
theorem lp_lb2 {k b E0 t : Nat} {h : ab_H} (ht : t < 2 ^ 52) (hE0 : E0 ≤ 2046) : ∀ (j E ex i : Nat) (x0 : UInt64), E + j = 1023 → 1 ≤ E → ex + E = 1023 + E0 → i + j ≤ 1050 → ab_R k b mX1_longBitsOfDouble 55 [some (.double x0), none, some (.double (UInt64.ofNat (E * 2 ^ 52 + t))), none, some (.long (zI (ex : Int))), none, some (.int (nI i))] [] h (ab_pl (fun v h' => h' = h ∧ v = zI ((E0 * 2 ^ 52 + t : Nat) : Int))) := by
  intro j
  induction j with
  | zero =>
    intro E ex i x0 hj h1 hex hi
    refine ab_iload dX1_longBitsOfDouble_55 rfl ?_
    refine ab_sipush (v := nI 1100) dX1_longBitsOfDouble_57 (by decide) ?_
    refine ab_nicmp_ge 87 dX1_longBitsOfDouble_60 (by decide) (by omega) (by omega) (fun c_60 => ?_) (fun c_60 => ?_)
    · skip
      exact absurd c_60 (by omega)
    · skip
      refine ab_dload_n dX1_longBitsOfDouble_63 rfl ?_
      refine ab_dconst1 dX1_longBitsOfDouble_64 ?_
      refine ab_dcmp dX1_longBitsOfDouble_65 ?_
      refine ab_if_ge 87 dX1_longBitsOfDouble_66 (by decide) (fun c_66 => ?_) (fun c_66 => ?_)
      · skip
        obtain rfl : E = 1023 := by omega
        obtain rfl : ex = E0 := by omega
        refine ab_lload dX1_longBitsOfDouble_87 rfl ?_
        refine ab_bipush (v := nI 52) dX1_longBitsOfDouble_89 (by decide) ?_
        refine ab_lshl dX1_longBitsOfDouble_91 ?_
        refine ab_topL zI_shl52 ?_
        refine ab_dload_n dX1_longBitsOfDouble_92 rfl ?_
        refine ab_dconst1 dX1_longBitsOfDouble_93 ?_
        refine ab_dsub dX1_longBitsOfDouble_94 (fb64_rest db_cm ht).1 ?_
        refine ab_ldc2d dX1_longBitsOfDouble_95 kc_X1_17 ?_
        refine ab_dmul dX1_longBitsOfDouble_98 (fb64_rest db_cm ht).2.1 ?_
        refine ab_d2l dX1_longBitsOfDouble_99 ?_
        refine ab_topL (fb64_rest db_cm ht).2.2 ?_
        refine ab_ladd dX1_longBitsOfDouble_100 ?_
        refine ab_retl dX1_longBitsOfDouble_101 ?_
        exact ⟨rfl, (zI_add _ _).trans (congrArg zI (Int.natCast_add _ _).symm)⟩
      · skip
        exact absurd ((fb64_cmp (op := .g) db_c1 ht (by omega) (by omega) (by decide) (by decide)).mp (Int32.not_le.mp c_66)) (by omega)
  | succ j ih =>
    intro E ex i x0 hj h1 hex hi
    refine ab_iload dX1_longBitsOfDouble_55 rfl ?_
    refine ab_sipush (v := nI 1100) dX1_longBitsOfDouble_57 (by decide) ?_
    refine ab_nicmp_ge 87 dX1_longBitsOfDouble_60 (by decide) (by omega) (by omega) (fun c_60 => ?_) (fun c_60 => ?_)
    · skip
      exact absurd c_60 (by omega)
    · skip
      refine ab_dload_n dX1_longBitsOfDouble_63 rfl ?_
      refine ab_dconst1 dX1_longBitsOfDouble_64 ?_
      refine ab_dcmp dX1_longBitsOfDouble_65 ?_
      refine ab_if_ge 87 dX1_longBitsOfDouble_66 (by decide) (fun c_66 => ?_) (fun c_66 => ?_)
      · skip
        exact absurd ((fb64_cmp (op := .g) db_c1 ht (by omega) (by omega) (by decide) (by decide)).mpr (by omega)) (Int32.not_lt.mpr c_66)
      · skip
        refine ab_dload_n dX1_longBitsOfDouble_69 rfl ?_
        refine ab_ldc2d dX1_longBitsOfDouble_70 kc_X1_13 ?_
        refine ab_dmul dX1_longBitsOfDouble_73 (by rw [fb64_m2 (E2 := 1024) db_c2 ht (by omega) (by omega) (by decide) (by decide) (by omega) (by omega)]; exact (db_one ht).n (by omega)) ?_
        rw [fb64_m2 (E2 := 1024) db_c2 ht (by omega) (by omega) (by decide) (by decide) (by omega) (by omega)]
        refine ab_std_n (ls' := [_, _, _, _, _, _, _]) dX1_longBitsOfDouble_74 (by decide) rfl ?_
        refine ab_lload dX1_longBitsOfDouble_75 rfl ?_
        refine ab_lconst (v := zI ((1 : Nat) : Int)) dX1_longBitsOfDouble_77 (by decide) ?_
        refine ab_lsub dX1_longBitsOfDouble_78 ?_
        refine ab_topL (zI_decN (by omega)) ?_
        refine ab_stl (ls' := [_, _, _, _, _, _, _]) dX1_longBitsOfDouble_79 (by decide) rfl ?_
        refine ab_nincR (ls' := [_, _, _, _, _, _, _]) dX1_longBitsOfDouble_81 rfl rfl ?_
        refine ab_goto 55 dX1_longBitsOfDouble_84 (by decide) ?_
        exact ih (E + 1024 - 1023) (ex - 1) (i + 1) _ (by omega) (by omega) (by omega) (by omega)
set_option maxRecDepth 100000 in
set_option maxHeartbeats 4000000 in
theorem lp_lb1 {k b E0 t : Nat} {h : ab_H} (ht : t < 2 ^ 52) (hE0 : E0 ≤ 2046) : ∀ (j E ex i : Nat) (x0 : UInt64), (E = 1023 + j ∨ (j = 0 ∧ E ≤ 1023)) → 1 ≤ E → E ≤ 2046 → ex + E = 1023 + E0 → i + j ≤ 1050 → ab_R k b mX1_longBitsOfDouble 18 [some (.double x0), none, some (.double (UInt64.ofNat (E * 2 ^ 52 + t))), none, some (.long (zI (ex : Int))), none, some (.int (nI i))] [] h (ab_pl (fun v h' => h' = h ∧ v = zI ((E0 * 2 ^ 52 + t : Nat) : Int))) := by
  intro j
  induction j with
  | zero =>
    intro E ex i x0 hj h1 h2 hex hi
    refine ab_iload dX1_longBitsOfDouble_18 rfl ?_
    refine ab_sipush (v := nI 1100) dX1_longBitsOfDouble_20 (by decide) ?_
    refine ab_nicmp_ge 52 dX1_longBitsOfDouble_23 (by decide) (by omega) (by omega) (fun c_23 => ?_) (fun c_23 => ?_)
    · skip
      exact absurd c_23 (by omega)
    · skip
      refine ab_dload_n dX1_longBitsOfDouble_26 rfl ?_
      refine ab_ldc2d dX1_longBitsOfDouble_27 kc_X1_13 ?_
      refine ab_dcmp dX1_longBitsOfDouble_30 ?_
      refine ab_if_lt 52 dX1_longBitsOfDouble_31 (by decide) (fun c_31 => ?_) (fun c_31 => ?_)
      · skip
        refine ab_iconst (v := nI 0) dX1_longBitsOfDouble_52 (by decide) ?_
        refine ab_sti (ls' := [_, _, _, _, _, _, _]) dX1_longBitsOfDouble_53 (by decide) rfl ?_
        exact lp_lb2 ht hE0 (1023 - E) E ex 0 _ (by omega) (by omega) (by omega) (by omega)
      · skip
        exact absurd ((fb64_cmp (op := .l) db_c2 ht (by omega) (by omega) (by decide) (by decide)).mpr (by omega)) c_31
  | succ j ih =>
    intro E ex i x0 hj h1 h2 hex hi
    refine ab_iload dX1_longBitsOfDouble_18 rfl ?_
    refine ab_sipush (v := nI 1100) dX1_longBitsOfDouble_20 (by decide) ?_
    refine ab_nicmp_ge 52 dX1_longBitsOfDouble_23 (by decide) (by omega) (by omega) (fun c_23 => ?_) (fun c_23 => ?_)
    · skip
      exact absurd c_23 (by omega)
    · skip
      refine ab_dload_n dX1_longBitsOfDouble_26 rfl ?_
      refine ab_ldc2d dX1_longBitsOfDouble_27 kc_X1_13 ?_
      refine ab_dcmp dX1_longBitsOfDouble_30 ?_
      refine ab_if_lt 52 dX1_longBitsOfDouble_31 (by decide) (fun c_31 => ?_) (fun c_31 => ?_)
      · skip
        exact absurd ((fb64_cmp (op := .l) db_c2 ht (by omega) (by omega) (by decide) (by decide)).mp c_31) (by omega)
      · skip
        refine ab_dload_n dX1_longBitsOfDouble_34 rfl ?_
        refine ab_ldc2d dX1_longBitsOfDouble_35 kc_X1_15 ?_
        refine ab_dmul dX1_longBitsOfDouble_38 (by rw [fb64_m2 (E2 := 1022) db_ch ht (by omega) (by omega) (by decide) (by decide) (by omega) (by omega)]; exact (db_one ht).n (by omega)) ?_
        rw [fb64_m2 (E2 := 1022) db_ch ht (by omega) (by omega) (by decide) (by decide) (by omega) (by omega)]
        refine ab_std_n (ls' := [_, _, _, _, _, _, _]) dX1_longBitsOfDouble_39 (by decide) rfl ?_
        refine ab_lload dX1_longBitsOfDouble_40 rfl ?_
        refine ab_lconst (v := zI ((1 : Nat) : Int)) dX1_longBitsOfDouble_42 (by decide) ?_
        refine ab_ladd dX1_longBitsOfDouble_43 ?_
        refine ab_topL (zI_incN _) ?_
        refine ab_stl (ls' := [_, _, _, _, _, _, _]) dX1_longBitsOfDouble_44 (by decide) rfl ?_
        refine ab_nincR (ls' := [_, _, _, _, _, _, _]) dX1_longBitsOfDouble_46 rfl rfl ?_
        refine ab_goto 18 dX1_longBitsOfDouble_49 (by decide) ?_
        exact ih (E + 1022 - 1023) (ex + 1) (i + 1) _ (Or.inl (by omega)) (by omega) (by omega) (by omega) (by omega)
set_option maxRecDepth 100000 in
set_option maxHeartbeats 4000000 in
theorem c_longBitsOf {k b lo hi : Nat} {h : ab_H} {x : UInt64} (hx : FB64 lo hi x) (hl : 1 ≤ lo) (hh : hi ≤ 2046) : ab_M k b mX1_longBitsOfDouble [.double x] h (ab_pl (fun v h' => h' = h ∧ v = x.toInt64)) := by
  rcases hx with rfl | ⟨E, t, ht, rfl, e1, e2⟩
  · refine ab_enter ?_
    refine ab_dload_n dX1_longBitsOfDouble_0 rfl ?_
    refine ab_dconst0 dX1_longBitsOfDouble_1 ?_
    refine ab_dcmp dX1_longBitsOfDouble_2 ?_
    refine ab_topI (show Op.cmpValue (FP.dcmp 0 FP.dconst0) .g = nI 0 by decide +kernel) ?_
    refine ab_if_gt 8 dX1_longBitsOfDouble_3 (by decide) (fun c_3 => ?_) (fun c_3 => ?_)
    · skip
      exact absurd c_3 (by decide)
    · skip
      refine ab_lconst (v := 0) dX1_longBitsOfDouble_6 (by decide) ?_
      refine ab_retl dX1_longBitsOfDouble_7 ?_
      exact ⟨rfl, by decide⟩
  · rw [show (UInt64.ofNat (E * 2 ^ 52 + t)).toInt64 = zI ((E * 2 ^ 52 + t : Nat) : Int) from (UInt64.toInt64_ofNat').trans Int64.ofInt_eq_ofNat.symm]
    refine ab_enter ?_
    refine ab_dload_n dX1_longBitsOfDouble_0 rfl ?_
    refine ab_dconst0 dX1_longBitsOfDouble_1 ?_
    refine ab_dcmp dX1_longBitsOfDouble_2 ?_
    refine ab_topI (fb64_cmp0 ht (by omega) (by omega)) ?_
    refine ab_if_gt 8 dX1_longBitsOfDouble_3 (by decide) (fun c_3 => ?_) (fun c_3 => ?_)
    · skip
      refine ab_dload_n dX1_longBitsOfDouble_8 rfl ?_
      refine ab_std_n (ls' := [_, _, _, _, _, _, _]) dX1_longBitsOfDouble_9 (by decide) rfl ?_
      refine ab_ldc2 dX1_longBitsOfDouble_10 kc_X1_11 ?_
      refine ab_topL (show (1023 : Int64) = zI ((1023 : Nat) : Int) by decide) ?_
      refine ab_stl (ls' := [_, _, _, _, _, _, _]) dX1_longBitsOfDouble_13 (by decide) rfl ?_
      refine ab_iconst (v := nI 0) dX1_longBitsOfDouble_15 (by decide) ?_
      refine ab_sti (ls' := [_, _, _, _, _, _, _]) dX1_longBitsOfDouble_16 (by decide) rfl ?_
      exact lp_lb1 ht (by omega) (E - 1023) E 1023 0 _ (by omega) (by omega) (by omega) (by omega) (by omega)
    · skip
      exact absurd (show (0 : Int32) < 1 by decide) c_3
set_option maxRecDepth 100000 in
set_option maxHeartbeats 4000000 in
theorem l_isNaN32 {k b lo hi : Nat} {h : ab_H} {x : UInt32} (hx : FB32 lo hi x) (hl : 1 ≤ lo) (hh : hi ≤ 254) : ab_M k b mJxf58ca_isNaN_12338 [.float x] h (ab_pb (fun t h' => h' = h ∧ t = false)) := by
  refine ab_enterF ?_ (by decide +kernel)
  refine ab_fload_n dJxf58ca_isNaN_12338_0 rfl ?_
  refine ab_fload_n dJxf58ca_isNaN_12338_1 rfl ?_
  refine ab_fcmp dJxf58ca_isNaN_12338_2 ?_
  refine ab_topI (hx.self hl hh) ?_
  refine ab_if_eq 10 dJxf58ca_isNaN_12338_3 (by decide) (fun c_3 => ?_) (fun c_3 => ?_)
  · skip
    refine ab_iconst (v := nI 0) dJxf58ca_isNaN_12338_10 (by decide) ?_
    refine ab_retb (x := false) dJxf58ca_isNaN_12338_11 ?_
    exact ⟨rfl, rfl⟩
  · skip
    exact absurd rfl c_3
set_option maxRecDepth 100000 in
set_option maxHeartbeats 4000000 in
theorem l_bits32 {k b lo hi : Nat} {h : ab_H} {x : UInt32} (hk : 1 ≤ k) (hx : FB32 lo hi x) (hl : 1 ≤ lo) (hh : hi ≤ 254) : ab_M k b mJxf58ca_floatToIntBits_5c35a [.float x] h (ab_pi (fun v h' => h' = h ∧ v = x.toInt32)) := by
  refine ab_enterF ?_ (by decide +kernel)
  refine ab_fload_n dJxf58ca_floatToIntBits_5c35a_0 rfl ?_
  refine ab_callSb [_] dJxf58ca_floatToIntBits_5c35a_1 ml_Jxf58ca_59 mk_Jxf58ca_isNaN_12338 (l_isNaN32 (k := 0) (b := 0) hx hl hh) (fun t hh1 hq => ?_)
  obtain ⟨hhe, rfl⟩ := hq
  rw [hhe]
  refine ab_bif_ne 12 dJxf58ca_floatToIntBits_5c35a_4 (by decide) (fun c_4 => ?_) (fun c_4 => ?_)
  · skip
    exact absurd c_4 (by decide)
  · skip
    refine ab_fload_n dJxf58ca_floatToIntBits_5c35a_7 rfl ?_
    refine ab_f2raw dJxf58ca_floatToIntBits_5c35a_8 ml_Jxf58ca_74 ?_
    refine ab_reti dJxf58ca_floatToIntBits_5c35a_11 ?_
    exact ⟨rfl, rfl⟩
set_option maxRecDepth 100000 in
set_option maxHeartbeats 4000000 in
theorem l_isNaN64 {k b lo hi : Nat} {h : ab_H} {x : UInt64} (hx : FB64 lo hi x) (hl : 1 ≤ lo) (hh : hi ≤ 2046) : ab_M k b mJxe99ae_isNaN_b9ae7 [.double x] h (ab_pb (fun t h' => h' = h ∧ t = false)) := by
  refine ab_enterF ?_ (by decide +kernel)
  refine ab_dload_n dJxe99ae_isNaN_b9ae7_0 rfl ?_
  refine ab_dload_n dJxe99ae_isNaN_b9ae7_1 rfl ?_
  refine ab_dcmp dJxe99ae_isNaN_b9ae7_2 ?_
  refine ab_topI (hx.self hl hh) ?_
  refine ab_if_eq 10 dJxe99ae_isNaN_b9ae7_3 (by decide) (fun c_3 => ?_) (fun c_3 => ?_)
  · skip
    refine ab_iconst (v := nI 0) dJxe99ae_isNaN_b9ae7_10 (by decide) ?_
    refine ab_retb (x := false) dJxe99ae_isNaN_b9ae7_11 ?_
    exact ⟨rfl, rfl⟩
  · skip
    exact absurd rfl c_3
set_option maxRecDepth 100000 in
set_option maxHeartbeats 4000000 in
theorem l_bits64 {k b lo hi : Nat} {h : ab_H} {x : UInt64} (hk : 1 ≤ k) (hx : FB64 lo hi x) (hl : 1 ≤ lo) (hh : hi ≤ 2046) : ab_M k b mJxe99ae_doubleToLongBits_ccdee [.double x] h (ab_pl (fun v h' => h' = h ∧ v = x.toInt64)) := by
  refine ab_enterF ?_ (by decide +kernel)
  refine ab_dload_n dJxe99ae_doubleToLongBits_ccdee_0 rfl ?_
  refine ab_callSb [_] dJxe99ae_doubleToLongBits_ccdee_1 ml_Jxe99ae_122 mk_Jxe99ae_isNaN_b9ae7 (l_isNaN64 (k := 0) (b := 0) hx hl hh) (fun t hh1 hq => ?_)
  obtain ⟨hhe, rfl⟩ := hq
  rw [hhe]
  refine ab_bif_ne 12 dJxe99ae_doubleToLongBits_ccdee_4 (by decide) (fun c_4 => ?_) (fun c_4 => ?_)
  · skip
    exact absurd c_4 (by decide)
  · skip
    refine ab_dload_n dJxe99ae_doubleToLongBits_ccdee_7 rfl ?_
    refine ab_d2raw dJxe99ae_doubleToLongBits_ccdee_8 ml_Jxe99ae_134 ?_
    refine ab_retl dJxe99ae_doubleToLongBits_ccdee_11 ?_
    exact ⟨rfl, rfl⟩
