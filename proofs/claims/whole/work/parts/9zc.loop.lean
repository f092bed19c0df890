/-! ===== the law: the loop ===== -/
theorem n5_i {n i : Nat} (hn : n ≤ 2560) (hi : i ≤ 100000) : nI i > nI n - nI 5 ↔ (n : Int) - 5 < i := by
  show nI n - nI 5 < nI i ↔ _
  rw [Int32.lt_iff_toInt_lt, Int32.toInt_sub, nI_toInt (by omega), nI_toInt (by omega), nI_toInt (by omega), Int.bmod_def]
  omega
set_option maxRecDepth 100000 in
set_option maxHeartbeats 4000000 in
theorem lp_law {k : Nat} (hk : 12 ≤ k) : ∀ (j i : Nat) (h : ab_H) (W : wS), (ab_e h 1).1 ≤ i + 5 * j + 4 → (ab_e h 1).1 ≤ 2560 → i ≤ (ab_e h 1).1 + 5 → INV W h → ab_R k (110 * j) mL_law 18 [some (.ref 1), some (.ref 5), some (.ref 50), some (.int (nI i))] [] h (ab_pb (fun t _ => t = true)) := by
  intro j
  induction j with
  | zero =>
    intro i h W hl hn hi H
    refine ab_iload_n dL_law_18 rfl ?_
    refine ab_aload_n dL_law_19 rfl ?_
    refine ab_elen dL_law_20 rfl ?_
    refine ab_iconst (v := nI 5) dL_law_21 (by decide) ?_
    refine ab_isub dL_law_22 ?_
    refine ab_icmp_gt 1402 dL_law_23 (by decide) (fun c_23 => ?_) (fun c_23 => ?_)
    · skip
      refine ab_iconst (v := nI 1) dL_law_1402 (by decide) ?_
      refine ab_retb (x := true) dL_law_1403 ?_
      rfl
    · skip
      exact absurd ((n5_i hn (by omega)).mpr (by omega)) c_23
  | succ j ih =>
    intro i h W hl hn hi H
    by_cases hx5 : i + 5 ≤ (ab_e h 1).1
    case neg =>
      refine ab_iload_n dL_law_18 rfl ?_
      refine ab_aload_n dL_law_19 rfl ?_
      refine ab_elen dL_law_20 rfl ?_
      refine ab_iconst (v := nI 5) dL_law_21 (by decide) ?_
      refine ab_isub dL_law_22 ?_
      refine ab_icmp_gt 1402 dL_law_23 (by decide) (fun c_23 => ?_) (fun c_23 => ?_)
      · skip
        refine ab_iconst (v := nI 1) dL_law_1402 (by decide) ?_
        refine ab_retb (x := true) dL_law_1403 ?_
        rfl
      · skip
        exact absurd ((n5_i hn (by omega)).mpr (by omega)) c_23
    have cont : ∀ (W' : wS) (h' : ab_H), INV W' h' → ab_e h' = ab_e h → ab_R k (110 * (j + 1) - 110) mL_law 1396 [some (.ref 1), some (.ref 5), some (.ref 50), some (.int (nI i))] [] h' (ab_pb (fun t _ => t = true)) := by
      intro W9 h9 H9 e9
      refine ab_iinc' (ls' := [_, _, _, _]) dL_law_1396 rfl (show nI i + nI 5 = nI (i + 5) by first | rfl | exact (Int32.ofNat_add i 5).symm | simp [nI]) rfl ?_
      refine ab_goto 18 dL_law_1399 (by decide) ?_
      exact ab_less (by omega) (ih (i + 5) h9 W9 (by rw [e9]; omega) (by rw [e9]; exact hn) (by rw [e9]; omega) H9)
    refine ab_iload_n dL_law_18 rfl ?_
    refine ab_aload_n dL_law_19 rfl ?_
    refine ab_elen dL_law_20 rfl ?_
    refine ab_iconst (v := nI 5) dL_law_21 (by decide) ?_
    refine ab_isub dL_law_22 ?_
    refine ab_icmp_gt 1402 dL_law_23 (by decide) (fun c_23 => ?_) (fun c_23 => ?_)
    · skip
      exact absurd ((n5_i hn (by omega)).mp c_23) (by omega)
    · skip
      refine ab_aload_n dL_law_26 rfl ?_
      refine ab_iload_n dL_law_27 rfl ?_
      refine ab_eald dL_law_28 rfl (by have := mt (n5_i hn (by omega)).mpr c_23; omega) rfl ?_
      refine ab_bipush (v := nI 63) dL_law_29 (by decide) ?_
      refine ab_iand dL_law_31 ?_
      generalize ((ab_e h 1).2 i &&& nI 63) = x9
      rcases ab_swc 35 x9 with hsw | ⟨jsw, hjsw, rfl⟩
      · refine ab_tableOut 1396 dL_law_32 hsw (by decide) ?_
        exact ab_less (by omega) (cont W h H rfl)
      · match jsw, hjsw with
        | 0, _ =>
          refine ab_tableIn (off := 160) 192 dL_law_32 (by decide) (by decide) (by decide) (by decide) ?_
          exact law_0 hk H (by omega) (by have := mt (n5_i hn (by omega)).mpr c_23; omega) cont
        | 1, _ =>
          refine ab_tableIn (off := 183) 215 dL_law_32 (by decide) (by decide) (by decide) (by decide) ?_
          exact law_1 hk (by omega) H (by omega) (by have := mt (n5_i hn (by omega)).mpr c_23; omega) cont
        | 2, _ =>
          refine ab_tableIn (off := 196) 228 dL_law_32 (by decide) (by decide) (by decide) (by decide) ?_
          exact law_2 hk (by omega) H (by omega) (by have := mt (n5_i hn (by omega)).mpr c_23; omega) cont
        | 3, _ =>
          refine ab_tableIn (off := 239) 271 dL_law_32 (by decide) (by decide) (by decide) (by decide) ?_
          exact law_3 hk (by omega) H (by omega) (by have := mt (n5_i hn (by omega)).mpr c_23; omega) cont
        | 4, _ =>
          refine ab_tableIn (off := 272) 304 dL_law_32 (by decide) (by decide) (by decide) (by decide) ?_
          exact law_4 hk (by omega) H (by omega) (by have := mt (n5_i hn (by omega)).mpr c_23; omega) cont
        | 5, _ =>
          refine ab_tableIn (off := 305) 337 dL_law_32 (by decide) (by decide) (by decide) (by decide) ?_
          exact law_5 hk (by omega) H (by omega) (by have := mt (n5_i hn (by omega)).mpr c_23; omega) cont
        | 6, _ =>
          refine ab_tableIn (off := 358) 390 dL_law_32 (by decide) (by decide) (by decide) (by decide) ?_
          exact law_6 hk (by omega) H (by omega) (by have := mt (n5_i hn (by omega)).mpr c_23; omega) cont
        | 7, _ =>
          refine ab_tableIn (off := 381) 413 dL_law_32 (by decide) (by decide) (by decide) (by decide) ?_
          exact law_7 hk (by omega) H (by omega) (by have := mt (n5_i hn (by omega)).mpr c_23; omega) cont
        | 8, _ =>
          refine ab_tableIn (off := 415) 447 dL_law_32 (by decide) (by decide) (by decide) (by decide) ?_
          exact law_8 hk (by omega) H (by omega) (by have := mt (n5_i hn (by omega)).mpr c_23; omega) cont
        | 9, _ =>
          refine ab_tableIn (off := 458) 490 dL_law_32 (by decide) (by decide) (by decide) (by decide) ?_
          exact law_9 hk (by omega) H (by omega) (by have := mt (n5_i hn (by omega)).mpr c_23; omega) cont
        | 10, _ =>
          refine ab_tableIn (off := 502) 534 dL_law_32 (by decide) (by decide) (by decide) (by decide) ?_
          exact law_10 hk (by omega) H (by omega) (by have := mt (n5_i hn (by omega)).mpr c_23; omega) cont
        | 11, _ =>
          refine ab_tableIn (off := 545) 577 dL_law_32 (by decide) (by decide) (by decide) (by decide) ?_
          exact law_11 hk (by omega) H (by omega) (by have := mt (n5_i hn (by omega)).mpr c_23; omega) cont
        | 12, _ =>
          refine ab_tableIn (off := 588) 620 dL_law_32 (by decide) (by decide) (by decide) (by decide) ?_
          exact law_12 hk (by omega) H (by omega) (by have := mt (n5_i hn (by omega)).mpr c_23; omega) cont
        | 13, _ =>
          refine ab_tableIn (off := 611) 643 dL_law_32 (by decide) (by decide) (by decide) (by decide) ?_
          exact law_13 hk (by omega) H (by omega) (by have := mt (n5_i hn (by omega)).mpr c_23; omega) cont
        | 14, _ =>
          refine ab_tableIn (off := 634) 666 dL_law_32 (by decide) (by decide) (by decide) (by decide) ?_
          exact law_14 hk (by omega) H (by omega) (by have := mt (n5_i hn (by omega)).mpr c_23; omega) cont
        | 15, _ =>
          refine ab_tableIn (off := 687) 719 dL_law_32 (by decide) (by decide) (by decide) (by decide) ?_
          exact law_15 hk (by omega) H (by omega) (by have := mt (n5_i hn (by omega)).mpr c_23; omega) cont
        | 16, _ =>
          refine ab_tableIn (off := 720) 752 dL_law_32 (by decide) (by decide) (by decide) (by decide) ?_
          exact law_16 hk (by omega) H (by omega) (by have := mt (n5_i hn (by omega)).mpr c_23; omega) cont
        | 17, _ =>
          refine ab_tableIn (off := 753) 785 dL_law_32 (by decide) (by decide) (by decide) (by decide) ?_
          exact law_17 hk (by omega) H (by omega) (by have := mt (n5_i hn (by omega)).mpr c_23; omega) cont
        | 18, _ =>
          refine ab_tableIn (off := 806) 838 dL_law_32 (by decide) (by decide) (by decide) (by decide) ?_
          exact law_18 hk (by omega) H (by omega) (by have := mt (n5_i hn (by omega)).mpr c_23; omega) cont
        | 19, _ =>
          refine ab_tableIn (off := 839) 871 dL_law_32 (by decide) (by decide) (by decide) (by decide) ?_
          exact law_19 hk (by omega) H (by omega) (by have := mt (n5_i hn (by omega)).mpr c_23; omega) cont
        | 20, _ =>
          refine ab_tableIn (off := 873) 905 dL_law_32 (by decide) (by decide) (by decide) (by decide) ?_
          exact law_20 hk (by omega) H (by omega) (by have := mt (n5_i hn (by omega)).mpr c_23; omega) cont
        | 21, _ =>
          refine ab_tableIn (off := 907) 939 dL_law_32 (by decide) (by decide) (by decide) (by decide) ?_
          exact law_21 hk (by omega) H (by omega) (by have := mt (n5_i hn (by omega)).mpr c_23; omega) cont
        | 22, _ =>
          refine ab_tableIn (off := 940) 972 dL_law_32 (by decide) (by decide) (by decide) (by decide) ?_
          exact law_22 hk (by omega) H (by omega) (by have := mt (n5_i hn (by omega)).mpr c_23; omega) cont
        | 23, _ =>
          refine ab_tableIn (off := 963) 995 dL_law_32 (by decide) (by decide) (by decide) (by decide) ?_
          exact law_23 hk (by omega) H (by omega) (by have := mt (n5_i hn (by omega)).mpr c_23; omega) cont
        | 24, _ =>
          refine ab_tableIn (off := 996) 1028 dL_law_32 (by decide) (by decide) (by decide) (by decide) ?_
          exact law_24 hk (by omega) H (by omega) (by have := mt (n5_i hn (by omega)).mpr c_23; omega) cont
        | 25, _ =>
          refine ab_tableIn (off := 1020) 1052 dL_law_32 (by decide) (by decide) (by decide) (by decide) ?_
          exact law_25 hk (by omega) H (by omega) (by have := mt (n5_i hn (by omega)).mpr c_23; omega) cont
        | 26, _ =>
          refine ab_tableIn (off := 1063) 1095 dL_law_32 (by decide) (by decide) (by decide) (by decide) ?_
          exact law_26 hk (by omega) H (by omega) (by have := mt (n5_i hn (by omega)).mpr c_23; omega) cont
        | 27, _ =>
          refine ab_tableIn (off := 1106) 1138 dL_law_32 (by decide) (by decide) (by decide) (by decide) ?_
          exact law_27 hk (by omega) H (by omega) (by have := mt (n5_i hn (by omega)).mpr c_23; omega) cont
        | 28, _ =>
          refine ab_tableIn (off := 1149) 1181 dL_law_32 (by decide) (by decide) (by decide) (by decide) ?_
          exact law_28 hk (by omega) H (by omega) (by have := mt (n5_i hn (by omega)).mpr c_23; omega) cont
        | 29, _ =>
          refine ab_tableIn (off := 1182) 1214 dL_law_32 (by decide) (by decide) (by decide) (by decide) ?_
          exact law_29 hk (by omega) H (by omega) (by have := mt (n5_i hn (by omega)).mpr c_23; omega) cont
        | 30, _ =>
          refine ab_tableIn (off := 1215) 1247 dL_law_32 (by decide) (by decide) (by decide) (by decide) ?_
          exact law_30 hk (by omega) H (by omega) (by have := mt (n5_i hn (by omega)).mpr c_23; omega) cont
        | 31, _ =>
          refine ab_tableIn (off := 1258) 1290 dL_law_32 (by decide) (by decide) (by decide) (by decide) ?_
          exact law_31 hk (by omega) H (by omega) (by have := mt (n5_i hn (by omega)).mpr c_23; omega) cont
        | 32, _ =>
          refine ab_tableIn (off := 1292) 1324 dL_law_32 (by decide) (by decide) (by decide) (by decide) ?_
          exact law_32 hk (by omega) H (by omega) (by have := mt (n5_i hn (by omega)).mpr c_23; omega) cont
        | 33, _ =>
          refine ab_tableIn (off := 1315) 1347 dL_law_32 (by decide) (by decide) (by decide) (by decide) ?_
          exact law_33 hk (by omega) H (by omega) (by have := mt (n5_i hn (by omega)).mpr c_23; omega) cont
        | 34, _ =>
          refine ab_tableIn (off := 1328) 1360 dL_law_32 (by decide) (by decide) (by decide) (by decide) ?_
          exact law_34 hk (by omega) H (by omega) (by have := mt (n5_i hn (by omega)).mpr c_23; omega) cont
        | 35, _ =>
          refine ab_tableIn (off := 1341) 1373 dL_law_32 (by decide) (by decide) (by decide) (by decide) ?_
          exact law_35 hk (by omega) H (by omega) (by have := mt (n5_i hn (by omega)).mpr c_23; omega) cont
        | jj + 36, hq => exact absurd hq (by omega)
