/-! ===== the model: points and triangles ===== -/
/-- nothing but longs of the model itself -/
def ab_fL (h h' : ab_H) : Prop := ab_n h' = ab_n h ∧ ab_sh h' = ab_sh h ∧ ab_i h' = ab_i h ∧ ab_r h' = ab_r h ∧ ab_e h' = ab_e h ∧ ∀ a, a ≠ 50 → ab_l h' a = ab_l h a
theorem ab_fL.rf (h : ab_H) : ab_fL h h := ⟨rfl, rfl, rfl, rfl, rfl, fun _ _ => rfl⟩
theorem ab_fL.trans {h h1 h2 : ab_H} (f : ab_fL h h1) (g : ab_fL h1 h2) : ab_fL h h2 := ⟨g.1.trans f.1, g.2.1.trans f.2.1, g.2.2.1.trans f.2.2.1, g.2.2.2.1.trans f.2.2.2.1, g.2.2.2.2.1.trans f.2.2.2.2.1, fun a ha => (g.2.2.2.2.2 a ha).trans (f.2.2.2.2.2 a ha)⟩
theorem ab_fL.sl {h h1 : ab_H} (f : ab_fL h h1) (k : Nat) (v : Int64) : ab_fL h (ab_sl h1 50 k v) := ⟨f.1, f.2.1, f.2.2.1, f.2.2.2.1, f.2.2.2.2.1, fun a ha => (ab_up_ne _ _ ha).trans (f.2.2.2.2.2 a ha)⟩
theorem ab_fL.fr {h h1 : ab_H} (f : ab_fL h h1) : ab_fr [50] h h1 := ⟨f.1, f.2.1, f.2.2.2.1, f.2.2.2.2.1, fun a ha => ⟨by rw [f.2.2.1], f.2.2.2.2.2 a (fun q => ha (by rw [q]; exact List.mem_cons_self))⟩⟩
theorem at_M.fL {h h1 : ab_H} (f : ab_fL h h1) (H : at_M (ab_sh h) (ab_r h)) : at_M (ab_sh h1) (ab_r h1) := by rw [f.2.1, f.2.2.2.1]; exact H
theorem ab_l_sl_same (h : ab_H) (a k : Nat) (v : Int64) (j : Nat) : ab_l (ab_sl h a k v) a j = if j = k then v else ab_l h a j := by rw [ab_l_sl, if_pos rfl]; rfl
/-- a coordinate -/
def cX (P : Nat × Nat) (e : Nat) : Nat := if e = 0 then P.1 else P.2
def sh_M (s : sS) (h : ab_H) : Prop := sW s ∧ ab_i h 50 15 = nI s.1 ∧ ab_i h 50 17 = nI s.2.2.1 ∧ (∀ i e, i < s.1 → e < 2 → ab_i h 62 (4 * i + 2 * e) = nI (cX (s.2.1 i) e / 100) ∧ ab_i h 62 (4 * i + 2 * e + 1) = nI (cX (s.2.1 i) e % 100)) ∧ ∀ i, i < s.2.2.1 → ab_i h 63 i = nI (s.2.2.2 i).1 ∧ ab_i h 64 (3 * i) = nI (s.2.2.2 i).2.1 ∧ ab_i h 64 (3 * i + 1) = nI (s.2.2.2 i).2.2.1 ∧ ab_i h 64 (3 * i + 2) = nI (s.2.2.2 i).2.2.2
theorem sh_M.W {s : sS} {h : ab_H} (H : sh_M s h) : sW s := H.1
theorem sh_M.np {s : sS} {h : ab_H} (H : sh_M s h) : ab_i h 50 15 = nI s.1 := H.2.1
theorem sh_M.nt {s : sS} {h : ab_H} (H : sh_M s h) : ab_i h 50 17 = nI s.2.2.1 := H.2.2.1
theorem sh_M.nu {s : sS} {h : ab_H} (H : sh_M s h) {i e : Nat} (hi : i < s.1) (he : e < 2) : ab_i h 62 (4 * i + 2 * e) = nI (cX (s.2.1 i) e / 100) ∧ ab_i h 62 (4 * i + 2 * e + 1) = nI (cX (s.2.1 i) e % 100) := H.2.2.2.1 i e hi he
theorem sh_M.tr {s : sS} {h : ab_H} (H : sh_M s h) {i : Nat} (hi : i < s.2.2.1) : ab_i h 63 i = nI (s.2.2.2 i).1 ∧ ab_i h 64 (3 * i) = nI (s.2.2.2 i).2.1 ∧ ab_i h 64 (3 * i + 1) = nI (s.2.2.2 i).2.2.1 ∧ ab_i h 64 (3 * i + 2) = nI (s.2.2.2 i).2.2.2 := H.2.2.2.2 i hi
theorem sh_M.fL {s : sS} {h h1 : ab_H} (f : ab_fL h h1) (H : sh_M s h) : sh_M s h1 := by unfold sh_M; rw [f.2.2.1]; exact H
theorem cX_ok {P : Nat × Nat} (h : pOK P) (e : Nat) : cX P e < 10000 ∧ cX P e % 100 ≠ 0 := by
  unfold cX
  split
  · exact h.1
  · exact h.2
theorem nI_pred6 {n : Nat} (h : n ≤ 1000) : ((nI n - nI 1).toInt64).toInt = (n : Int) - 1 := by
  rw [Int32.toInt_toInt64, Int32.toInt_sub, nI_toInt (by omega), nI_toInt (by omega)]
  exact Int.bmod_eq_of_le (by simp; omega) (by simp; omega)
theorem st_hi {n : Nat} (h : n ≤ 10) : ((nI (1 <<< n - 1)).toInt64).toInt = ((2 ^ n : Nat) : Int) - 1 := by
  have h1 : 2 ^ n ≤ 1024 := Nat.le_trans (Nat.pow_le_pow_right (by omega) h) (by decide)
  have h2 : 0 < 2 ^ n := Nat.two_pow_pos n
  rw [Int32.toInt_toInt64, Nat.one_shiftLeft, nI_toInt (by omega)]
  omega
set_option maxRecDepth 100000 in
set_option maxHeartbeats 4000000 in
theorem m_isPoint {k b : Nat} {h : ab_H} {s : sS} {x : Int32} (hk : 1 ≤ k) (hM : at_M (ab_sh h) (ab_r h)) (hD : sh_M s h) : ab_M k b mX12_isPoint [.ref 50, .int x] h (ab_pb (fun t h' => h' = h ∧ t = ab_inr 0 ((s.1 : Int) - 1) x)) := by
  have hW := hD.W
  have h10 := hW.1
  have h11 := hW.2.1
  refine ab_enter ?_
  refine ab_iload_n dX12_isPoint_0 rfl ?_
  refine ab_i2l dX12_isPoint_1 ?_
  refine ab_lconst (v := 0) dX12_isPoint_2 (by decide) ?_
  refine ab_aload_n dX12_isPoint_3 rfl ?_
  refine ab_getI dX12_isPoint_4 fl_X12_207 hM.hs hD.np ?_
  refine ab_iconst (v := nI 1) dX12_isPoint_7 (by decide) ?_
  refine ab_isub dX12_isPoint_8 ?_
  refine ab_i2l dX12_isPoint_9 ?_
  refine ab_callSb [_, _, _] dX12_isPoint_10 ml_X12_123 mk_X12_isIn (m_isIn (k := 0) (b := 0) (Int32.toInt_toInt64 _) (lo := 0) (by decide) (nI_pred6 (by omega))) (fun t hh hq => ?_)
  obtain ⟨hhe, rfl⟩ := hq
  rw [hhe]
  refine ab_retb dX12_isPoint_13 ?_
  exact ⟨rfl, rfl⟩
set_option maxRecDepth 100000 in
set_option maxHeartbeats 4000000 in
theorem m_isTriangle {k b : Nat} {h : ab_H} {s : sS} {x : Int32} (hk : 1 ≤ k) (hM : at_M (ab_sh h) (ab_r h)) (hD : sh_M s h) : ab_M k b mX12_isTriangle [.ref 50, .int x] h (ab_pb (fun t h' => h' = h ∧ t = ab_inr 0 ((s.2.2.1 : Int) - 1) x)) := by
  have hW := hD.W
  have h10 := hW.1
  have h11 := hW.2.1
  refine ab_enter ?_
  refine ab_iload_n dX12_isTriangle_0 rfl ?_
  refine ab_i2l dX12_isTriangle_1 ?_
  refine ab_lconst (v := 0) dX12_isTriangle_2 (by decide) ?_
  refine ab_aload_n dX12_isTriangle_3 rfl ?_
  refine ab_getI dX12_isTriangle_4 fl_X12_238 hM.hs hD.nt ?_
  refine ab_iconst (v := nI 1) dX12_isTriangle_7 (by decide) ?_
  refine ab_isub dX12_isTriangle_8 ?_
  refine ab_i2l dX12_isTriangle_9 ?_
  refine ab_callSb [_, _, _] dX12_isTriangle_10 ml_X12_123 mk_X12_isIn (m_isIn (k := 0) (b := 0) (Int32.toInt_toInt64 _) (lo := 0) (by decide) (nI_pred6 (by omega))) (fun t hh hq => ?_)
  obtain ⟨hhe, rfl⟩ := hq
  rw [hhe]
  refine ab_retb dX12_isTriangle_13 ?_
  exact ⟨rfl, rfl⟩
set_option maxRecDepth 100000 in
set_option maxHeartbeats 4000000 in
theorem m_isSet {k b : Nat} {h : ab_H} {s : sS} {x : Int32} (hk : 1 ≤ k) (hM : at_M (ab_sh h) (ab_r h)) (hD : sh_M s h) : ab_M k b mX12_isSet [.ref 50, .int x] h (ab_pb (fun t h' => h' = h ∧ t = st_in s.2.2.1 x)) := by
  have hW := hD.W
  have h10 := hW.1
  have h11 := hW.2.1
  refine ab_enter ?_
  refine ab_iload_n dX12_isSet_0 rfl ?_
  refine ab_i2l dX12_isSet_1 ?_
  refine ab_lconst (v := 0) dX12_isSet_2 (by decide) ?_
  refine ab_iconst (v := nI 1) dX12_isSet_3 (by decide) ?_
  refine ab_aload_n dX12_isSet_4 rfl ?_
  refine ab_getI dX12_isSet_5 fl_X12_238 hM.hs hD.nt ?_
  refine ab_nshlR dX12_isSet_8 (by omega) ?_
  refine ab_iconst (v := nI 1) dX12_isSet_9 (by decide) ?_
  refine ab_nsubR dX12_isSet_10 (by rw [Nat.one_shiftLeft]; exact Nat.two_pow_pos _) ?_
  refine ab_i2l dX12_isSet_11 ?_
  refine ab_callSb [_, _, _] dX12_isSet_12 ml_X12_123 mk_X12_isIn (m_isIn (k := 0) (b := 0) (Int32.toInt_toInt64 _) (lo := 0) (by decide) (st_hi h11)) (fun t hh hq => ?_)
  obtain ⟨hhe, rfl⟩ := hq
  rw [hhe]
  refine ab_retb dX12_isSet_15 ?_
  exact ⟨rfl, rfl⟩
set_option maxRecDepth 100000 in
set_option maxHeartbeats 4000000 in
theorem m_areThree {k b : Nat} {h : ab_H} {s : sS} {x y z : Int32} (hk : 2 ≤ k) (hM : at_M (ab_sh h) (ab_r h)) (hD : sh_M s h) : ab_M k b mX12_areThree [.ref 50, .int x, .int y, .int z] h (ab_pb (fun t h' => h' = h ∧ t = @decide (th s.1 x y z) (Classical.propDecidable _))) := by
  refine ab_enter ?_
  refine ab_aload_n dX12_areThree_0 rfl ?_
  refine ab_iload_n dX12_areThree_1 rfl ?_
  refine ab_callVb [_] dX12_areThree_2 ml_X12_227 mk_X12_isPoint hM.hs (m_isPoint (k := 1) (b := 0) (Nat.le_refl _) hM hD) (fun t1 hh_t1 hq_t1 => ?_)
  obtain ⟨hhe_t1, rfl⟩ := hq_t1
  rw [hhe_t1]
  refine ab_bif_eq 43 dX12_areThree_5 (by decide) (fun c_5 => ?_) (fun c_5 => ?_)
  · skip
    refine ab_iconst (v := nI 0) dX12_areThree_43 (by decide) ?_
    refine ab_retb (x := false) dX12_areThree_44 ?_
    first | exact ⟨rfl, (@decide_eq_false _ (Classical.propDecidable _) (fun q => by first | exact ab_tf q.1 c_5 | exact ab_tf q.2.1 c_13 | exact ab_tf q.2.2.1 c_21 | exact q.2.2.2.1 c_26 | exact q.2.2.2.2.1 c_31 | exact q.2.2.2.2.2 c_36)).symm⟩ | exact ⟨rfl, (@decide_eq_true _ (Classical.propDecidable _) ⟨c_5, c_13, c_21, c_26, c_31, c_36⟩).symm⟩
  · skip
    refine ab_aload_n dX12_areThree_8 rfl ?_
    refine ab_iload_n dX12_areThree_9 rfl ?_
    refine ab_callVb [_] dX12_areThree_10 ml_X12_227 mk_X12_isPoint hM.hs (m_isPoint (k := 1) (b := 0) (Nat.le_refl _) hM hD) (fun t2 hh_t2 hq_t2 => ?_)
    obtain ⟨hhe_t2, rfl⟩ := hq_t2
    rw [hhe_t2]
    refine ab_bif_eq 43 dX12_areThree_13 (by decide) (fun c_13 => ?_) (fun c_13 => ?_)
    · skip
      refine ab_iconst (v := nI 0) dX12_areThree_43 (by decide) ?_
      refine ab_retb (x := false) dX12_areThree_44 ?_
      first | exact ⟨rfl, (@decide_eq_false _ (Classical.propDecidable _) (fun q => by first | exact ab_tf q.1 c_5 | exact ab_tf q.2.1 c_13 | exact ab_tf q.2.2.1 c_21 | exact q.2.2.2.1 c_26 | exact q.2.2.2.2.1 c_31 | exact q.2.2.2.2.2 c_36)).symm⟩ | exact ⟨rfl, (@decide_eq_true _ (Classical.propDecidable _) ⟨c_5, c_13, c_21, c_26, c_31, c_36⟩).symm⟩
    · skip
      refine ab_aload_n dX12_areThree_16 rfl ?_
      refine ab_iload_n dX12_areThree_17 rfl ?_
      refine ab_callVb [_] dX12_areThree_18 ml_X12_227 mk_X12_isPoint hM.hs (m_isPoint (k := 1) (b := 0) (Nat.le_refl _) hM hD) (fun t3 hh_t3 hq_t3 => ?_)
      obtain ⟨hhe_t3, rfl⟩ := hq_t3
      rw [hhe_t3]
      refine ab_bif_eq 43 dX12_areThree_21 (by decide) (fun c_21 => ?_) (fun c_21 => ?_)
      · skip
        refine ab_iconst (v := nI 0) dX12_areThree_43 (by decide) ?_
        refine ab_retb (x := false) dX12_areThree_44 ?_
        first | exact ⟨rfl, (@decide_eq_false _ (Classical.propDecidable _) (fun q => by first | exact ab_tf q.1 c_5 | exact ab_tf q.2.1 c_13 | exact ab_tf q.2.2.1 c_21 | exact q.2.2.2.1 c_26 | exact q.2.2.2.2.1 c_31 | exact q.2.2.2.2.2 c_36)).symm⟩ | exact ⟨rfl, (@decide_eq_true _ (Classical.propDecidable _) ⟨c_5, c_13, c_21, c_26, c_31, c_36⟩).symm⟩
      · skip
        refine ab_iload_n dX12_areThree_24 rfl ?_
        refine ab_iload_n dX12_areThree_25 rfl ?_
        refine ab_icmp_eq 43 dX12_areThree_26 (by decide) (fun c_26 => ?_) (fun c_26 => ?_)
        · skip
          refine ab_iconst (v := nI 0) dX12_areThree_43 (by decide) ?_
          refine ab_retb (x := false) dX12_areThree_44 ?_
          first | exact ⟨rfl, (@decide_eq_false _ (Classical.propDecidable _) (fun q => by first | exact ab_tf q.1 c_5 | exact ab_tf q.2.1 c_13 | exact ab_tf q.2.2.1 c_21 | exact q.2.2.2.1 c_26 | exact q.2.2.2.2.1 c_31 | exact q.2.2.2.2.2 c_36)).symm⟩ | exact ⟨rfl, (@decide_eq_true _ (Classical.propDecidable _) ⟨c_5, c_13, c_21, c_26, c_31, c_36⟩).symm⟩
        · skip
          refine ab_iload_n dX12_areThree_29 rfl ?_
          refine ab_iload_n dX12_areThree_30 rfl ?_
          refine ab_icmp_eq 43 dX12_areThree_31 (by decide) (fun c_31 => ?_) (fun c_31 => ?_)
          · skip
            refine ab_iconst (v := nI 0) dX12_areThree_43 (by decide) ?_
            refine ab_retb (x := false) dX12_areThree_44 ?_
            first | exact ⟨rfl, (@decide_eq_false _ (Classical.propDecidable _) (fun q => by first | exact ab_tf q.1 c_5 | exact ab_tf q.2.1 c_13 | exact ab_tf q.2.2.1 c_21 | exact q.2.2.2.1 c_26 | exact q.2.2.2.2.1 c_31 | exact q.2.2.2.2.2 c_36)).symm⟩ | exact ⟨rfl, (@decide_eq_true _ (Classical.propDecidable _) ⟨c_5, c_13, c_21, c_26, c_31, c_36⟩).symm⟩
          · skip
            refine ab_iload_n dX12_areThree_34 rfl ?_
            refine ab_iload_n dX12_areThree_35 rfl ?_
            refine ab_icmp_eq 43 dX12_areThree_36 (by decide) (fun c_36 => ?_) (fun c_36 => ?_)
            · skip
              refine ab_iconst (v := nI 0) dX12_areThree_43 (by decide) ?_
              refine ab_retb (x := false) dX12_areThree_44 ?_
              first | exact ⟨rfl, (@decide_eq_false _ (Classical.propDecidable _) (fun q => by first | exact ab_tf q.1 c_5 | exact ab_tf q.2.1 c_13 | exact ab_tf q.2.2.1 c_21 | exact q.2.2.2.1 c_26 | exact q.2.2.2.2.1 c_31 | exact q.2.2.2.2.2 c_36)).symm⟩ | exact ⟨rfl, (@decide_eq_true _ (Classical.propDecidable _) ⟨c_5, c_13, c_21, c_26, c_31, c_36⟩).symm⟩
            · skip
              refine ab_iconst (v := nI 1) dX12_areThree_39 (by decide) ?_
              refine ab_goto 44 dX12_areThree_40 (by decide) ?_
              refine ab_retb (x := true) dX12_areThree_44 ?_
              first | exact ⟨rfl, (@decide_eq_false _ (Classical.propDecidable _) (fun q => by first | exact ab_tf q.1 c_5 | exact ab_tf q.2.1 c_13 | exact ab_tf q.2.2.1 c_21 | exact q.2.2.2.1 c_26 | exact q.2.2.2.2.1 c_31 | exact q.2.2.2.2.2 c_36)).symm⟩ | exact ⟨rfl, (@decide_eq_true _ (Classical.propDecidable _) ⟨c_5, c_13, c_21, c_26, c_31, c_36⟩).symm⟩
set_option maxRecDepth 100000 in
set_option maxHeartbeats 4000000 in
theorem m_isUnder {k b kd o : Nat} {h : ab_H} (hk6 : kd < 6) (ho : o < 6) : ab_M k b mX12_isUnder [.int (nI kd), .int (nI o)] h (ab_pb (fun t h' => h' = h ∧ t = un kd o)) := by
  refine ab_enter ?_
  refine ab_iload_n dX12_isUnder_0 rfl ?_
  refine ab_nif_eq 29 dX12_isUnder_1 (by decide) (by omega) (fun c_1 => ?_) (fun c_1 => ?_)
  · skip
    refine ab_iconst (v := nI 1) dX12_isUnder_29 (by decide) ?_
    refine ab_goto 34 dX12_isUnder_30 (by decide) ?_
    refine ab_retb (x := true) dX12_isUnder_34 ?_
    first | exact ⟨rfl, (decide_eq_true (by omega)).symm⟩ | exact ⟨rfl, (decide_eq_false (by omega)).symm⟩
  · skip
    refine ab_iload_n dX12_isUnder_4 rfl ?_
    refine ab_iload_n dX12_isUnder_5 rfl ?_
    refine ab_nicmp_eq 29 dX12_isUnder_6 (by decide) (by omega) (by omega) (fun c_6 => ?_) (fun c_6 => ?_)
    · skip
      refine ab_iconst (v := nI 1) dX12_isUnder_29 (by decide) ?_
      refine ab_goto 34 dX12_isUnder_30 (by decide) ?_
      refine ab_retb (x := true) dX12_isUnder_34 ?_
      first | exact ⟨rfl, (decide_eq_true (by omega)).symm⟩ | exact ⟨rfl, (decide_eq_false (by omega)).symm⟩
    · skip
      refine ab_iload_n dX12_isUnder_9 rfl ?_
      refine ab_iconst (v := nI 1) dX12_isUnder_10 (by decide) ?_
      refine ab_nicmp_ne 19 dX12_isUnder_11 (by decide) (by omega) (by omega) (fun c_11 => ?_) (fun c_11 => ?_)
      · skip
        refine ab_iload_n dX12_isUnder_19 rfl ?_
        refine ab_iconst (v := nI 3) dX12_isUnder_20 (by decide) ?_
        refine ab_nicmp_ne 33 dX12_isUnder_21 (by decide) (by omega) (by omega) (fun c_21 => ?_) (fun c_21 => ?_)
        · skip
          refine ab_iconst (v := nI 0) dX12_isUnder_33 (by decide) ?_
          refine ab_retb (x := false) dX12_isUnder_34 ?_
          first | exact ⟨rfl, (decide_eq_true (by omega)).symm⟩ | exact ⟨rfl, (decide_eq_false (by omega)).symm⟩
        · skip
          refine ab_iload_n dX12_isUnder_24 rfl ?_
          refine ab_iconst (v := nI 5) dX12_isUnder_25 (by decide) ?_
          refine ab_nicmp_ne 33 dX12_isUnder_26 (by decide) (by omega) (by omega) (fun c_26 => ?_) (fun c_26 => ?_)
          · skip
            refine ab_iconst (v := nI 0) dX12_isUnder_33 (by decide) ?_
            refine ab_retb (x := false) dX12_isUnder_34 ?_
            first | exact ⟨rfl, (decide_eq_true (by omega)).symm⟩ | exact ⟨rfl, (decide_eq_false (by omega)).symm⟩
          · skip
            refine ab_iconst (v := nI 1) dX12_isUnder_29 (by decide) ?_
            refine ab_goto 34 dX12_isUnder_30 (by decide) ?_
            refine ab_retb (x := true) dX12_isUnder_34 ?_
            first | exact ⟨rfl, (decide_eq_true (by omega)).symm⟩ | exact ⟨rfl, (decide_eq_false (by omega)).symm⟩
      · skip
        refine ab_iload_n dX12_isUnder_14 rfl ?_
        refine ab_iconst (v := nI 4) dX12_isUnder_15 (by decide) ?_
        refine ab_nicmp_eq 29 dX12_isUnder_16 (by decide) (by omega) (by omega) (fun c_16 => ?_) (fun c_16 => ?_)
        · skip
          refine ab_iconst (v := nI 1) dX12_isUnder_29 (by decide) ?_
          refine ab_goto 34 dX12_isUnder_30 (by decide) ?_
          refine ab_retb (x := true) dX12_isUnder_34 ?_
          first | exact ⟨rfl, (decide_eq_true (by omega)).symm⟩ | exact ⟨rfl, (decide_eq_false (by omega)).symm⟩
        · skip
          refine ab_iload_n dX12_isUnder_19 rfl ?_
          refine ab_iconst (v := nI 3) dX12_isUnder_20 (by decide) ?_
          refine ab_nicmp_ne 33 dX12_isUnder_21 (by decide) (by omega) (by omega) (fun c_21 => ?_) (fun c_21 => ?_)
          · skip
            refine ab_iconst (v := nI 0) dX12_isUnder_33 (by decide) ?_
            refine ab_retb (x := false) dX12_isUnder_34 ?_
            first | exact ⟨rfl, (decide_eq_true (by omega)).symm⟩ | exact ⟨rfl, (decide_eq_false (by omega)).symm⟩
          · skip
            refine ab_iload_n dX12_isUnder_24 rfl ?_
            refine ab_iconst (v := nI 5) dX12_isUnder_25 (by decide) ?_
            refine ab_nicmp_ne 33 dX12_isUnder_26 (by decide) (by omega) (by omega) (fun c_26 => ?_) (fun c_26 => ?_)
            · skip
              refine ab_iconst (v := nI 0) dX12_isUnder_33 (by decide) ?_
              refine ab_retb (x := false) dX12_isUnder_34 ?_
              first | exact ⟨rfl, (decide_eq_true (by omega)).symm⟩ | exact ⟨rfl, (decide_eq_false (by omega)).symm⟩
            · skip
              refine ab_iconst (v := nI 1) dX12_isUnder_29 (by decide) ?_
              refine ab_goto 34 dX12_isUnder_30 (by decide) ?_
              refine ab_retb (x := true) dX12_isUnder_34 ?_
              first | exact ⟨rfl, (decide_eq_true (by omega)).symm⟩ | exact ⟨rfl, (decide_eq_false (by omega)).symm⟩
set_option maxRecDepth 100000 in
set_option maxHeartbeats 4000000 in
theorem m_over {k b p e : Nat} {h : ab_H} {s : sS} (hM : at_M (ab_sh h) (ab_r h)) (hD : sh_M s h) (hp : p < s.1) (he : e < 2) : ab_M k b mX12_over [.ref 50, .int (nI p), .int (nI e)] h (ab_pl (fun v h' => h' = h ∧ v = zI (pq (cX (s.2.1 p) e)).1)) := by
  have hcx := cX_ok (hD.W.2.2.1 p hp) e
  have h10 := hD.W.1
  refine ab_enter ?_
  refine ab_aload_n dX12_over_0 rfl ?_
  refine ab_getR dX12_over_1 fl_X12_64 hM.hs hM.p50_16 ?_
  refine ab_iconst (v := nI 4) dX12_over_4 (by decide) ?_
  refine ab_iload_n dX12_over_5 rfl ?_
  refine ab_nmulR dX12_over_6 ?_
  refine ab_iconst (v := nI 2) dX12_over_7 (by decide) ?_
  refine ab_iload_n dX12_over_8 rfl ?_
  refine ab_nmulR dX12_over_9 ?_
  refine ab_naddR dX12_over_10 ?_
  refine ab_iald dX12_over_11 hM.s62 rfl (by omega) (hD.nu hp he).1 ?_
  refine ab_i2l dX12_over_12 ?_
  refine ab_topL (zI_i2l (by omega)) ?_
  refine ab_retl dX12_over_13 ?_
  exact ⟨rfl, rfl⟩
set_option maxRecDepth 100000 in
set_option maxHeartbeats 4000000 in
theorem m_under {k b p e : Nat} {h : ab_H} {s : sS} (hM : at_M (ab_sh h) (ab_r h)) (hD : sh_M s h) (hp : p < s.1) (he : e < 2) : ab_M k b mX12_under [.ref 50, .int (nI p), .int (nI e)] h (ab_pl (fun v h' => h' = h ∧ v = zI ((pq (cX (s.2.1 p) e)).2 : Int))) := by
  have hcx := cX_ok (hD.W.2.2.1 p hp) e
  have h10 := hD.W.1
  refine ab_enter ?_
  refine ab_aload_n dX12_under_0 rfl ?_
  refine ab_getR dX12_under_1 fl_X12_64 hM.hs hM.p50_16 ?_
  refine ab_iconst (v := nI 4) dX12_under_4 (by decide) ?_
  refine ab_iload_n dX12_under_5 rfl ?_
  refine ab_nmulR dX12_under_6 ?_
  refine ab_iconst (v := nI 2) dX12_under_7 (by decide) ?_
  refine ab_iload_n dX12_under_8 rfl ?_
  refine ab_nmulR dX12_under_9 ?_
  refine ab_naddR dX12_under_10 ?_
  refine ab_iconst (v := nI 1) dX12_under_11 (by decide) ?_
  refine ab_naddR dX12_under_12 ?_
  refine ab_iald dX12_under_13 hM.s62 rfl (by omega) (hD.nu hp he).2 ?_
  refine ab_i2l dX12_under_14 ?_
  refine ab_topL (zI_i2l (by omega)) ?_
  refine ab_retl dX12_under_15 ?_
  exact ⟨rfl, rfl⟩
set_option maxRecDepth 100000 in
set_option maxHeartbeats 4000000 in
theorem m_more {k b p q e : Nat} {h : ab_H} {s : sS} (hk : 1 ≤ k) (hM : at_M (ab_sh h) (ab_r h)) (hD : sh_M s h) (hp : p < s.1) (hq9 : q < s.1) (he : e < 2) : ab_M k b mX12_more [.ref 50, .int (nI p), .int (nI q), .int (nI e)] h (ab_pl (fun v h' => h' = h ∧ v = zI (q_sub (pq (cX (s.2.1 p) e)) (pq (cX (s.2.1 q) e))).1)) := by
  refine ab_enter ?_
  refine ab_aload_n dX12_more_0 rfl ?_
  refine ab_iload_n dX12_more_1 rfl ?_
  refine ab_iload_n dX12_more_2 rfl ?_
  refine ab_callVl [_, _] dX12_more_3 ml_X12_257 mk_X12_over hM.hs (m_over (k := 0) (b := 0) hM hD hp he) (fun v hh hq => ?_)
  obtain ⟨hhe, rfl⟩ := hq
  rw [hhe]
  refine ab_aload_n dX12_more_6 rfl ?_
  refine ab_iload_n dX12_more_7 rfl ?_
  refine ab_iload_n dX12_more_8 rfl ?_
  refine ab_callVl [_, _] dX12_more_9 ml_X12_261 mk_X12_under hM.hs (m_under (k := 0) (b := 0) hM hD hq9 he) (fun v hh hq => ?_)
  obtain ⟨hhe, rfl⟩ := hq
  rw [hhe]
  refine ab_lmul dX12_more_12 ?_
  refine ab_aload_n dX12_more_13 rfl ?_
  refine ab_iload_n dX12_more_14 rfl ?_
  refine ab_iload_n dX12_more_15 rfl ?_
  refine ab_callVl [_, _] dX12_more_16 ml_X12_257 mk_X12_over hM.hs (m_over (k := 0) (b := 0) hM hD hq9 he) (fun v hh hq => ?_)
  obtain ⟨hhe, rfl⟩ := hq
  rw [hhe]
  refine ab_aload_n dX12_more_19 rfl ?_
  refine ab_iload_n dX12_more_20 rfl ?_
  refine ab_iload_n dX12_more_21 rfl ?_
  refine ab_callVl [_, _] dX12_more_22 ml_X12_261 mk_X12_under hM.hs (m_under (k := 0) (b := 0) hM hD hp he) (fun v hh hq => ?_)
  obtain ⟨hhe, rfl⟩ := hq
  rw [hhe]
  refine ab_lmul dX12_more_25 ?_
  refine ab_lsub dX12_more_26 ?_
  refine ab_topL zI_qsub ?_
  refine ab_retl dX12_more_27 ?_
  exact ⟨rfl, rfl⟩
set_option maxRecDepth 100000 in
set_option maxHeartbeats 4000000 in
theorem m_belowOf {k b p q e : Nat} {h : ab_H} {s : sS} (hk : 1 ≤ k) (hM : at_M (ab_sh h) (ab_r h)) (hD : sh_M s h) (hp : p < s.1) (hq9 : q < s.1) (he : e < 2) : ab_M k b mX12_belowOf [.ref 50, .int (nI p), .int (nI q), .int (nI e)] h (ab_pl (fun v h' => h' = h ∧ v = zI ((q_sub (pq (cX (s.2.1 p) e)) (pq (cX (s.2.1 q) e))).2 : Int))) := by
  refine ab_enter ?_
  refine ab_aload_n dX12_belowOf_0 rfl ?_
  refine ab_iload_n dX12_belowOf_1 rfl ?_
  refine ab_iload_n dX12_belowOf_2 rfl ?_
  refine ab_callVl [_, _] dX12_belowOf_3 ml_X12_261 mk_X12_under hM.hs (m_under (k := 0) (b := 0) hM hD hp he) (fun v hh hq => ?_)
  obtain ⟨hhe, rfl⟩ := hq
  rw [hhe]
  refine ab_aload_n dX12_belowOf_6 rfl ?_
  refine ab_iload_n dX12_belowOf_7 rfl ?_
  refine ab_iload_n dX12_belowOf_8 rfl ?_
  refine ab_callVl [_, _] dX12_belowOf_9 ml_X12_261 mk_X12_under hM.hs (m_under (k := 0) (b := 0) hM hD hq9 he) (fun v hh hq => ?_)
  obtain ⟨hhe, rfl⟩ := hq
  rw [hhe]
  refine ab_lmul dX12_belowOf_12 ?_
  refine ab_topL (zI_mulN _ _) ?_
  refine ab_retl dX12_belowOf_13 ?_
  exact ⟨rfl, rfl⟩
set_option maxRecDepth 100000 in
set_option maxHeartbeats 4000000 in
theorem m_valuationOf {k b p e : Nat} {h : ab_H} {s : sS} (hk : 4 ≤ k) (hM : at_M (ab_sh h) (ab_r h)) (hD : sh_M s h) (hp : p < s.1) (he : e < 2) : ab_M k b mX12_valuationOf [.ref 50, .int (nI p), .int (nI e)] h (ab_pi (fun v h' => h' = h ∧ v = iI (vQ (pq (cX (s.2.1 p) e))))) := by
  have hcx := cX_ok (hD.W.2.2.1 p hp) e
  have h10 := hD.W.1
  refine ab_enter ?_
  refine ab_aload_n dX12_valuationOf_0 rfl ?_
  refine ab_getR dX12_valuationOf_1 fl_X12_64 hM.hs hM.p50_16 ?_
  refine ab_iconst (v := nI 4) dX12_valuationOf_4 (by decide) ?_
  refine ab_iload_n dX12_valuationOf_5 rfl ?_
  refine ab_nmulR dX12_valuationOf_6 ?_
  refine ab_iconst (v := nI 2) dX12_valuationOf_7 (by decide) ?_
  refine ab_iload_n dX12_valuationOf_8 rfl ?_
  refine ab_nmulR dX12_valuationOf_9 ?_
  refine ab_naddR dX12_valuationOf_10 ?_
  refine ab_iald dX12_valuationOf_11 hM.s62 rfl (by omega) (hD.nu hp he).1 ?_
  refine ab_i2l dX12_valuationOf_12 ?_
  refine ab_topL (zI_i2l (by omega)) ?_
  refine ab_aload_n dX12_valuationOf_13 rfl ?_
  refine ab_getR dX12_valuationOf_14 fl_X12_64 hM.hs hM.p50_16 ?_
  refine ab_iconst (v := nI 4) dX12_valuationOf_17 (by decide) ?_
  refine ab_iload_n dX12_valuationOf_18 rfl ?_
  refine ab_nmulR dX12_valuationOf_19 ?_
  refine ab_iconst (v := nI 2) dX12_valuationOf_20 (by decide) ?_
  refine ab_iload_n dX12_valuationOf_21 rfl ?_
  refine ab_nmulR dX12_valuationOf_22 ?_
  refine ab_naddR dX12_valuationOf_23 ?_
  refine ab_iconst (v := nI 1) dX12_valuationOf_24 (by decide) ?_
  refine ab_naddR dX12_valuationOf_25 ?_
  refine ab_iald dX12_valuationOf_26 hM.s62 rfl (by omega) (hD.nu hp he).2 ?_
  refine ab_i2l dX12_valuationOf_27 ?_
  refine ab_topL (zI_i2l (by omega)) ?_
  refine ab_callSi [_, _] dX12_valuationOf_28 ml_X12_223 mk_X12_valuation (m_val (P := pq (cX (s.2.1 p) e)) (k := 3) (b := 0) (Nat.le_refl _) (pq_0 _) ((pq_B hcx).k1 (by decide)) (pq_B hcx).2.1 ((pq_B hcx).k2 (by decide))) (fun v hh hq => ?_)
  obtain ⟨hhe, rfl⟩ := hq
  rw [hhe]
  refine ab_reti dX12_valuationOf_31 ?_
  exact ⟨rfl, rfl⟩
set_option maxRecDepth 100000 in
set_option maxHeartbeats 4000000 in
theorem m_colourBy {k b : Nat} {h : ab_H} {p q : Int × Nat} : ab_M k b mX12_colourBy [.int (iI (vQ p)), .int (iI (vQ q))] h (ab_pi (fun v h' => h' = h ∧ v = nI (cb (vQ p) (vQ q)))) := by
  refine ab_enter ?_
  refine ab_iload_n dX12_colourBy_0 rfl ?_
  refine ab_if_le 12 dX12_colourBy_1 (by decide) (fun c_1 => ?_) (fun c_1 => ?_)
  · skip
    refine ab_iload_n dX12_colourBy_12 rfl ?_
    refine ab_iload_n dX12_colourBy_13 rfl ?_
    refine ab_icmp_gt 21 dX12_colourBy_14 (by decide) (fun c_14 => ?_) (fun c_14 => ?_)
    · skip
      refine ab_iconst (v := nI 2) dX12_colourBy_21 (by decide) ?_
      refine ab_reti dX12_colourBy_22 ?_
      first | exact ⟨rfl, congrArg nI (show 0 = cb (vQ p) (vQ q) by unfold cb; rw [if_pos ⟨iI_gt0.mp c_1, iI_gt0.mp c_5⟩])⟩ | exact ⟨rfl, congrArg nI (show 1 = cb (vQ p) (vQ q) by unfold cb; rw [if_neg (fun z => by first | exact absurd c_1 (iI_gt0.mpr z.1) | exact absurd c_5 (iI_gt0.mpr z.2)), if_pos (iI_le.mp (Int32.not_lt.mp c_14))])⟩ | exact ⟨rfl, congrArg nI (show 2 = cb (vQ p) (vQ q) by unfold cb; rw [if_neg (fun z => by first | exact absurd c_1 (iI_gt0.mpr z.1) | exact absurd c_5 (iI_gt0.mpr z.2)), if_neg (mt iI_le.mpr (Int32.not_le.mpr c_14))])⟩
    · skip
      refine ab_iconst (v := nI 1) dX12_colourBy_17 (by decide) ?_
      refine ab_goto 22 dX12_colourBy_18 (by decide) ?_
      refine ab_reti dX12_colourBy_22 ?_
      first | exact ⟨rfl, congrArg nI (show 0 = cb (vQ p) (vQ q) by unfold cb; rw [if_pos ⟨iI_gt0.mp c_1, iI_gt0.mp c_5⟩])⟩ | exact ⟨rfl, congrArg nI (show 1 = cb (vQ p) (vQ q) by unfold cb; rw [if_neg (fun z => by first | exact absurd c_1 (iI_gt0.mpr z.1) | exact absurd c_5 (iI_gt0.mpr z.2)), if_pos (iI_le.mp (Int32.not_lt.mp c_14))])⟩ | exact ⟨rfl, congrArg nI (show 2 = cb (vQ p) (vQ q) by unfold cb; rw [if_neg (fun z => by first | exact absurd c_1 (iI_gt0.mpr z.1) | exact absurd c_5 (iI_gt0.mpr z.2)), if_neg (mt iI_le.mpr (Int32.not_le.mpr c_14))])⟩
  · skip
    refine ab_iload_n dX12_colourBy_4 rfl ?_
    refine ab_if_le 12 dX12_colourBy_5 (by decide) (fun c_5 => ?_) (fun c_5 => ?_)
    · skip
      refine ab_iload_n dX12_colourBy_12 rfl ?_
      refine ab_iload_n dX12_colourBy_13 rfl ?_
      refine ab_icmp_gt 21 dX12_colourBy_14 (by decide) (fun c_14 => ?_) (fun c_14 => ?_)
      · skip
        refine ab_iconst (v := nI 2) dX12_colourBy_21 (by decide) ?_
        refine ab_reti dX12_colourBy_22 ?_
        first | exact ⟨rfl, congrArg nI (show 0 = cb (vQ p) (vQ q) by unfold cb; rw [if_pos ⟨iI_gt0.mp c_1, iI_gt0.mp c_5⟩])⟩ | exact ⟨rfl, congrArg nI (show 1 = cb (vQ p) (vQ q) by unfold cb; rw [if_neg (fun z => by first | exact absurd c_1 (iI_gt0.mpr z.1) | exact absurd c_5 (iI_gt0.mpr z.2)), if_pos (iI_le.mp (Int32.not_lt.mp c_14))])⟩ | exact ⟨rfl, congrArg nI (show 2 = cb (vQ p) (vQ q) by unfold cb; rw [if_neg (fun z => by first | exact absurd c_1 (iI_gt0.mpr z.1) | exact absurd c_5 (iI_gt0.mpr z.2)), if_neg (mt iI_le.mpr (Int32.not_le.mpr c_14))])⟩
      · skip
        refine ab_iconst (v := nI 1) dX12_colourBy_17 (by decide) ?_
        refine ab_goto 22 dX12_colourBy_18 (by decide) ?_
        refine ab_reti dX12_colourBy_22 ?_
        first | exact ⟨rfl, congrArg nI (show 0 = cb (vQ p) (vQ q) by unfold cb; rw [if_pos ⟨iI_gt0.mp c_1, iI_gt0.mp c_5⟩])⟩ | exact ⟨rfl, congrArg nI (show 1 = cb (vQ p) (vQ q) by unfold cb; rw [if_neg (fun z => by first | exact absurd c_1 (iI_gt0.mpr z.1) | exact absurd c_5 (iI_gt0.mpr z.2)), if_pos (iI_le.mp (Int32.not_lt.mp c_14))])⟩ | exact ⟨rfl, congrArg nI (show 2 = cb (vQ p) (vQ q) by unfold cb; rw [if_neg (fun z => by first | exact absurd c_1 (iI_gt0.mpr z.1) | exact absurd c_5 (iI_gt0.mpr z.2)), if_neg (mt iI_le.mpr (Int32.not_le.mpr c_14))])⟩
    · skip
      refine ab_iconst (v := nI 0) dX12_colourBy_8 (by decide) ?_
      refine ab_goto 22 dX12_colourBy_9 (by decide) ?_
      refine ab_reti dX12_colourBy_22 ?_
      first | exact ⟨rfl, congrArg nI (show 0 = cb (vQ p) (vQ q) by unfold cb; rw [if_pos ⟨iI_gt0.mp c_1, iI_gt0.mp c_5⟩])⟩ | exact ⟨rfl, congrArg nI (show 1 = cb (vQ p) (vQ q) by unfold cb; rw [if_neg (fun z => by first | exact absurd c_1 (iI_gt0.mpr z.1) | exact absurd c_5 (iI_gt0.mpr z.2)), if_pos (iI_le.mp (Int32.not_lt.mp c_14))])⟩ | exact ⟨rfl, congrArg nI (show 2 = cb (vQ p) (vQ q) by unfold cb; rw [if_neg (fun z => by first | exact absurd c_1 (iI_gt0.mpr z.1) | exact absurd c_5 (iI_gt0.mpr z.2)), if_neg (mt iI_le.mpr (Int32.not_le.mpr c_14))])⟩
