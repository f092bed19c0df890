/-! ===== the class's Board ===== -/
theorem ab_shr1 (a : Nat) : a >>> 1 = a / 2 := by rw [Nat.shiftRight_eq_div_pow]
theorem ab_1shl (n : Nat) : 1 <<< n = 2 ^ n := Nat.one_shiftLeft n
theorem bd_pow_le {n m : Nat} (h : n ≤ m) : 2 ^ n ≤ 2 ^ m := Nat.pow_le_pow_right (by omega) h
theorem bd_pow4 {n : Nat} (h : n ≤ 4) : 2 ^ n ≤ 16 := bd_pow_le h
/-- a cell of a board of 2^n by 2^n -/
def bd_isc (n : Nat) (x y : Int32) : Bool := ab_inr 0 ((2 ^ n : Nat) - 1 : Int) x && ab_inr 0 ((2 ^ n : Nat) - 1 : Int) y
theorem bd_isc_nat {n : Nat} {x y : Int32} (h : bd_isc n x y = true) : ∃ X Y, x = nI X ∧ y = nI Y ∧ X < 2 ^ n ∧ Y < 2 ^ n ∧ X < 2147483648 ∧ Y < 2147483648 := by
  unfold bd_isc at h
  rw [Bool.and_eq_true] at h
  have h1 := of_decide_eq_true h.1
  have h2 := of_decide_eq_true h.2
  obtain ⟨X, rfl, hX⟩ := ab_of0 (x := x) (ab_ge0.mpr h1.1)
  obtain ⟨Y, rfl, hY⟩ := ab_of0 (x := y) (ab_ge0.mpr h2.1)
  rw [nI_toInt hX] at h1
  rw [nI_toInt hY] at h2
  exact ⟨X, Y, rfl, rfl, by omega, by omega, hX, hY⟩
theorem bd_isc_nI {n X Y : Nat} (hX : X < 2147483648) (hY : Y < 2147483648) : bd_isc n (nI X) (nI Y) = decide (X < 2 ^ n ∧ Y < 2 ^ n) := by
  have hp := bd_pos n
  unfold bd_isc ab_inr
  rw [nI_toInt hX, nI_toInt hY, ← Bool.decide_and]
  apply decide_eq_decide.mpr
  omega
set_option maxRecDepth 100000 in
set_option maxHeartbeats 4000000 in
theorem c_isCell {k b n : Nat} {h : ab_H} {x y : Int32} (hn : n ≤ 4) : ab_M k b mX0_isCell [.int (nI n), .int x, .int y] h (ab_pb (fun t h' => h' = h ∧ t = bd_isc n x y)) := by
  have hpw := bd_pow4 hn
  refine ab_enter ?_
  refine ab_iconst (v := nI 1) dX0_isCell_0 (by decide) ?_
  refine ab_iload_n dX0_isCell_1 rfl ?_
  refine ab_nshlR dX0_isCell_2 (by omega) ?_
  rw [ab_1shl]
  refine ab_sti_n (ls' := [_, _, _, _]) dX0_isCell_3 (by decide) rfl ?_
  refine ab_iload_n dX0_isCell_4 rfl ?_
  refine ab_if_lt 26 dX0_isCell_5 (by decide) (fun c_5 => ?_) (fun c_5 => ?_)
  · skip
    refine ab_iconst (v := nI 0) dX0_isCell_26 (by decide) ?_
    refine ab_retb (x := false) dX0_isCell_27 ?_
    exact ⟨rfl, Eq.symm (by unfold bd_isc; rw [ab_inr_no (Or.inl (ab_lt0.mp c_5)), Bool.false_and])⟩
  · skip
    refine ab_iload_n dX0_isCell_8 rfl ?_
    refine ab_iload_n dX0_isCell_9 rfl ?_
    refine ab_icmp_ge 26 dX0_isCell_10 (by decide) (fun c_10 => ?_) (fun c_10 => ?_)
    · skip
      refine ab_iconst (v := nI 0) dX0_isCell_26 (by decide) ?_
      refine ab_retb (x := false) dX0_isCell_27 ?_
      exact ⟨rfl, Eq.symm (by unfold bd_isc; rw [ab_inr_no (Or.inr (by have := (ab_leN (n := 2 ^ n) (by omega)).mp c_10; omega)), Bool.false_and])⟩
    · skip
      refine ab_iload_n dX0_isCell_13 rfl ?_
      refine ab_if_lt 26 dX0_isCell_14 (by decide) (fun c_14 => ?_) (fun c_14 => ?_)
      · skip
        refine ab_iconst (v := nI 0) dX0_isCell_26 (by decide) ?_
        refine ab_retb (x := false) dX0_isCell_27 ?_
        exact ⟨rfl, Eq.symm (by unfold bd_isc; rw [ab_inr_no (x := y) (Or.inl (ab_lt0.mp c_14)), Bool.and_false])⟩
      · skip
        refine ab_iload_n dX0_isCell_17 rfl ?_
        refine ab_iload_n dX0_isCell_18 rfl ?_
        refine ab_icmp_ge 26 dX0_isCell_19 (by decide) (fun c_19 => ?_) (fun c_19 => ?_)
        · skip
          refine ab_iconst (v := nI 0) dX0_isCell_26 (by decide) ?_
          refine ab_retb (x := false) dX0_isCell_27 ?_
          exact ⟨rfl, Eq.symm (by unfold bd_isc; rw [ab_inr_no (x := y) (Or.inr (by have := (ab_leN (n := 2 ^ n) (by omega)).mp c_19; omega)), Bool.and_false])⟩
        · skip
          refine ab_iconst (v := nI 1) dX0_isCell_22 (by decide) ?_
          refine ab_goto 27 dX0_isCell_23 (by decide) ?_
          refine ab_retb (x := true) dX0_isCell_27 ?_
          refine ⟨rfl, ?_⟩
          unfold bd_isc
          rw [ab_inr_ok (by have := mt ab_lt0.mpr c_5; omega) (by have := mt (ab_leN (n := 2 ^ n) (by omega)).mpr c_10; omega), ab_inr_ok (by have := mt ab_lt0.mpr c_14; omega) (by have := mt (ab_leN (n := 2 ^ n) (by omega)).mpr c_19; omega)]
          rfl
set_option maxRecDepth 100000 in
set_option maxHeartbeats 4000000 in
theorem c_has {k b r n : Nat} {h : ab_H} {x y : Int32} (hk : 1 ≤ k) (hB : at_Board (ab_sh h) (ab_r h) r) (hN : ab_i h r 0 = nI n) (hn : n ≤ 4) : ab_M k b mX0_has [.ref r, .int x, .int y] h (ab_pb (fun t h' => h' = h ∧ t = bd_isc n x y)) := by
  refine ab_enter ?_
  refine ab_aload_n dX0_has_0 rfl ?_
  refine ab_getI dX0_has_1 fl_X0_31 hB.1 hN ?_
  refine ab_iload_n dX0_has_4 rfl ?_
  refine ab_iload_n dX0_has_5 rfl ?_
  refine ab_callSb [_, _, _] dX0_has_6 ml_X0_59 mk_X0_isCell (c_isCell (k := 0) (b := 0) hn) (fun x h1 hq => ?_)
  obtain ⟨hhe, rfl⟩ := hq
  rw [hhe]
  refine ab_retb dX0_has_9 ?_
  exact ⟨rfl, rfl⟩
set_option maxRecDepth 100000 in
set_option maxHeartbeats 4000000 in
theorem c_hasPiece {k b r p : Nat} {h : ab_H} {x : Int32} (hB : at_Board (ab_sh h) (ab_r h) r) (hP : ab_i h r 3 = nI p) (hp : p ≤ 85) : ab_M k b mX0_hasPiece [.ref r, .int x] h (ab_pb (fun t h' => h' = h ∧ t = ab_inr 0 ((p : Int) - 1) x)) := by
  refine ab_enter ?_
  refine ab_iload_n dX0_hasPiece_0 rfl ?_
  refine ab_if_lt 16 dX0_hasPiece_1 (by decide) (fun c_1 => ?_) (fun c_1 => ?_)
  · skip
    refine ab_iconst (v := nI 0) dX0_hasPiece_16 (by decide) ?_
    refine ab_retb (x := false) dX0_hasPiece_17 ?_
    exact ⟨rfl, (ab_inr_no (Or.inl (ab_lt0.mp c_1))).symm⟩
  · skip
    refine ab_iload_n dX0_hasPiece_4 rfl ?_
    refine ab_aload_n dX0_hasPiece_5 rfl ?_
    refine ab_getI dX0_hasPiece_6 fl_X0_44 hB.1 hP ?_
    refine ab_icmp_ge 16 dX0_hasPiece_9 (by decide) (fun c_9 => ?_) (fun c_9 => ?_)
    · skip
      refine ab_iconst (v := nI 0) dX0_hasPiece_16 (by decide) ?_
      refine ab_retb (x := false) dX0_hasPiece_17 ?_
      exact ⟨rfl, (ab_inr_no (Or.inr (by have := (ab_leN (n := p) (by omega)).mp c_9; omega))).symm⟩
    · skip
      refine ab_iconst (v := nI 1) dX0_hasPiece_12 (by decide) ?_
      refine ab_goto 17 dX0_hasPiece_13 (by decide) ?_
      refine ab_retb (x := true) dX0_hasPiece_17 ?_
      exact ⟨rfl, (ab_inr_ok (by have := mt ab_lt0.mpr c_1; omega) (by have := mt (ab_leN (n := p) (by omega)).mpr c_9; omega)).symm⟩
/-- one piece is being laid: its first q quarters' cells are written -/
def bd_ownq (w l t q X Y : Nat) : Prop := ∃ z, z < q ∧ z ≠ w ∧ X = l + z % 2 ∧ Y = t + z / 2
def bd_lay (r w s l t p q : Nat) (h h1 : ab_H) : Prop := ab_fr [r, r + 1, r + 2, r + 3, r + 4, r + 5] h h1 ∧ ab_i h1 r = ab_i h r ∧ ab_i h1 (r + 2) = ab_up (ab_i h (r + 2)) p (nI w) ∧ ab_i h1 (r + 3) = ab_up (ab_i h (r + 3)) p (nI s) ∧ ab_i h1 (r + 4) = ab_up (ab_i h (r + 4)) p (nI l) ∧ ab_i h1 (r + 5) = ab_up (ab_i h (r + 5)) p (nI t) ∧
  (∀ X Y, X < 16 → Y < 16 → bd_ownq w l t q X Y → ab_i h1 (r + 1) (Y * 16 + X) = nI p) ∧ ∀ X Y, X < 16 → Y < 16 → ¬ bd_ownq w l t q X Y → ab_i h1 (r + 1) (Y * 16 + X) = ab_i h (r + 1) (Y * 16 + X)
theorem bd_lay_skip {r w s l t p : Nat} {h h1 : ab_H} (H : bd_lay r w s l t p w h h1) : bd_lay r w s l t p (w + 1) h h1 := by
  have e : ∀ X Y, bd_ownq w l t (w + 1) X Y ↔ bd_ownq w l t w X Y := fun X Y => ⟨fun ⟨z, h1, h2, h3⟩ => ⟨z, by omega, h2, h3⟩, fun ⟨z, h1, h2, h3⟩ => ⟨z, by omega, h2, h3⟩⟩
  refine ⟨H.1, H.2.1, H.2.2.1, H.2.2.2.1, H.2.2.2.2.1, H.2.2.2.2.2.1, fun X Y hX hY ho => H.2.2.2.2.2.2.1 X Y hX hY ((e X Y).mp ho), fun X Y hX hY ho => H.2.2.2.2.2.2.2 X Y hX hY (fun z => ho ((e X Y).mpr z))⟩
theorem bd_lay_put {r w s l t p q : Nat} {h h1 : ab_H} (hq : q ≠ w) (hl : l + q % 2 < 16) (H : bd_lay r w s l t p q h h1) : bd_lay r w s l t p (q + 1) h (ab_si h1 (r + 1) ((t + q / 2) * 16 + (l + q % 2)) (nI p)) := by
  obtain ⟨f, a1, a2, a3, a4, a5, a6, a7⟩ := H
  refine ⟨f.si _ _ _ (by simp), ?_, ?_, ?_, ?_, ?_, fun X Y hX hY ho => ?_, fun X Y hX hY ho => ?_⟩
  · rw [ab_i_si, if_neg (by omega)]; exact a1
  · rw [ab_i_si, if_neg (by omega)]; exact a2
  · rw [ab_i_si, if_neg (by omega)]; exact a3
  · rw [ab_i_si, if_neg (by omega)]; exact a4
  · rw [ab_i_si, if_neg (by omega)]; exact a5
  · rw [ab_i_si, if_pos rfl, ab_up_at]
    by_cases e : Y * 16 + X = (t + q / 2) * 16 + (l + q % 2)
    · rw [if_pos e]
    · rw [if_neg e]
      refine a6 X Y hX hY ?_
      obtain ⟨z, z1, z2, z3, z4⟩ := ho
      by_cases ez : z = q
      · subst ez; exact absurd (by rw [z3, z4]) e
      · exact ⟨z, by omega, z2, z3, z4⟩
  · rw [ab_i_si, if_pos rfl, ab_up_at, if_neg]
    · exact a7 X Y hX hY (fun ⟨z, z1, z2⟩ => ho ⟨z, by omega, z2⟩)
    · intro e
      refine ho ⟨q, by omega, hq, ?_, ?_⟩
      · generalize t + q / 2 = T at e; generalize l + q % 2 = L at e hl ⊢; omega
      · generalize t + q / 2 = T at e ⊢; generalize l + q % 2 = L at e hl; omega
set_option maxRecDepth 100000 in
set_option maxHeartbeats 4000000 in
theorem lp_lay {k b r w s l t p N : Nat} {h : ab_H} (hk : 2 ≤ k) (hB : at_Board (ab_sh h) (ab_r h) r) (hN : ab_i h r 0 = nI N) (hn : N ≤ 4) (hP : ab_i h r 3 = nI p) (hp : p < 85) (hw : w < 4) (hl : l + 1 < 2 ^ N) (ht : t + 1 < 2 ^ N) : ∀ (j q : Nat) (h1 : ab_H), q + j = 4 → bd_lay r w s l t p q h h1 → ab_R k b mX0_lay 54 [some (.ref r), some (.int (nI w)), some (.int (nI s)), some (.int (nI l)), some (.int (nI t)), some (.int (nI q)), none, none] [] h1 (ab_pv (fun h' => ∃ h2, bd_lay r w s l t p 4 h h2 ∧ h' = ab_si h2 r 3 (nI (p + 1)))) := by
  intro j
  induction j with
  | zero =>
    intro q h1 hq H
    obtain rfl : q = 4 := by omega
    have hB1 := at_Board.fr H.1 hB
    have hN1 : ab_i h1 r 0 = nI N := by rw [H.2.1]; exact hN
    have hP1 : ab_i h1 r 3 = nI p := by rw [H.2.1]; exact hP
    have hpw := bd_pow4 hn
    refine ab_iload dX0_lay_54 rfl ?_
    refine ab_iconst (v := nI 4) dX0_lay_56 (by decide) ?_
    refine ab_nicmp_ge 117 dX0_lay_57 (by decide) (by omega) (by omega) (fun c_57 => ?_) (fun c_57 => ?_)
    · skip
      refine ab_aload_n dX0_lay_117 rfl ?_
      refine ab_dup dX0_lay_118 rfl ?_
      refine ab_getI dX0_lay_119 fl_X0_44 hB1.1 hP1 ?_
      refine ab_iconst (v := nI 1) dX0_lay_122 (by decide) ?_
      refine ab_naddR dX0_lay_123 ?_
      refine ab_putI dX0_lay_124 fl_X0_44 hB1.1 ?_
      refine ab_retv dX0_lay_127 ?_
      exact ⟨h1, H, rfl⟩
    · skip
      exact absurd (by omega) c_57
  | succ j ih =>
    intro q h1 hq H
    have hB1 := at_Board.fr H.1 hB
    have hN1 : ab_i h1 r 0 = nI N := by rw [H.2.1]; exact hN
    have hP1 : ab_i h1 r 3 = nI p := by rw [H.2.1]; exact hP
    have hpw := bd_pow4 hn
    refine ab_iload dX0_lay_54 rfl ?_
    refine ab_iconst (v := nI 4) dX0_lay_56 (by decide) ?_
    refine ab_nicmp_ge 117 dX0_lay_57 (by decide) (by omega) (by omega) (fun c_57 => ?_) (fun c_57 => ?_)
    · skip
      exact absurd c_57 (by omega)
    · skip
      refine ab_iload_n dX0_lay_60 rfl ?_
      refine ab_iload dX0_lay_61 rfl ?_
      refine ab_iconst (v := nI 1) dX0_lay_63 (by decide) ?_
      refine ab_nandR dX0_lay_64 ?_
      rw [ab_and1]
      refine ab_naddR dX0_lay_65 ?_
      refine ab_sti (ls' := [_, _, _, _, _, _, _, _]) dX0_lay_66 (by decide) rfl ?_
      refine ab_iload dX0_lay_68 rfl ?_
      refine ab_iload dX0_lay_70 rfl ?_
      refine ab_iconst (v := nI 1) dX0_lay_72 (by decide) ?_
      refine ab_nshrR dX0_lay_73 (by omega) (by decide) ?_
      rw [ab_shr1]
      refine ab_naddR dX0_lay_74 ?_
      refine ab_sti (ls' := [_, _, _, _, _, _, _, _]) dX0_lay_75 (by decide) rfl ?_
      refine ab_iload dX0_lay_77 rfl ?_
      refine ab_iload_n dX0_lay_79 rfl ?_
      refine ab_nicmp_eq 111 dX0_lay_80 (by decide) (by omega) (by omega) (fun c_80 => ?_) (fun c_80 => ?_)
      · skip
        refine ab_nincR (ls' := [_, _, _, _, _, _, _, _]) dX0_lay_111 rfl rfl ?_
        refine ab_goto 54 dX0_lay_114 (by decide) ?_
        subst c_80
        exact ab_weak (ih (q + 1) _ (by omega) (bd_lay_skip H)) ⟨rfl, rfl, rfl, rfl, rfl, rfl, trivial⟩
      · skip
        refine ab_aload_n dX0_lay_83 rfl ?_
        refine ab_iload dX0_lay_84 rfl ?_
        refine ab_iload dX0_lay_86 rfl ?_
        refine ab_callVb [_, _] dX0_lay_88 ml_X0_55 mk_X0_has hB1.1 (c_has (k := 1) (b := 0) (by omega) hB1 hN1 hn) (fun t1 hh1 hq => ?_)
        obtain ⟨hhe, hte⟩ := hq
        rw [hhe]
        rw [bd_isc_nI (by omega) (by omega), decide_eq_true (by constructor <;> omega)] at hte
        refine ab_bif_eq 111 dX0_lay_91 (by decide) (fun c_91 => ?_) (fun c_91 => ?_)
        · skip
          exact absurd (hte.symm.trans c_91) (by decide)
        · skip
          refine ab_aload_n dX0_lay_94 rfl ?_
          refine ab_getR dX0_lay_95 fl_X0_11 hB1.1 hB1.2.1 ?_
          refine ab_iload dX0_lay_98 rfl ?_
          refine ab_bipush (v := nI 16) dX0_lay_100 (by decide) ?_
          refine ab_nmulR dX0_lay_102 ?_
          refine ab_iload dX0_lay_103 rfl ?_
          refine ab_naddR dX0_lay_105 ?_
          refine ab_aload_n dX0_lay_106 rfl ?_
          refine ab_getI dX0_lay_107 fl_X0_44 hB1.1 hP1 ?_
          refine ab_iast dX0_lay_110 hB1.2.2.1 rfl (by omega) ?_
          refine ab_nincR (ls' := [_, _, _, _, _, _, _, _]) dX0_lay_111 rfl rfl ?_
          refine ab_goto 54 dX0_lay_114 (by decide) ?_
          exact ab_weak (ih (q + 1) _ (by omega) (bd_lay_put c_80 (by omega) H)) ⟨rfl, rfl, rfl, rfl, rfl, rfl, trivial⟩
set_option maxRecDepth 100000 in
set_option maxHeartbeats 4000000 in
theorem c_lay {k b r w s l t p N : Nat} {h : ab_H} (hk : 2 ≤ k) (hB : at_Board (ab_sh h) (ab_r h) r) (hN : ab_i h r 0 = nI N) (hn : N ≤ 4) (hP : ab_i h r 3 = nI p) (hp : p < 85) (hw : w < 4) (hl : l + 1 < 2 ^ N) (ht : t + 1 < 2 ^ N) : ab_M k b mX0_lay [.ref r, .int (nI w), .int (nI s), .int (nI l), .int (nI t)] h (ab_pv (fun h' => ∃ h2, bd_lay r w s l t p 4 h h2 ∧ h' = ab_si h2 r 3 (nI (p + 1)))) := by
  refine ab_enter ?_
  refine ab_aload_n dX0_lay_0 rfl ?_
  refine ab_getI dX0_lay_1 fl_X0_44 hB.1 hP ?_
  refine ab_bipush (v := nI 85) dX0_lay_4 (by decide) ?_
  refine ab_nicmp_lt 10 dX0_lay_6 (by decide) (by omega) (by omega) (fun c_6 => ?_) (fun c_6 => ?_)
  · skip
    refine ab_aload_n dX0_lay_10 rfl ?_
    refine ab_getR dX0_lay_11 fl_X0_15 hB.1 hB.2.2.2.1 ?_
    refine ab_aload_n dX0_lay_14 rfl ?_
    refine ab_getI dX0_lay_15 fl_X0_44 hB.1 hP ?_
    refine ab_iload_n dX0_lay_18 rfl ?_
    refine ab_iast dX0_lay_19 hB.2.2.2.2.1 rfl (by omega) ?_
    refine ab_aload_n dX0_lay_20 rfl ?_
    refine ab_getR dX0_lay_21 fl_X0_18 hB.1 hB.2.2.2.2.2.1 ?_
    refine ab_aload_n dX0_lay_24 rfl ?_
    refine ab_getI dX0_lay_25 fl_X0_44 hB.1 (by simp only [ab_i_si]; simp; exact hP) ?_
    refine ab_iload_n dX0_lay_28 rfl ?_
    refine ab_iast dX0_lay_29 hB.2.2.2.2.2.2.1 rfl (by omega) ?_
    refine ab_aload_n dX0_lay_30 rfl ?_
    refine ab_getR dX0_lay_31 fl_X0_21 hB.1 hB.2.2.2.2.2.2.2.1 ?_
    refine ab_aload_n dX0_lay_34 rfl ?_
    refine ab_getI dX0_lay_35 fl_X0_44 hB.1 (by simp only [ab_i_si]; simp; exact hP) ?_
    refine ab_iload_n dX0_lay_38 rfl ?_
    refine ab_iast dX0_lay_39 hB.2.2.2.2.2.2.2.2.1 rfl (by omega) ?_
    refine ab_aload_n dX0_lay_40 rfl ?_
    refine ab_getR dX0_lay_41 fl_X0_24 hB.1 hB.2.2.2.2.2.2.2.2.2.1 ?_
    refine ab_aload_n dX0_lay_44 rfl ?_
    refine ab_getI dX0_lay_45 fl_X0_44 hB.1 (by simp only [ab_i_si]; simp; exact hP) ?_
    refine ab_iload dX0_lay_48 rfl ?_
    refine ab_iast dX0_lay_50 hB.2.2.2.2.2.2.2.2.2.2.1 rfl (by omega) ?_
    refine ab_iconst (v := nI 0) dX0_lay_51 (by decide) ?_
    refine ab_sti (ls' := [_, _, _, _, _, _, _, _]) dX0_lay_52 (by decide) rfl ?_
    refine ab_weak (lp_lay hk hB hN hn hP hp hw hl ht 4 0 _ rfl ⟨((((ab_fr.rf h).si _ _ _ (by simp)).si _ _ _ (by simp)).si _ _ _ (by simp)).si _ _ _ (by simp), ?_, ?_, ?_, ?_, ?_, ?_, ?_⟩) ⟨rfl, rfl, rfl, rfl, rfl, rfl, trivial⟩
    · simp [ab_i_si]
    · simp [ab_i_si]
    · simp [ab_i_si]
    · simp [ab_i_si]
    · simp [ab_i_si]
    · rintro X Y _ _ ⟨z, hz, _⟩; exact absurd hz (Nat.not_lt_zero z)
    · intro X Y _ _ _; simp [ab_i_si]
  · skip
    exact absurd c_6 (by omega)
