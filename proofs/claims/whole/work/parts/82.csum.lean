/-! ===== the class: sums, alike ===== -/
theorem ofT {p : Prop} {i : Decidable p} (h : @decide p i = true) : p := of_decide_eq_true h
theorem ofF {p : Prop} {i : Decidable p} (h : @decide p i = false) : ¬ p := of_decide_eq_false h
def gtB (p : Int × Nat) : Prop := 1000000000 < p.1 ∨ 1000000000 < (p.2 : Int)
noncomputable def su (s : sS) (n : Nat) : Nat → Option (Int × Nat)
  | 0 => some (0, 1)
  | i + 1 => match su s n i with
    | none => none
    | some T => if bt n i = true then (if @decide (gtB (sA s i)) (Classical.propDecidable _) = true then none else if @decide (gtB (fR (q_add T (sA s i)))) (Classical.propDecidable _) = true then none else some (fR (q_add T (sA s i)))) else some T
theorem su_none {s : sS} {n i : Nat} (h : su s n i = none) : ∀ j, i ≤ j → su s n j = none
  | 0, hj => by obtain rfl : i = 0 := by omega
                exact h
  | j + 1, hj => by
    by_cases c : i = j + 1
    · rw [← c]; exact h
    · rw [su, su_none h j (by omega)]
theorem su_no {s : sS} {n i : Nat} {T : Int × Nat} (h : su s n i = some T) (hb : bt n i = false) : su s n (i + 1) = some T := by rw [su, h]; simp only; rw [if_neg (by rw [hb]; decide)]
theorem su_1 {s : sS} {n i : Nat} {T : Int × Nat} (h : su s n i = some T) (hb : bt n i = true) (g : gtB (sA s i)) : su s n (i + 1) = none := by rw [su, h]; simp only; rw [if_pos hb, if_pos (@decide_eq_true _ (Classical.propDecidable _) g)]
theorem su_2 {s : sS} {n i : Nat} {T : Int × Nat} (h : su s n i = some T) (hb : bt n i = true) (g : ¬ gtB (sA s i)) (g2 : gtB (fR (q_add T (sA s i)))) : su s n (i + 1) = none := by rw [su, h]; simp only; rw [if_pos hb, if_neg (fun q => g (@of_decide_eq_true _ (Classical.propDecidable _) q)), if_pos (@decide_eq_true _ (Classical.propDecidable _) g2)]
theorem su_3 {s : sS} {n i : Nat} {T : Int × Nat} (h : su s n i = some T) (hb : bt n i = true) (g : ¬ gtB (sA s i)) (g2 : ¬ gtB (fR (q_add T (sA s i)))) : su s n (i + 1) = some (fR (q_add T (sA s i))) := by rw [su, h]; simp only; rw [if_pos hb, if_neg (fun q => g (@of_decide_eq_true _ (Classical.propDecidable _) q)), if_neg (fun q => g2 (@of_decide_eq_true _ (Classical.propDecidable _) q))]
def suB (T : Int × Nat) : Prop := qB 1000000000 1000000000 T ∧ 0 ≤ T.1
theorem suB_of {p : Int × Nat} (h : 0 < p.2) (h0 : 0 ≤ p.1) (g : ¬ gtB p) : suB p := by
  unfold gtB at g
  exact ⟨⟨by omega, h, by omega⟩, h0⟩
theorem suB_add {p q : Int × Nat} (hp : suB p) (hq : suB q) : qB 2000000000000000000 1000000000000000000 (q_add p q) ∧ 0 ≤ (q_add p q).1 := ⟨(hp.1.add hq.1).mono (by decide) (by decide), Int.add_nonneg (Int.mul_nonneg hp.2 (Int.natCast_nonneg _)) (Int.mul_nonneg hq.2 (Int.natCast_nonneg _))⟩
theorem zK9 : zK 1000000000 := by unfold zK; omega
theorem su_B {s : sS} {n : Nat} (hW : sW s) : ∀ i, i ≤ s.2.2.1 → ∀ T, su s n i = some T → suB T
  | 0, _, T, h => by
    rw [su] at h
    injection h with h
    rw [← h]
    exact ⟨⟨by decide, by decide, by decide⟩, by decide⟩
  | i + 1, hi, T, h => by
    cases e : su s n i with
    | none => rw [su, e] at h; cases h
    | some T' =>
      have hT := su_B hW i (by omega) T' e
      cases c : bt n i with
      | false => rw [su_no e c] at h; injection h with h; rw [← h]; exact hT
      | true =>
        by_cases g : gtB (sA s i)
        · rw [su_1 e c g] at h; cases h
        · by_cases g2 : gtB (fR (q_add T' (sA s i)))
          · rw [su_2 e c g g2] at h; cases h
          · rw [su_3 e c g g2] at h
            injection h with h
            rw [← h]
            have hA := suB_of (sA_B hW (show i < s.2.2.1 by omega)).2.1 (sA_0 s i) g
            have hq := suB_add hT hA
            exact suB_of hq.1.R.2.1 (fR_0 hq.2) g2
/-- the last area of the set, and whether all are alike -/
def al (s : sS) (n : Nat) : Nat → Option (Int × Nat) × Bool
  | 0 => (none, true)
  | i + 1 => if bt n i = true then (some (sA s i), (al s n i).2 && (decide ((al s n i).1 = none) || decide ((al s n i).1 = some (sA s i)))) else al s n i
theorem al_no {s : sS} {n i : Nat} (h : bt n i = false) : al s n (i + 1) = al s n i := by rw [al, if_neg (by rw [h]; decide)]
theorem al_yes {s : sS} {n i : Nat} (h : bt n i = true) : al s n (i + 1) = (some (sA s i), (al s n i).2 && (decide ((al s n i).1 = none) || decide ((al s n i).1 = some (sA s i)))) := by rw [al, if_pos h]
theorem al_false {s : sS} {n i : Nat} (h : (al s n i).2 = false) : ∀ j, i ≤ j → (al s n j).2 = false
  | 0, hj => by obtain rfl : i = 0 := by omega
                exact h
  | j + 1, hj => by
    by_cases c : i = j + 1
    · rw [← c]; exact h
    · have q := al_false h j (by omega)
      cases e : bt n j with
      | false => rw [al_no e]; exact q
      | true => rw [al_yes e]; show ((al s n j).2 && _) = false; rw [q]; rfl
set_option maxRecDepth 100000 in
set_option maxHeartbeats 4000000 in
theorem lp_exactSum {k r n : Nat} {h : ab_H} {s : sS} (hk : 4 ≤ k) (hb : ab_bs h) (hr : r + 2 < 78) (hS0 : at_Shapes (ab_sh h) (ab_r h) r) (hD0 : sh_C r s h) (hn : n < 2147483648) : ∀ (j i b u : Nat) (h1 : ab_H) (T : Int × Nat) (a4 : Option Value), i + j = s.2.2.1 → j ≤ b → ab_gr [] [] h h1 → su s n i = some T → suB T → fr_at h1 u T → ab_R k b mX9_exactSum 8 [some (.ref r), some (.int (nI n)), some (.ref u), some (.int (nI i)), a4] [] h1 (ab_pr (fun x h' => ab_gr [] [] h h' ∧ (∀ T, su s n s.2.2.1 = some T → fr_at h' x T) ∧ (su s n s.2.2.1 = none → x = 0))) := by
  intro j
  induction j with
  | zero =>
    intro i b u h1 T a4 hi hb9 G hs hTB hu
    have h11 := hD0.W.2.1
    have hb1 := hb.gr G
    have hS := hS0.gr G hb hr (by simp)
    have hD := hD0.gr G nil78 nil78 hb hr (by simp) (by simp) (by simp)
    obtain rfl : i = s.2.2.1 := by omega
    refine ab_iload_n dX9_exactSum_8 rfl ?_
    refine ab_aload_n dX9_exactSum_9 rfl ?_
    refine ab_getI dX9_exactSum_10 fl_X9_25 hS.1 hD.nt ?_
    refine ab_nicmp_ge 74 dX9_exactSum_13 (by decide) (by omega) (by omega) (fun c_13 => ?_) (fun c_13 => ?_)
    · skip
      refine ab_aload_n dX9_exactSum_74 rfl ?_
      refine ab_retr dX9_exactSum_75 ?_
      refine ⟨G, fun T2 e => ?_, fun e => ?_⟩
      · rw [hs] at e; injection e with e; rw [← e]; exact hu
      · rw [hs] at e; cases e
    · skip
      exact absurd (Nat.le_refl _) c_13
  | succ j ih =>
    intro i b u h1 T a4 hi hb9 G hs hTB hu
    have h11 := hD0.W.2.1
    have hb1 := hb.gr G
    have hS := hS0.gr G hb hr (by simp)
    have hD := hD0.gr G nil78 nil78 hb hr (by simp) (by simp) (by simp)
    refine ab_iload_n dX9_exactSum_8 rfl ?_
    refine ab_aload_n dX9_exactSum_9 rfl ?_
    refine ab_getI dX9_exactSum_10 fl_X9_25 hS.1 hD.nt ?_
    refine ab_nicmp_ge 74 dX9_exactSum_13 (by decide) (by omega) (by omega) (fun c_13 => ?_) (fun c_13 => ?_)
    · skip
      exact absurd c_13 (by omega)
    · skip
      have hi9 : i < s.2.2.1 := by omega
      have hT := hD.tr i hi9
      have hB := sA_B hD.W hi9
      refine ab_aload_n dX9_exactSum_16 rfl ?_
      refine ab_iload_n dX9_exactSum_17 rfl ?_
      refine ab_iload_n dX9_exactSum_18 rfl ?_
      refine ab_callVb [_, _] dX9_exactSum_19 ml_X9_49 mk_X9_isIn hS.1 (c_isIn (k := 0) (b := 0) hn (by omega)) (fun t hh1 hq => ?_)
      obtain ⟨hhe, rfl⟩ := hq
      rw [hhe]
      refine ab_bif_eq 68 dX9_exactSum_22 (by decide) (fun c_22 => ?_) (fun c_22 => ?_)
      · skip
        refine ab_nincR (ls' := [_, _, _, _, _]) dX9_exactSum_68 rfl rfl ?_
        refine ab_goto 8 dX9_exactSum_71 (by decide) ?_
        first | exact ih (i + 1) _ _ _ T _ (by omega) (by omega) G (su_no hs c_22) hTB hu | exact ih (i + 1) _ _ _ _ _ (by omega) (by omega) G2 (su_3 hs c_22 (ofF c_44) (ofF c_63)) (suB_of hq9.1.R.2.1 (fR_0 hq9.2) (ofF c_63)) hu2
      · skip
        refine ab_aload_n dX9_exactSum_25 rfl ?_
        refine ab_getR dX9_exactSum_26 fl_X9_17 hS.1 hS.2.2.2.1 ?_
        refine ab_iload_n dX9_exactSum_29 rfl ?_
        refine ab_aald (t := 7) dX9_exactSum_30 hS.2.2.2.2 rfl (by omega) rfl ?_
        refine ab_getR dX9_exactSum_31 fl_X9_53 hT.2.2.1 rfl ?_
        refine ab_sta (ls' := [_, _, _, _, _]) dX9_exactSum_34 (by decide) rfl ?_
        refine ab_aload dX9_exactSum_36 rfl ?_
        refine ab_ldc2 dX9_exactSum_38 kc_X9_57 ?_
        refine ab_topL (show (1000000000 : Int64) = zI 1000000000 by decide) ?_
        refine ab_callVb [_] dX9_exactSum_41 ml_X9_59 mk_X2_isAbove hT.2.2.2.2.2.2.2.2.2.2.1 (c_fr_above (k := 0) (b := 0) hT.2.2.2.2.2.2.2.2 zK9 (hB.k1 (by decide)) (hB.k2 (by decide))) (fun t1 hh3 hq => ?_)
        obtain ⟨hhe, rfl⟩ := hq
        rw [hhe]
        refine ab_bif_eq 49 dX9_exactSum_44 (by decide) (fun c_44 => ?_) (fun c_44 => ?_)
        · skip
          have hA9 := suB_of hB.2.1 (sA_0 s i) (ofF c_44)
          have hq9 := suB_add hTB hA9
          refine ab_aload_n dX9_exactSum_49 rfl ?_
          refine ab_aload dX9_exactSum_50 rfl ?_
          refine ab_callVr [_] dX9_exactSum_52 ml_X9_63 mk_X2_plus hu.2.2.1 (c_fr_plus (k := 3) (b := 1) (Nat.le_refl _) (Nat.le_refl _) hb1 hu hT.2.2.2.2.2.2.2.2 hTB.1.2.1 hA9.1.2.1 (hq9.1.k1 (by decide)) (hq9.1.k2 (by decide))) (fun u2 h2 hq => ?_)
          obtain ⟨g, hu2⟩ := hq
          have G2 := G.trans g (fun _ q => q) (fun _ q => q)
          refine ab_sta_n (ls' := [_, _, _, _, _]) dX9_exactSum_55 (by decide) rfl ?_
          refine ab_aload_n dX9_exactSum_56 rfl ?_
          refine ab_ldc2 dX9_exactSum_57 kc_X9_57 ?_
          refine ab_topL (show (1000000000 : Int64) = zI 1000000000 by decide) ?_
          refine ab_callVb [_] dX9_exactSum_60 ml_X9_59 mk_X2_isAbove hu2.2.2.1 (c_fr_above (k := 0) (b := 0) hu2 zK9 (hq9.1.R.k1 (by decide)) (hq9.1.R.k2 (by decide))) (fun t2 hh4 hq => ?_)
          obtain ⟨hhe, rfl⟩ := hq
          rw [hhe]
          refine ab_bif_eq 68 dX9_exactSum_63 (by decide) (fun c_63 => ?_) (fun c_63 => ?_)
          · skip
            refine ab_nincR (ls' := [_, _, _, _, _]) dX9_exactSum_68 rfl rfl ?_
            refine ab_goto 8 dX9_exactSum_71 (by decide) ?_
            first | exact ih (i + 1) _ _ _ T _ (by omega) (by omega) G (su_no hs c_22) hTB hu | exact ih (i + 1) _ _ _ _ _ (by omega) (by omega) G2 (su_3 hs c_22 (ofF c_44) (ofF c_63)) (suB_of hq9.1.R.2.1 (fR_0 hq9.2) (ofF c_63)) hu2
          · skip
            refine ab_null dX9_exactSum_66 ?_
            refine ab_retr dX9_exactSum_67 ?_
            refine ⟨G2, fun T2 e => ?_, fun _ => rfl⟩
            first | (rw [su_none (su_1 hs c_22 (ofT c_44)) _ (by omega)] at e; cases e) | (rw [su_none (su_2 hs c_22 (ofF c_44) (ofT c_63)) _ (by omega)] at e; cases e)
        · skip
          refine ab_null dX9_exactSum_47 ?_
          refine ab_retr dX9_exactSum_48 ?_
          refine ⟨G, fun T2 e => ?_, fun _ => rfl⟩
          first | (rw [su_none (su_1 hs c_22 (ofT c_44)) _ (by omega)] at e; cases e) | (rw [su_none (su_2 hs c_22 (ofF c_44) (ofT c_63)) _ (by omega)] at e; cases e)
set_option maxRecDepth 100000 in
set_option maxHeartbeats 4000000 in
theorem c_exactSum {k b r n : Nat} {h : ab_H} {s : sS} (hk : 4 ≤ k) (hb1 : 11 ≤ b) (hb : ab_bs h) (hr : r + 2 < 78) (hS : at_Shapes (ab_sh h) (ab_r h) r) (hD : sh_C r s h) (hn : n < 2147483648) : ab_M k b mX9_exactSum [.ref r, .int (nI n)] h (ab_pr (fun x h' => ab_gr [] [] h h' ∧ (∀ T, su s n s.2.2.1 = some T → fr_at h' x T) ∧ (su s n s.2.2.1 = none → x = 0))) := by
  have h11 := hD.W.2.1
  refine ab_enter ?_
  refine ab_lconst (v := zI 0) dX9_exactSum_0 (by decide) ?_
  refine ab_lconst (v := zI ((1 : Nat) : Int)) dX9_exactSum_1 (by decide) ?_
  refine ab_callSr [_, _] dX9_exactSum_2 ml_X9_35 mk_X2_inLeastTerms (c_least (p := (0, 1)) (k := 2) (b := 1) (Nat.le_refl _) (Nat.le_refl _) hb (by unfold nK; decide) (by decide) (by unfold nK; decide)) (fun u h1 hq => ?_)
  rw [fR_01] at hq
  obtain ⟨G, hu⟩ := hq
  refine ab_sta_n (ls' := [_, _, _, _, _]) dX9_exactSum_5 (by decide) rfl ?_
  refine ab_iconst (v := nI 0) dX9_exactSum_6 (by decide) ?_
  refine ab_sti_n (ls' := [_, _, _, _, _]) dX9_exactSum_7 (by decide) rfl ?_
  exact lp_exactSum hk hb hr hS hD hn s.2.2.1 0 _ u h1 (0, 1) _ (by omega) (by omega) G rfl ⟨⟨by decide, by decide, by decide⟩, by decide⟩ hu
set_option maxRecDepth 100000 in
set_option maxHeartbeats 4000000 in
theorem lp_areAlike {k b r n : Nat} {h : ab_H} {s : sS} (hk : 1 ≤ k) (hS : at_Shapes (ab_sh h) (ab_r h) r) (hD : sh_C r s h) (hn : n < 2147483648) : ∀ (j i w : Nat), i + j = s.2.2.1 → (al s n i).2 = true → (((al s n i).1 = none ∧ w = 0) ∨ ∃ A, (al s n i).1 = some A ∧ qB 147639151108467216 73819575554233608 A ∧ fr_at h w A) → ab_R k b mX9_areAlike 4 [some (.ref r), some (.int (nI n)), some (.ref w), some (.int (nI i))] [] h (ab_pb (fun t h' => h' = h ∧ t = (al s n s.2.2.1).2)) := by
  intro j
  induction j with
  | zero =>
    intro i w hi hok hc
    have h11 := hD.W.2.1
    obtain rfl : i = s.2.2.1 := by omega
    refine ab_iload_n dX9_areAlike_4 rfl ?_
    refine ab_aload_n dX9_areAlike_5 rfl ?_
    refine ab_getI dX9_areAlike_6 fl_X9_25 hS.1 hD.nt ?_
    refine ab_nicmp_ge 59 dX9_areAlike_9 (by decide) (by omega) (by omega) (fun c_9 => ?_) (fun c_9 => ?_)
    · skip
      refine ab_iconst (v := nI 1) dX9_areAlike_59 (by decide) ?_
      refine ab_retb (x := true) dX9_areAlike_60 ?_
      exact ⟨rfl, hok.symm⟩
    · skip
      exact absurd (Nat.le_refl _) c_9
  | succ j ih =>
    intro i w hi hok hc
    have h11 := hD.W.2.1
    refine ab_iload_n dX9_areAlike_4 rfl ?_
    refine ab_aload_n dX9_areAlike_5 rfl ?_
    refine ab_getI dX9_areAlike_6 fl_X9_25 hS.1 hD.nt ?_
    refine ab_nicmp_ge 59 dX9_areAlike_9 (by decide) (by omega) (by omega) (fun c_9 => ?_) (fun c_9 => ?_)
    · skip
      exact absurd c_9 (by omega)
    · skip
      have hi9 : i < s.2.2.1 := by omega
      have hT := hD.tr i hi9
      have hB := sA_B hD.W hi9
      refine ab_aload_n dX9_areAlike_12 rfl ?_
      refine ab_iload_n dX9_areAlike_13 rfl ?_
      refine ab_iload_n dX9_areAlike_14 rfl ?_
      refine ab_callVb [_, _] dX9_areAlike_15 ml_X9_49 mk_X9_isIn hS.1 (c_isIn (k := 0) (b := 0) hn (by omega)) (fun t hh1 hq => ?_)
      obtain ⟨hhe, rfl⟩ := hq
      rw [hhe]
      refine ab_bif_eq 53 dX9_areAlike_18 (by decide) (fun c_18 => ?_) (fun c_18 => ?_)
      · skip
        refine ab_nincR (ls' := [_, _, _, _]) dX9_areAlike_53 rfl rfl ?_
        refine ab_goto 4 dX9_areAlike_56 (by decide) ?_
        first | exact ih (i + 1) w (by omega) (by rw [al_no c_18]; exact hok) (by rw [al_no c_18]; exact hc) | exact ih (i + 1) _ (by omega) (by rw [al_yes c_18]; show ((al s n i).2 && _) = true; rw [hok]; first | (rw [hA, decide_eq_true (congrArg some (ofT c_38))]; simp) | (rw [decide_eq_true (hc.elim (fun q => q.1) (fun ⟨A, _, _, q⟩ => absurd q.1 (by omega)))]; rfl)) (Or.inr ⟨sA s i, by rw [al_yes c_18], hB, hT.2.2.2.2.2.2.2.2⟩)
      · skip
        refine ab_aload_n dX9_areAlike_21 rfl ?_
        refine ab_ifnull 43 dX9_areAlike_22 (by decide) (fun c_22 => ?_) (fun c_22 => ?_)
        · skip
          refine ab_aload_n dX9_areAlike_43 rfl ?_
          refine ab_getR dX9_areAlike_44 fl_X9_17 hS.1 hS.2.2.2.1 ?_
          refine ab_iload_n dX9_areAlike_47 rfl ?_
          refine ab_aald (t := 7) dX9_areAlike_48 hS.2.2.2.2 rfl (by omega) rfl ?_
          refine ab_getR dX9_areAlike_49 fl_X9_53 hT.2.2.1 rfl ?_
          refine ab_sta_n (ls' := [_, _, _, _]) dX9_areAlike_52 (by decide) rfl ?_
          refine ab_nincR (ls' := [_, _, _, _]) dX9_areAlike_53 rfl rfl ?_
          refine ab_goto 4 dX9_areAlike_56 (by decide) ?_
          first | exact ih (i + 1) w (by omega) (by rw [al_no c_18]; exact hok) (by rw [al_no c_18]; exact hc) | exact ih (i + 1) _ (by omega) (by rw [al_yes c_18]; show ((al s n i).2 && _) = true; rw [hok]; first | (rw [hA, decide_eq_true (congrArg some (ofT c_38))]; simp) | (rw [decide_eq_true (hc.elim (fun q => q.1) (fun ⟨A, _, _, q⟩ => absurd q.1 (by omega)))]; rfl)) (Or.inr ⟨sA s i, by rw [al_yes c_18], hB, hT.2.2.2.2.2.2.2.2⟩)
        · obtain ⟨A, hA, hAB, hw⟩ := hc.resolve_left (fun q => c_22 q.2)
          refine ab_aload_n dX9_areAlike_25 rfl ?_
          refine ab_aload_n dX9_areAlike_26 rfl ?_
          refine ab_getR dX9_areAlike_27 fl_X9_17 hS.1 hS.2.2.2.1 ?_
          refine ab_iload_n dX9_areAlike_30 rfl ?_
          refine ab_aald (t := 7) dX9_areAlike_31 hS.2.2.2.2 rfl (by omega) rfl ?_
          refine ab_getR dX9_areAlike_32 fl_X9_53 hT.2.2.1 rfl ?_
          refine ab_callVb [_] dX9_areAlike_35 ml_X9_75 mk_X2_equalTo hw.2.2.1 (c_fr_equal (k := 0) (b := 0) hw hT.2.2.2.2.2.2.2.2 (hAB.k1 (by decide)) (hAB.k2 (by decide)) (hB.k1 (by decide)) (hB.k2 (by decide))) (fun t2 hh2 hq => ?_)
          obtain ⟨hhe, rfl⟩ := hq
          rw [hhe]
          refine ab_bif_ne 43 dX9_areAlike_38 (by decide) (fun c_38 => ?_) (fun c_38 => ?_)
          · skip
            refine ab_aload_n dX9_areAlike_43 rfl ?_
            refine ab_getR dX9_areAlike_44 fl_X9_17 hS.1 hS.2.2.2.1 ?_
            refine ab_iload_n dX9_areAlike_47 rfl ?_
            refine ab_aald (t := 7) dX9_areAlike_48 hS.2.2.2.2 rfl (by omega) rfl ?_
            refine ab_getR dX9_areAlike_49 fl_X9_53 hT.2.2.1 rfl ?_
            refine ab_sta_n (ls' := [_, _, _, _]) dX9_areAlike_52 (by decide) rfl ?_
            refine ab_nincR (ls' := [_, _, _, _]) dX9_areAlike_53 rfl rfl ?_
            refine ab_goto 4 dX9_areAlike_56 (by decide) ?_
            first | exact ih (i + 1) w (by omega) (by rw [al_no c_18]; exact hok) (by rw [al_no c_18]; exact hc) | exact ih (i + 1) _ (by omega) (by rw [al_yes c_18]; show ((al s n i).2 && _) = true; rw [hok]; first | (rw [hA, decide_eq_true (congrArg some (ofT c_38))]; simp) | (rw [decide_eq_true (hc.elim (fun q => q.1) (fun ⟨A, _, _, q⟩ => absurd q.1 (by omega)))]; rfl)) (Or.inr ⟨sA s i, by rw [al_yes c_18], hB, hT.2.2.2.2.2.2.2.2⟩)
          · skip
            refine ab_iconst (v := nI 0) dX9_areAlike_41 (by decide) ?_
            refine ab_retb (x := false) dX9_areAlike_42 ?_
            refine ⟨rfl, (al_false (i := i + 1) ?_ _ (by omega)).symm⟩
            rw [al_yes c_18, hA]
            show ((al s n i).2 && (decide (some A = none) || decide (some A = some (sA s i)))) = false
            have q := ofF c_38
            simp [q]
set_option maxRecDepth 100000 in
set_option maxHeartbeats 4000000 in
theorem c_areAlike {k b r n : Nat} {h : ab_H} {s : sS} (hk : 1 ≤ k) (hS : at_Shapes (ab_sh h) (ab_r h) r) (hD : sh_C r s h) (hn : n < 2147483648) : ab_M k b mX9_areAlike [.ref r, .int (nI n)] h (ab_pb (fun t h' => h' = h ∧ t = (al s n s.2.2.1).2)) := by
  refine ab_enter ?_
  refine ab_null dX9_areAlike_0 ?_
  refine ab_sta_n (ls' := [_, _, _, _]) dX9_areAlike_1 (by decide) rfl ?_
  refine ab_iconst (v := nI 0) dX9_areAlike_2 (by decide) ?_
  refine ab_sti_n (ls' := [_, _, _, _]) dX9_areAlike_3 (by decide) rfl ?_
  exact lp_areAlike hk hS hD hn s.2.2.1 0 0 (by omega) rfl (Or.inl ⟨rfl, rfl⟩)
