/-! ===== texts: what a statement asks and does ===== -/
abbrev xS : Type := Nat × Nat × Nat × (Nat → Nat) × sS
abbrev xp (X : xS) : Nat := X.2.2.2.2.1
abbrev xt (X : xS) : Nat := X.2.2.2.2.2.2.1
def tx_ok (e : eS) (p np nt : Nat) : Prop := if eL e p = 98 then eD e (p + 1) ≤ 4 ∧ eT e (p + 2) < 2 ^ eD e (p + 1) ∧ eT e (p + 4) < 2 ^ eD e (p + 1) else if eL e p = 114 then (∀ i, i < 5 → eD e (p + 1 + i) < 4) else if eL e p = 112 then 0 < eT e (p + 3) ∧ 0 < eT e (p + 7) ∧ np < 10 else eD e (p + 1) < 6 ∧ th np (nI (eD e (p + 2))) (nI (eD e (p + 3))) (nI (eD e (p + 4))) ∧ nt < 10
def rU (ρ : Nat → Nat) (d : Nat) (f : Nat → Nat) : Nat → Nat := fun j => if 4 * d ≤ j ∧ j < 4 * d + 4 then f (j - 4 * d) else ρ j
def tx_do (e : eS) (p : Nat) (X : xS) : xS := if eL e p = 98 then (eD e (p + 1), eT e (p + 2), eT e (p + 4), X.2.2.2.1, X.2.2.2.2) else if eL e p = 114 then (X.1, X.2.1, X.2.2.1, rU X.2.2.2.1 (eD e (p + 1)) (fun i => eD e (p + 2 + i)), X.2.2.2.2) else if eL e p = 112 then (X.1, X.2.1, X.2.2.1, X.2.2.2.1, sP X.2.2.2.2 (eF e (p + 1)) (eF e (p + 5))) else (X.1, X.2.1, X.2.2.1, X.2.2.2.1, sT X.2.2.2.2 (eD e (p + 1)) (eD e (p + 2)) (eD e (p + 3)) (eD e (p + 4)))
theorem tx_ok_b {e : eS} {p np nt : Nat} (h : eL e p = 98) : tx_ok e p np nt ↔ eD e (p + 1) ≤ 4 ∧ eT e (p + 2) < 2 ^ eD e (p + 1) ∧ eT e (p + 4) < 2 ^ eD e (p + 1) := by unfold tx_ok; rw [if_pos h]
theorem tx_ok_r {e : eS} {p np nt : Nat} (h : eL e p = 114) : tx_ok e p np nt ↔ ∀ i, i < 5 → eD e (p + 1 + i) < 4 := by unfold tx_ok; rw [if_neg (by rw [h]; decide), if_pos h]
theorem tx_ok_p {e : eS} {p np nt : Nat} (h : eL e p = 112) : tx_ok e p np nt ↔ 0 < eT e (p + 3) ∧ 0 < eT e (p + 7) ∧ np < 10 := by unfold tx_ok; rw [if_neg (by rw [h]; decide), if_neg (by rw [h]; decide), if_pos h]
theorem tx_ok_t {e : eS} {p np nt : Nat} (h : eL e p = 116) : tx_ok e p np nt ↔ eD e (p + 1) < 6 ∧ th np (nI (eD e (p + 2))) (nI (eD e (p + 3))) (nI (eD e (p + 4))) ∧ nt < 10 := by unfold tx_ok; rw [if_neg (by rw [h]; decide), if_neg (by rw [h]; decide), if_neg (by rw [h]; decide)]
theorem tx_do_b {e : eS} {p : Nat} {X : xS} (h : eL e p = 98) : tx_do e p X = (eD e (p + 1), eT e (p + 2), eT e (p + 4), X.2.2.2.1, X.2.2.2.2) := by unfold tx_do; rw [if_pos h]
theorem tx_do_r {e : eS} {p : Nat} {X : xS} (h : eL e p = 114) : tx_do e p X = (X.1, X.2.1, X.2.2.1, rU X.2.2.2.1 (eD e (p + 1)) (fun i => eD e (p + 2 + i)), X.2.2.2.2) := by unfold tx_do; rw [if_neg (by rw [h]; decide), if_pos h]
theorem tx_do_p {e : eS} {p : Nat} {X : xS} (h : eL e p = 112) : tx_do e p X = (X.1, X.2.1, X.2.2.1, X.2.2.2.1, sP X.2.2.2.2 (eF e (p + 1)) (eF e (p + 5))) := by unfold tx_do; rw [if_neg (by rw [h]; decide), if_neg (by rw [h]; decide), if_pos h]
theorem tx_do_t {e : eS} {p : Nat} {X : xS} (h : eL e p = 116) : tx_do e p X = (X.1, X.2.1, X.2.2.1, X.2.2.2.1, sT X.2.2.2.2 (eD e (p + 1)) (eD e (p + 2)) (eD e (p + 3)) (eD e (p + 4))) := by unfold tx_do; rw [if_neg (by rw [h]; decide), if_neg (by rw [h]; decide), if_neg (by rw [h]; decide)]
/-- a statement that is read: which letter, how many digits -/
theorem tx_let {e : eS} {p : Nat} (h : tx_wr e p = none) : (eL e p = 98 ∧ ∀ i, 1 ≤ i → i ≤ 5 → eI e (p + i)) ∨ (eL e p = 114 ∧ ∀ i, 1 ≤ i → i ≤ 5 → eI e (p + i)) ∨ (eL e p = 112 ∧ ∀ i, 1 ≤ i → i ≤ 8 → eI e (p + i)) ∨ eL e p = 116 ∧ ∀ i, 1 ≤ i → i ≤ 4 → eI e (p + i) := by
  obtain ⟨n1, n2, -, -⟩ := tx_wr_none h
  rcases eG_cs (eL e p) with q | ⟨q, z | z⟩ | ⟨q, z⟩ | ⟨q, z⟩
  · exact absurd q.1 n1
  · rw [q] at n2; exact Or.inl ⟨z, n2⟩
  · rw [q] at n2; exact Or.inr (Or.inl ⟨z, n2⟩)
  · rw [q] at n2; exact Or.inr (Or.inr (Or.inl ⟨z, n2⟩))
  · rw [q] at n2; exact Or.inr (Or.inr (Or.inr ⟨z, n2⟩))
theorem tx_do_np {e : eS} {p : Nat} {X : xS} : xp (tx_do e p X) = if eL e p = 112 then xp X + 1 else xp X := by
  unfold tx_do
  by_cases a : eL e p = 98
  · rw [if_pos a, if_neg (by omega)]
  · by_cases b : eL e p = 114
    · rw [if_neg a, if_pos b, if_neg (by omega)]
    · by_cases c : eL e p = 112
      · rw [if_neg a, if_neg b, if_pos c, if_pos c]; rfl
      · rw [if_neg a, if_neg b, if_neg c, if_neg c]; rfl
theorem tx_do_nt {e : eS} {p : Nat} {X : xS} (h : tx_wr e p = none) : xt (tx_do e p X) = if eL e p = 116 then xt X + 1 else xt X := by
  rcases tx_let h with ⟨c, -⟩ | ⟨c, -⟩ | ⟨c, -⟩ | ⟨c, -⟩
  · rw [tx_do_b c, if_neg (by omega)]
  · rw [tx_do_r c, if_neg (by omega)]
  · rw [tx_do_p c, if_neg (by omega)]; rfl
  · rw [tx_do_t c, if_pos c]; rfl
theorem eF_mod {e : eS} {q : Nat} (h2 : eI e (q + 2)) (h3 : eI e (q + 3)) : eF e q % 100 = eT e (q + 2) ∧ eF e q / 100 = eT e q := by
  have := eT_lt h2 h3
  unfold eF
  omega
theorem tx_do_W {e : eS} {p : Nat} {X : xS} (h : tx_wr e p = none) (ok : tx_ok e p (xp X) (xt X)) (hW : sW X.2.2.2.2) : sW (tx_do e p X).2.2.2.2 := by
  rcases tx_let h with ⟨c, d⟩ | ⟨c, d⟩ | ⟨c, d⟩ | ⟨c, d⟩
  · rw [tx_do_b c]; exact hW
  · rw [tx_do_r c]; exact hW
  · rw [tx_do_p c]
    obtain ⟨o1, o2, o3⟩ := (tx_ok_p c).mp ok
    refine sP_W hW o3 ⟨eF_lt (d 1 (by omega) (by omega)) (d 2 (by omega) (by omega)) (d 3 (by omega) (by omega)) (d 4 (by omega) (by omega)), ?_⟩ ⟨eF_lt (d 5 (by omega) (by omega)) (d 6 (by omega) (by omega)) (d 7 (by omega) (by omega)) (d 8 (by omega) (by omega)), ?_⟩
    · rw [(eF_mod (q := p + 1) (d 3 (by omega) (by omega)) (d 4 (by omega) (by omega))).1]; exact Nat.ne_of_gt o1
    · rw [(eF_mod (q := p + 5) (d 7 (by omega) (by omega)) (d 8 (by omega) (by omega))).1]; exact Nat.ne_of_gt o2
  · rw [tx_do_t c]
    obtain ⟨o1, o2, o3⟩ := (tx_ok_t c).mp ok
    have l2 := eD_lt (d 2 (by omega) (by omega))
    have l3 := eD_lt (d 3 (by omega) (by omega))
    have l4 := eD_lt (d 4 (by omega) (by omega))
    have a1 := (of_decide_eq_true o2.1).2
    have a2 := (of_decide_eq_true o2.2.1).2
    have a3 := (of_decide_eq_true o2.2.2.1).2
    rw [nI_toInt (by omega)] at a1 a2 a3
    exact sT_W hW o3 o1 (show _ < xp X by omega) (show _ < xp X by omega) (show _ < xp X by omega)
theorem nI_le0 {t : Nat} (ht : t < 2147483648) : nI t ≤ 0 ↔ t = 0 := by
  rw [Int32.le_iff_toInt_le, Int32.toInt_zero, nI_toInt ht]
  omega
/-! ===== the class: whether a statement can be ===== -/
set_option maxRecDepth 100000 in
set_option maxHeartbeats 4000000 in
theorem lp_aw {k b q : Nat} {h : ab_H} {e : eS} (hk : 2 ≤ k) (hC : at_C (ab_sh h) (ab_r h)) (hE : le_C e h) (hq : q < 2147400000) (D : ∀ i, i < 5 → eI e (q + i)) : ∀ (j i : Nat), i + j = 5 → (∀ u, u < i → eD e (q + u) < 4) → ab_R k b mX11_areWays 2 [some (.ref 5), some (.int (nI q)), some (.int (nI 5)), some (.int (nI i))] [] h (ab_pb (fun t h' => h' = h ∧ (t = true ↔ ∀ i, i < 5 → eD e (q + i) < 4))) := by
  intro j
  induction j with
  | zero =>
    intro i hi hl
    refine ab_iload_n dX11_areWays_2 rfl ?_
    refine ab_iload_n dX11_areWays_3 rfl ?_
    refine ab_nicmp_ge 31 dX11_areWays_4 (by decide) (by omega) (by omega) (fun c_4 => ?_) (fun c_4 => ?_)
    · skip
      refine ab_iconst (v := nI 1) dX11_areWays_31 (by decide) ?_
      refine ab_retb (x := true) dX11_areWays_32 ?_
      obtain rfl : i = 5 := by omega
      exact ⟨rfl, fun _ => hl, fun _ => rfl⟩
    · skip
      exact absurd (by omega) c_4
  | succ j ih =>
    intro i hi hl
    have hd := eD_lt (D i (by omega))
    refine ab_iload_n dX11_areWays_2 rfl ?_
    refine ab_iload_n dX11_areWays_3 rfl ?_
    refine ab_nicmp_ge 31 dX11_areWays_4 (by decide) (by omega) (by omega) (fun c_4 => ?_) (fun c_4 => ?_)
    · skip
      exact absurd c_4 (by omega)
    · skip
      refine ab_aload_n dX11_areWays_7 rfl ?_
      refine ab_getR dX11_areWays_8 fl_X11_33 hC.hs hC.p5_3 ?_
      refine ab_iload_n dX11_areWays_11 rfl ?_
      refine ab_iload_n dX11_areWays_12 rfl ?_
      refine ab_naddR dX11_areWays_13 ?_
      refine ab_callVn [_] dX11_areWays_14 ml_X11_369 mk_X4_digit hC.letters.1 (c_digit (k := 1) (b := 0) (q := q + i) (Nat.le_refl _) hC.letters hE (by omega) (D i (by omega))) (fun x hh hq => ?_)
      obtain ⟨hhe, rfl⟩ := hq
      rw [hhe]
      refine ab_callSb [_] dX11_areWays_17 ml_X11_139 mk_X11_isWay (c_isWay (k := 0) (b := 0)) (fun t hh hq => ?_)
      obtain ⟨hhe, rfl⟩ := hq
      rw [hhe]
      refine ab_bif_ne 25 dX11_areWays_20 (by decide) (fun c_20 => ?_) (fun c_20 => ?_)
      · skip
        have i4 := of_decide_eq_true c_20
        rw [nI_toInt (by omega)] at i4
        refine ab_nincR (ls' := [_, _, _, _]) dX11_areWays_25 rfl rfl ?_
        refine ab_goto 2 dX11_areWays_28 (by decide) ?_
        exact ih (i + 1) (by omega) (fun u hu => (Nat.lt_or_eq_of_le (Nat.le_of_lt_succ hu)).elim (hl u) (fun c9 => by rw [c9]; omega))
      · skip
        refine ab_iconst (v := nI 0) dX11_areWays_23 (by decide) ?_
        refine ab_retb (x := false) dX11_areWays_24 ?_
        exact ⟨rfl, fun q9 => absurd q9 (by decide), fun q9 => absurd (q9 i (by omega)) (fun q9 => ab_tf (ab_inr_ok (lo := 0) (hi := 3) (x := nI (eD e (q + i))) (by rw [nI_toInt (by omega)]; omega) (by rw [nI_toInt (by omega)]; omega)) c_20)⟩
set_option maxRecDepth 100000 in
set_option maxHeartbeats 4000000 in
theorem c_areWays {k b q : Nat} {h : ab_H} {e : eS} (hk : 2 ≤ k) (hC : at_C (ab_sh h) (ab_r h)) (hE : le_C e h) (hq : q < 2147400000) (D : ∀ i, i < 5 → eI e (q + i)) : ab_M k b mX11_areWays [.ref 5, .int (nI q), .int (nI 5)] h (ab_pb (fun t h' => h' = h ∧ (t = true ↔ ∀ i, i < 5 → eD e (q + i) < 4))) := by
  refine ab_enter ?_
  refine ab_iconst (v := nI 0) dX11_areWays_0 (by decide) ?_
  refine ab_sti_n (ls' := [_, _, _, _]) dX11_areWays_1 (by decide) rfl ?_
  exact lp_aw hk hC hE hq D 5 0 rfl (fun u hu => absurd hu (Nat.not_lt_zero u))
set_option maxRecDepth 100000 in
set_option maxHeartbeats 4000000 in
theorem c_canBe {k b p np nt : Nat} {h : ab_H} {e : eS} (hk : 3 ≤ k) (hC : at_C (ab_sh h) (ab_r h)) (hE : le_C e h) (hp : p < 2147000000) (hw : tx_wr e p = none) (hnp : np ≤ 10) (hnt : nt ≤ 10) : ab_M k b mX11_canBe [.ref 5, .int (nI p), .int (nI np), .int (nI nt)] h (ab_pb (fun t h' => h' = h ∧ (t = true ↔ tx_ok e p np nt))) := by
  rcases tx_let hw with ⟨e98, D⟩ | ⟨e114, D⟩ | ⟨e112, D⟩ | ⟨e116, D⟩
  · refine ab_enter ?_
    refine ab_aload_n dX11_canBe_0 rfl ?_
    refine ab_getR dX11_canBe_1 fl_X11_33 hC.hs hC.p5_3 ?_
    refine ab_iload_n dX11_canBe_4 rfl ?_
    refine ab_callVn [_] dX11_canBe_5 ml_X11_365 mk_X4_letterAt hC.letters.1 (c_letterAt (k := 0) (b := 0) (q := p) hC.letters hE (by omega)) (fun x hh hq => ?_)
    obtain ⟨hhe, rfl⟩ := hq
    rw [hhe]
    refine ab_lookup (off := 36) 44 dX11_canBe_8 (by decide) (by rw [e98]; decide) (by decide) ?_
    have l1 := eD_lt (D 1 (by omega) (by omega))
    have l2 := eT_lt (D 2 (by omega) (by omega)) (D 3 (by omega) (by omega))
    have l4 := eT_lt (D 4 (by omega) (by omega)) (D 5 (by omega) (by omega))
    refine ab_aload_n dX11_canBe_44 rfl ?_
    refine ab_getR dX11_canBe_45 fl_X11_33 hC.hs hC.p5_3 ?_
    refine ab_iload_n dX11_canBe_48 rfl ?_
    refine ab_iconst (v := nI 1) dX11_canBe_49 (by decide) ?_
    refine ab_naddR dX11_canBe_50 ?_
    refine ab_callVn [_] dX11_canBe_51 ml_X11_369 mk_X4_digit hC.letters.1 (c_digit (k := 1) (b := 0) (q := p + 1) (Nat.le_refl _) hC.letters hE (by omega) (D 1 (by omega) (by omega))) (fun x hh hq => ?_)
    obtain ⟨hhe, rfl⟩ := hq
    rw [hhe]
    refine ab_iconst (v := nI 4) dX11_canBe_54 (by decide) ?_
    refine ab_nicmp_gt 98 dX11_canBe_55 (by decide) (by omega) (by omega) (fun c_55 => ?_) (fun c_55 => ?_)
    · have zno : ¬ tx_ok e p np nt := fun q9 => absurd ((tx_ok_b e98).mp q9).1 (by omega)
      refine ab_iconst (v := nI 0) dX11_canBe_98 (by decide) ?_
      refine ab_retb (x := false) dX11_canBe_99 ?_
      first | exact ⟨rfl, fun _ => zok, fun _ => rfl⟩ | exact ⟨rfl, fun q9 => absurd q9 (by decide), fun q9 => absurd q9 zno⟩
    · skip
      refine ab_aload_n dX11_canBe_58 rfl ?_
      refine ab_getR dX11_canBe_59 fl_X11_33 hC.hs hC.p5_3 ?_
      refine ab_iload_n dX11_canBe_62 rfl ?_
      refine ab_iconst (v := nI 1) dX11_canBe_63 (by decide) ?_
      refine ab_naddR dX11_canBe_64 ?_
      refine ab_callVn [_] dX11_canBe_65 ml_X11_369 mk_X4_digit hC.letters.1 (c_digit (k := 1) (b := 0) (q := p + 1) (Nat.le_refl _) hC.letters hE (by omega) (D 1 (by omega) (by omega))) (fun x hh hq => ?_)
      obtain ⟨hhe, rfl⟩ := hq
      rw [hhe]
      refine ab_aload_n dX11_canBe_68 rfl ?_
      refine ab_getR dX11_canBe_69 fl_X11_33 hC.hs hC.p5_3 ?_
      refine ab_iload_n dX11_canBe_72 rfl ?_
      refine ab_iconst (v := nI 2) dX11_canBe_73 (by decide) ?_
      refine ab_naddR dX11_canBe_74 ?_
      refine ab_callVn [_] dX11_canBe_75 ml_X11_372 mk_X4_twoDigits hC.letters.1 (c_twoDigits (k := 2) (b := 0) (q := p + 2) (Nat.le_refl _) hC.letters hE (by omega) (D 2 (by omega) (by omega)) (D 3 (by omega) (by omega))) (fun x hh hq => ?_)
      obtain ⟨hhe, rfl⟩ := hq
      rw [hhe]
      refine ab_aload_n dX11_canBe_78 rfl ?_
      refine ab_getR dX11_canBe_79 fl_X11_33 hC.hs hC.p5_3 ?_
      refine ab_iload_n dX11_canBe_82 rfl ?_
      refine ab_iconst (v := nI 4) dX11_canBe_83 (by decide) ?_
      refine ab_naddR dX11_canBe_84 ?_
      refine ab_callVn [_] dX11_canBe_85 ml_X11_372 mk_X4_twoDigits hC.letters.1 (c_twoDigits (k := 2) (b := 0) (q := p + 4) (Nat.le_refl _) hC.letters hE (by omega) (D 4 (by omega) (by omega)) (D 5 (by omega) (by omega))) (fun x hh hq => ?_)
      obtain ⟨hhe, rfl⟩ := hq
      rw [hhe]
      refine ab_callSb [_, _, _] dX11_canBe_88 ml_X11_98 mk_X0_isCell (c_isCell (k := 0) (b := 0) (by omega)) (fun t hh hq => ?_)
      obtain ⟨hhe, rfl⟩ := hq
      rw [hhe, bd_isc_nI (by omega) (by omega)]
      refine ab_bif_eq 98 dX11_canBe_91 (by decide) (fun c_91 => ?_) (fun c_91 => ?_)
      · have zno : ¬ tx_ok e p np nt := fun q9 => of_decide_eq_false c_91 ((tx_ok_b e98).mp q9).2
        refine ab_iconst (v := nI 0) dX11_canBe_98 (by decide) ?_
        refine ab_retb (x := false) dX11_canBe_99 ?_
        first | exact ⟨rfl, fun _ => zok, fun _ => rfl⟩ | exact ⟨rfl, fun q9 => absurd q9 (by decide), fun q9 => absurd q9 zno⟩
      · have zok : tx_ok e p np nt := (tx_ok_b e98).mpr ⟨by omega, of_decide_eq_true c_91⟩
        refine ab_iconst (v := nI 1) dX11_canBe_94 (by decide) ?_
        refine ab_goto 99 dX11_canBe_95 (by decide) ?_
        refine ab_retb (x := true) dX11_canBe_99 ?_
        first | exact ⟨rfl, fun _ => zok, fun _ => rfl⟩ | exact ⟨rfl, fun q9 => absurd q9 (by decide), fun q9 => absurd q9 zno⟩
  · refine ab_enter ?_
    refine ab_aload_n dX11_canBe_0 rfl ?_
    refine ab_getR dX11_canBe_1 fl_X11_33 hC.hs hC.p5_3 ?_
    refine ab_iload_n dX11_canBe_4 rfl ?_
    refine ab_callVn [_] dX11_canBe_5 ml_X11_365 mk_X4_letterAt hC.letters.1 (c_letterAt (k := 0) (b := 0) (q := p) hC.letters hE (by omega)) (fun x hh hq => ?_)
    obtain ⟨hhe, rfl⟩ := hq
    rw [hhe]
    refine ab_lookup (off := 92) 100 dX11_canBe_8 (by decide) (by rw [e114]; decide) (by decide) ?_
    refine ab_aload_n dX11_canBe_100 rfl ?_
    refine ab_iload_n dX11_canBe_101 rfl ?_
    refine ab_iconst (v := nI 1) dX11_canBe_102 (by decide) ?_
    refine ab_naddR dX11_canBe_103 ?_
    refine ab_iconst (v := nI 5) dX11_canBe_104 (by decide) ?_
    refine ab_callVb [_, _] dX11_canBe_105 ml_X11_375 mk_X11_areWays hC.hs (c_areWays (k := 2) (b := 0) (q := p + 1) (Nat.le_refl _) hC hE (by omega) (fun i hi => by have := D (1 + i) (by omega) (by omega); rw [← Nat.add_assoc] at this; exact this)) (fun t hh hq => ?_)
    obtain ⟨hhe, hx⟩ := hq
    rw [hhe]
    refine ab_retb dX11_canBe_108 ?_
    exact ⟨rfl, hx.trans (tx_ok_r e114).symm⟩
  · refine ab_enter ?_
    refine ab_aload_n dX11_canBe_0 rfl ?_
    refine ab_getR dX11_canBe_1 fl_X11_33 hC.hs hC.p5_3 ?_
    refine ab_iload_n dX11_canBe_4 rfl ?_
    refine ab_callVn [_] dX11_canBe_5 ml_X11_365 mk_X4_letterAt hC.letters.1 (c_letterAt (k := 0) (b := 0) (q := p) hC.letters hE (by omega)) (fun x hh hq => ?_)
    obtain ⟨hhe, rfl⟩ := hq
    rw [hhe]
    refine ab_lookup (off := 101) 109 dX11_canBe_8 (by decide) (by rw [e112]; decide) (by decide) ?_
    have l3 := eT_lt (D 3 (by omega) (by omega)) (D 4 (by omega) (by omega))
    have l7 := eT_lt (D 7 (by omega) (by omega)) (D 8 (by omega) (by omega))
    refine ab_aload_n dX11_canBe_109 rfl ?_
    refine ab_getR dX11_canBe_110 fl_X11_33 hC.hs hC.p5_3 ?_
    refine ab_iload_n dX11_canBe_113 rfl ?_
    refine ab_iconst (v := nI 3) dX11_canBe_114 (by decide) ?_
    refine ab_naddR dX11_canBe_115 ?_
    refine ab_callVn [_] dX11_canBe_116 ml_X11_372 mk_X4_twoDigits hC.letters.1 (c_twoDigits (k := 2) (b := 0) (q := p + 3) (Nat.le_refl _) hC.letters hE (by omega) (D 3 (by omega) (by omega)) (D 4 (by omega) (by omega))) (fun x hh hq => ?_)
    obtain ⟨hhe, rfl⟩ := hq
    rw [hhe]
    refine ab_if_le 146 dX11_canBe_119 (by decide) (fun c_119 => ?_) (fun c_119 => ?_)
    · have zno : ¬ tx_ok e p np nt := fun q9 => absurd ((tx_ok_p e112).mp q9).1 (by have := (nI_le0 (by omega)).mp c_119; omega)
      refine ab_iconst (v := nI 0) dX11_canBe_146 (by decide) ?_
      refine ab_retb (x := false) dX11_canBe_147 ?_
      first | exact ⟨rfl, fun _ => zok, fun _ => rfl⟩ | exact ⟨rfl, fun q9 => absurd q9 (by decide), fun q9 => absurd q9 zno⟩
    · have z3 := mt (nI_le0 (by omega)).mpr c_119
      refine ab_aload_n dX11_canBe_122 rfl ?_
      refine ab_getR dX11_canBe_123 fl_X11_33 hC.hs hC.p5_3 ?_
      refine ab_iload_n dX11_canBe_126 rfl ?_
      refine ab_bipush (v := nI 7) dX11_canBe_127 (by decide) ?_
      refine ab_naddR dX11_canBe_129 ?_
      refine ab_callVn [_] dX11_canBe_130 ml_X11_372 mk_X4_twoDigits hC.letters.1 (c_twoDigits (k := 2) (b := 0) (q := p + 7) (Nat.le_refl _) hC.letters hE (by omega) (D 7 (by omega) (by omega)) (D 8 (by omega) (by omega))) (fun x hh hq => ?_)
      obtain ⟨hhe, rfl⟩ := hq
      rw [hhe]
      refine ab_if_le 146 dX11_canBe_133 (by decide) (fun c_133 => ?_) (fun c_133 => ?_)
      · have zno : ¬ tx_ok e p np nt := fun q9 => absurd ((tx_ok_p e112).mp q9).2.1 (by have := (nI_le0 (by omega)).mp c_133; omega)
        refine ab_iconst (v := nI 0) dX11_canBe_146 (by decide) ?_
        refine ab_retb (x := false) dX11_canBe_147 ?_
        first | exact ⟨rfl, fun _ => zok, fun _ => rfl⟩ | exact ⟨rfl, fun q9 => absurd q9 (by decide), fun q9 => absurd q9 zno⟩
      · have z7 := mt (nI_le0 (by omega)).mpr c_133
        refine ab_iload_n dX11_canBe_136 rfl ?_
        refine ab_bipush (v := nI 10) dX11_canBe_137 (by decide) ?_
        refine ab_nicmp_ge 146 dX11_canBe_139 (by decide) (by omega) (by omega) (fun c_139 => ?_) (fun c_139 => ?_)
        · have zno : ¬ tx_ok e p np nt := fun q9 => absurd ((tx_ok_p e112).mp q9).2.2 (by omega)
          refine ab_iconst (v := nI 0) dX11_canBe_146 (by decide) ?_
          refine ab_retb (x := false) dX11_canBe_147 ?_
          first | exact ⟨rfl, fun _ => zok, fun _ => rfl⟩ | exact ⟨rfl, fun q9 => absurd q9 (by decide), fun q9 => absurd q9 zno⟩
        · have zok : tx_ok e p np nt := (tx_ok_p e112).mpr ⟨by omega, by omega, by omega⟩
          refine ab_iconst (v := nI 1) dX11_canBe_142 (by decide) ?_
          refine ab_goto 147 dX11_canBe_143 (by decide) ?_
          refine ab_retb (x := true) dX11_canBe_147 ?_
          first | exact ⟨rfl, fun _ => zok, fun _ => rfl⟩ | exact ⟨rfl, fun q9 => absurd q9 (by decide), fun q9 => absurd q9 zno⟩
  · refine ab_enter ?_
    refine ab_aload_n dX11_canBe_0 rfl ?_
    refine ab_getR dX11_canBe_1 fl_X11_33 hC.hs hC.p5_3 ?_
    refine ab_iload_n dX11_canBe_4 rfl ?_
    refine ab_callVn [_] dX11_canBe_5 ml_X11_365 mk_X4_letterAt hC.letters.1 (c_letterAt (k := 0) (b := 0) (q := p) hC.letters hE (by omega)) (fun x hh hq => ?_)
    obtain ⟨hhe, rfl⟩ := hq
    rw [hhe]
    refine ab_lookup (off := 140) 148 dX11_canBe_8 (by decide) (by rw [e116]; decide) (by decide) ?_
    have l1 := eD_lt (D 1 (by omega) (by omega))
    refine ab_aload_n dX11_canBe_148 rfl ?_
    refine ab_getR dX11_canBe_149 fl_X11_33 hC.hs hC.p5_3 ?_
    refine ab_iload_n dX11_canBe_152 rfl ?_
    refine ab_iconst (v := nI 1) dX11_canBe_153 (by decide) ?_
    refine ab_naddR dX11_canBe_154 ?_
    refine ab_callVn [_] dX11_canBe_155 ml_X11_369 mk_X4_digit hC.letters.1 (c_digit (k := 1) (b := 0) (q := p + 1) (Nat.le_refl _) hC.letters hE (by omega) (D 1 (by omega) (by omega))) (fun x hh hq => ?_)
    obtain ⟨hhe, rfl⟩ := hq
    rw [hhe]
    refine ab_callSb [_] dX11_canBe_158 ml_X11_219 mk_X10_isKind (c_isKind (k := 0) (b := 0)) (fun t hh hq => ?_)
    obtain ⟨hhe, rfl⟩ := hq
    rw [hhe]
    refine ab_bif_eq 211 dX11_canBe_161 (by decide) (fun c_161 => ?_) (fun c_161 => ?_)
    · have zno : ¬ tx_ok e p np nt := fun q9 => ab_tf (ab_inr_ok (lo := 0) (hi := 5) (x := nI (eD e (p + 1))) (by rw [nI_toInt (by omega)]; omega) (by rw [nI_toInt (by omega)]; have := ((tx_ok_t e116).mp q9).1; omega)) c_161
      refine ab_iconst (v := nI 0) dX11_canBe_211 (by decide) ?_
      refine ab_retb (x := false) dX11_canBe_212 ?_
      first | exact ⟨rfl, fun _ => zok, fun _ => rfl⟩ | exact ⟨rfl, fun q9 => absurd q9 (by decide), fun q9 => absurd q9 zno⟩
    · have z1 := of_decide_eq_true c_161; rw [nI_toInt (by omega)] at z1
      refine ab_iload_n dX11_canBe_164 rfl ?_
      refine ab_aload_n dX11_canBe_165 rfl ?_
      refine ab_getR dX11_canBe_166 fl_X11_33 hC.hs hC.p5_3 ?_
      refine ab_iload_n dX11_canBe_169 rfl ?_
      refine ab_iconst (v := nI 2) dX11_canBe_170 (by decide) ?_
      refine ab_naddR dX11_canBe_171 ?_
      refine ab_callVn [_] dX11_canBe_172 ml_X11_369 mk_X4_digit hC.letters.1 (c_digit (k := 1) (b := 0) (q := p + 2) (Nat.le_refl _) hC.letters hE (by omega) (D 2 (by omega) (by omega))) (fun x hh hq => ?_)
      obtain ⟨hhe, rfl⟩ := hq
      rw [hhe]
      refine ab_aload_n dX11_canBe_175 rfl ?_
      refine ab_getR dX11_canBe_176 fl_X11_33 hC.hs hC.p5_3 ?_
      refine ab_iload_n dX11_canBe_179 rfl ?_
      refine ab_iconst (v := nI 3) dX11_canBe_180 (by decide) ?_
      refine ab_naddR dX11_canBe_181 ?_
      refine ab_callVn [_] dX11_canBe_182 ml_X11_369 mk_X4_digit hC.letters.1 (c_digit (k := 1) (b := 0) (q := p + 3) (Nat.le_refl _) hC.letters hE (by omega) (D 3 (by omega) (by omega))) (fun x hh hq => ?_)
      obtain ⟨hhe, rfl⟩ := hq
      rw [hhe]
      refine ab_aload_n dX11_canBe_185 rfl ?_
      refine ab_getR dX11_canBe_186 fl_X11_33 hC.hs hC.p5_3 ?_
      refine ab_iload_n dX11_canBe_189 rfl ?_
      refine ab_iconst (v := nI 4) dX11_canBe_190 (by decide) ?_
      refine ab_naddR dX11_canBe_191 ?_
      refine ab_callVn [_] dX11_canBe_192 ml_X11_369 mk_X4_digit hC.letters.1 (c_digit (k := 1) (b := 0) (q := p + 4) (Nat.le_refl _) hC.letters hE (by omega) (D 4 (by omega) (by omega))) (fun x hh hq => ?_)
      obtain ⟨hhe, rfl⟩ := hq
      rw [hhe]
      refine ab_callSb [_, _, _, _] dX11_canBe_195 ml_X11_224 mk_X9_areThree (c_areThree (k := 0) (b := 0) hnp) (fun t hh hq => ?_)
      obtain ⟨hhe, rfl⟩ := hq
      rw [hhe]
      refine ab_bif_eq 211 dX11_canBe_198 (by decide) (fun c_198 => ?_) (fun c_198 => ?_)
      · have zno : ¬ tx_ok e p np nt := fun q9 => @of_decide_eq_false _ (Classical.propDecidable _) c_198 ((tx_ok_t e116).mp q9).2.1
        refine ab_iconst (v := nI 0) dX11_canBe_211 (by decide) ?_
        refine ab_retb (x := false) dX11_canBe_212 ?_
        first | exact ⟨rfl, fun _ => zok, fun _ => rfl⟩ | exact ⟨rfl, fun q9 => absurd q9 (by decide), fun q9 => absurd q9 zno⟩
      · have z2 := @of_decide_eq_true _ (Classical.propDecidable _) c_198
        refine ab_iload_n dX11_canBe_201 rfl ?_
        refine ab_bipush (v := nI 10) dX11_canBe_202 (by decide) ?_
        refine ab_nicmp_ge 211 dX11_canBe_204 (by decide) (by omega) (by omega) (fun c_204 => ?_) (fun c_204 => ?_)
        · have zno : ¬ tx_ok e p np nt := fun q9 => absurd ((tx_ok_t e116).mp q9).2.2 (by omega)
          refine ab_iconst (v := nI 0) dX11_canBe_211 (by decide) ?_
          refine ab_retb (x := false) dX11_canBe_212 ?_
          first | exact ⟨rfl, fun _ => zok, fun _ => rfl⟩ | exact ⟨rfl, fun q9 => absurd q9 (by decide), fun q9 => absurd q9 zno⟩
        · have zok : tx_ok e p np nt := (tx_ok_t e116).mpr ⟨by omega, z2, by omega⟩
          refine ab_iconst (v := nI 1) dX11_canBe_207 (by decide) ?_
          refine ab_goto 212 dX11_canBe_208 (by decide) ?_
          refine ab_retb (x := true) dX11_canBe_212 ?_
          first | exact ⟨rfl, fun _ => zok, fun _ => rfl⟩ | exact ⟨rfl, fun q9 => absurd q9 (by decide), fun q9 => absurd q9 zno⟩
