/-! ===== the model: a statement is done ===== -/
def gp_M (X : xS) (h : ab_H) : Prop := bd_Mo X.1 X.2.1 X.2.2.1 h ∧ ab_rho h 57 X.2.2.2.1 ∧ sh_M X.2.2.2.2 h
theorem gp_M.fM {S K : List Nat} {X : xS} {h h1 : ab_H} (f : ab_fM S K h h1) (hS : ∀ a, a ∈ S → ¬ (52 ≤ a ∧ a ≤ 57) ∧ ¬ (62 ≤ a ∧ a ≤ 64)) (hK : ∀ k, k ∈ K → ¬ (1 ≤ k ∧ k ≤ 4) ∧ k ≠ 15 ∧ k ≠ 17) (H : gp_M X h) : gp_M X h1 :=
  ⟨H.1.fM f (fun a q1 q2 q => (hS a q).1 ⟨q1, by omega⟩) (fun k q1 q2 q => (hK k q).1 ⟨q1, q2⟩), H.2.1.fM f (by decide) (fun q => (hS 57 q).1 (by decide)), H.2.2.fM f (fun a q1 q2 q => (hS a q).2 ⟨q1, q2⟩) (fun q => (hK 15 q).2.1 rfl) (fun q => (hK 17 q).2.2 rfl)⟩
set_option maxRecDepth 100000 in
set_option maxHeartbeats 4000000 in
theorem lp_ir1 {k b p : Nat} {h : ab_H} {e : eS} {post : Value → ab_H → Prop} (hk : 2 ≤ k) (hM : at_M (ab_sh h) (ab_r h)) (hr : ∀ i, i < 5 → ab_i h 72 i = nI (eD e (p + 1 + i))) (hlt : ∀ i, i < 5 → eD e (p + 1 + i) < 10) : ∀ (j i : Nat) (t : Bool), i + j = 5 → (t = true ↔ ∀ u, u < i → eD e (p + 1 + u) < 4) → (∀ (t : Bool) (o2 : Option Value), (t = true ↔ ∀ u, u < 5 → eD e (p + 1 + u) < 4) → ab_R k b mX12_isRuled 37 [some (.ref 50), some (.int (nI t.toNat)), o2] [] h post) → ab_R k b mX12_isRuled 4 [some (.ref 50), some (.int (nI t.toNat)), some (.int (nI i))] [] h post := by
  intro j
  induction j with
  | zero =>
    intro i t hi ht cont
    refine ab_iload_n dX12_isRuled_4 rfl ?_
    refine ab_iconst (v := nI 5) dX12_isRuled_5 (by decide) ?_
    refine ab_nicmp_ge 37 dX12_isRuled_6 (by decide) (by omega) (by omega) (fun c_6 => ?_) (fun c_6 => ?_)
    · skip
      exact cont t _ (by obtain rfl : i = 5 := (by omega); exact ht)
    · skip
      exact absurd (by omega) c_6
  | succ j ih =>
    intro i t hi ht cont
    refine ab_iload_n dX12_isRuled_4 rfl ?_
    refine ab_iconst (v := nI 5) dX12_isRuled_5 (by decide) ?_
    refine ab_nicmp_ge 37 dX12_isRuled_6 (by decide) (by omega) (by omega) (fun c_6 => ?_) (fun c_6 => ?_)
    · skip
      exact absurd c_6 (by omega)
    · skip
      refine ab_iload_n dX12_isRuled_9 rfl ?_
      refine ab_bif_eq 29 dX12_isRuled_10 (by decide) (fun c10 => ?_) (fun c10 => ?_)
      · skip
        refine ab_iconst (v := nI 0) dX12_isRuled_29 (by decide) ?_
        refine ab_sti_n (ls' := [_, _, _]) dX12_isRuled_30 (by decide) rfl ?_
        refine ab_nincR (ls' := [_, _, _]) dX12_isRuled_31 rfl rfl ?_
        refine ab_goto 4 dX12_isRuled_34 (by decide) ?_
        have hl9 := hlt i (by omega)
        first | exact ih (i + 1) false (by omega) ⟨fun q9 => absurd q9 (by decide), fun q9 => absurd (ht.mpr (fun u hu => q9 u (by omega))) (fun q8 => ab_tf q8 c10)⟩ cont | exact ih (i + 1) false (by omega) ⟨fun q9 => absurd q9 (by decide), fun q9 => absurd (q9 i (by omega)) (fun q8 => ab_tf (ab_inr_ok (lo := 0) (hi := 3) (x := nI (eD e (p + 1 + i))) (by rw [nI_toInt (by omega)]; omega) (by rw [nI_toInt (by omega)]; omega)) c22)⟩ cont | exact ih (i + 1) true (by omega) ⟨fun _ u hu => (Nat.lt_or_eq_of_le (Nat.le_of_lt_succ hu)).elim (ht.mp c10 u) (fun c9 => by have z1 := of_decide_eq_true c22; rw [nI_toInt (by omega)] at z1; rw [c9]; omega), fun _ => rfl⟩ cont
      · skip
        refine ab_aload_n dX12_isRuled_13 rfl ?_
        refine ab_getR dX12_isRuled_14 fl_X12_94 hM.hs hM.p50_31 ?_
        refine ab_iload_n dX12_isRuled_17 rfl ?_
        refine ab_iald dX12_isRuled_18 hM.s72 rfl (by omega) (hr i (by omega)) ?_
        refine ab_callSb [_] dX12_isRuled_19 ml_X12_174 mk_X12_isWay (m_isWay (k := 1) (b := 0) (Nat.le_refl _)) (fun t9 hh hq => ?_)
        obtain ⟨hhe, rfl⟩ := hq
        rw [hhe]
        refine ab_bif_eq 29 dX12_isRuled_22 (by decide) (fun c22 => ?_) (fun c22 => ?_)
        · skip
          refine ab_iconst (v := nI 0) dX12_isRuled_29 (by decide) ?_
          refine ab_sti_n (ls' := [_, _, _]) dX12_isRuled_30 (by decide) rfl ?_
          refine ab_nincR (ls' := [_, _, _]) dX12_isRuled_31 rfl rfl ?_
          refine ab_goto 4 dX12_isRuled_34 (by decide) ?_
          have hl9 := hlt i (by omega)
          first | exact ih (i + 1) false (by omega) ⟨fun q9 => absurd q9 (by decide), fun q9 => absurd (ht.mpr (fun u hu => q9 u (by omega))) (fun q8 => ab_tf q8 c10)⟩ cont | exact ih (i + 1) false (by omega) ⟨fun q9 => absurd q9 (by decide), fun q9 => absurd (q9 i (by omega)) (fun q8 => ab_tf (ab_inr_ok (lo := 0) (hi := 3) (x := nI (eD e (p + 1 + i))) (by rw [nI_toInt (by omega)]; omega) (by rw [nI_toInt (by omega)]; omega)) c22)⟩ cont | exact ih (i + 1) true (by omega) ⟨fun _ u hu => (Nat.lt_or_eq_of_le (Nat.le_of_lt_succ hu)).elim (ht.mp c10 u) (fun c9 => by have z1 := of_decide_eq_true c22; rw [nI_toInt (by omega)] at z1; rw [c9]; omega), fun _ => rfl⟩ cont
        · skip
          refine ab_iconst (v := nI 1) dX12_isRuled_25 (by decide) ?_
          refine ab_goto 30 dX12_isRuled_26 (by decide) ?_
          refine ab_sti_n (ls' := [_, _, _]) dX12_isRuled_30 (by decide) rfl ?_
          refine ab_nincR (ls' := [_, _, _]) dX12_isRuled_31 rfl rfl ?_
          refine ab_goto 4 dX12_isRuled_34 (by decide) ?_
          have hl9 := hlt i (by omega)
          first | exact ih (i + 1) false (by omega) ⟨fun q9 => absurd q9 (by decide), fun q9 => absurd (ht.mpr (fun u hu => q9 u (by omega))) (fun q8 => ab_tf q8 c10)⟩ cont | exact ih (i + 1) false (by omega) ⟨fun q9 => absurd q9 (by decide), fun q9 => absurd (q9 i (by omega)) (fun q8 => ab_tf (ab_inr_ok (lo := 0) (hi := 3) (x := nI (eD e (p + 1 + i))) (by rw [nI_toInt (by omega)]; omega) (by rw [nI_toInt (by omega)]; omega)) c22)⟩ cont | exact ih (i + 1) true (by omega) ⟨fun _ u hu => (Nat.lt_or_eq_of_le (Nat.le_of_lt_succ hu)).elim (ht.mp c10 u) (fun c9 => by have z1 := of_decide_eq_true c22; rw [nI_toInt (by omega)] at z1; rw [c9]; omega), fun _ => rfl⟩ cont
set_option maxRecDepth 100000 in
set_option maxHeartbeats 4000000 in
theorem lp_ir2 {k b p : Nat} {h : ab_H} {e : eS} (hM : at_M (ab_sh h) (ab_r h)) (hr : ∀ i, i < 5 → ab_i h 72 i = nI (eD e (p + 1 + i))) (hok : ∀ u, u < 5 → eD e (p + 1 + u) < 4) : ∀ (j i : Nat) (h1 : ab_H), i + j = 4 → ab_fM [57] [] h h1 → (∀ u, ab_i h1 57 u = if 4 * eD e (p + 1) ≤ u ∧ u < 4 * eD e (p + 1) + i then nI (eD e (p + 2 + (u - 4 * eD e (p + 1)))) else ab_i h 57 u) → ab_R k b mX12_isRuled 39 [some (.ref 50), some (.int (nI 1)), some (.int (nI i))] [] h1 (ab_pb (fun t h' => (t = true ↔ ∀ u, u < 5 → eD e (p + 1 + u) < 4) ∧ (t = false → h' = h) ∧ (t = true → ab_fM [57] [] h h' ∧ ∀ u, ab_i h' 57 u = if 4 * eD e (p + 1) ≤ u ∧ u < 4 * eD e (p + 1) + 4 then nI (eD e (p + 2 + (u - 4 * eD e (p + 1)))) else ab_i h 57 u))) := by
  intro j
  induction j with
  | zero =>
    intro i h1 hi f hrw
    have hM1 := at_M.fM f hM
    refine ab_iload_n dX12_isRuled_39 rfl ?_
    refine ab_nif_eq 77 dX12_isRuled_40 (by decide) (by decide) (fun c_40 => ?_) (fun c_40 => ?_)
    · skip
      exact absurd c_40 (by decide)
    · skip
      refine ab_iload_n dX12_isRuled_43 rfl ?_
      refine ab_iconst (v := nI 4) dX12_isRuled_44 (by decide) ?_
      refine ab_nicmp_ge 77 dX12_isRuled_45 (by decide) (by omega) (by omega) (fun c_45 => ?_) (fun c_45 => ?_)
      · skip
        refine ab_iload_n dX12_isRuled_77 rfl ?_
        refine ab_retb (x := true) dX12_isRuled_78 ?_
        obtain rfl : i = 4 := by omega
        exact ⟨⟨fun _ => hok, fun _ => rfl⟩, fun q9 => absurd q9 (by decide), fun _ => ⟨f, hrw⟩⟩
      · skip
        exact absurd (by omega) c_45
  | succ j ih =>
    intro i h1 hi f hrw
    have hM1 := at_M.fM f hM
    refine ab_iload_n dX12_isRuled_39 rfl ?_
    refine ab_nif_eq 77 dX12_isRuled_40 (by decide) (by decide) (fun c_40 => ?_) (fun c_40 => ?_)
    · skip
      exact absurd c_40 (by decide)
    · skip
      refine ab_iload_n dX12_isRuled_43 rfl ?_
      refine ab_iconst (v := nI 4) dX12_isRuled_44 (by decide) ?_
      refine ab_nicmp_ge 77 dX12_isRuled_45 (by decide) (by omega) (by omega) (fun c_45 => ?_) (fun c_45 => ?_)
      · skip
        exact absurd c_45 (by omega)
      · skip
        refine ab_aload_n dX12_isRuled_48 rfl ?_
        refine ab_getR dX12_isRuled_49 fl_X12_48 hM1.hs hM1.p50_10 ?_
        refine ab_iconst (v := nI 4) dX12_isRuled_52 (by decide) ?_
        refine ab_aload_n dX12_isRuled_53 rfl ?_
        refine ab_getR dX12_isRuled_54 fl_X12_94 hM1.hs hM1.p50_31 ?_
        refine ab_iconst (v := nI 0) dX12_isRuled_57 (by decide) ?_
        refine ab_iald dX12_isRuled_58 hM1.s72 rfl (by omega) ((congrFun (f.2.2.2.2.1 72 (by decide) (by decide)).1 0).trans (hr 0 (by omega))) ?_
        refine ab_nmulR dX12_isRuled_59 ?_
        refine ab_iload_n dX12_isRuled_60 rfl ?_
        refine ab_naddR dX12_isRuled_61 ?_
        refine ab_aload_n dX12_isRuled_62 rfl ?_
        refine ab_getR dX12_isRuled_63 fl_X12_94 hM1.hs hM1.p50_31 ?_
        refine ab_iload_n dX12_isRuled_66 rfl ?_
        refine ab_iconst (v := nI 1) dX12_isRuled_67 (by decide) ?_
        refine ab_naddR dX12_isRuled_68 ?_
        refine ab_iald dX12_isRuled_69 hM1.s72 rfl (by omega) ((congrFun (f.2.2.2.2.1 72 (by decide) (by decide)).1 (i + 1)).trans ((hr (i + 1) (by omega)).trans (by rw [show p + 1 + (i + 1) = p + 2 + i by omega]))) ?_
        refine ab_iast dX12_isRuled_70 hM1.s57 rfl (by have := hok 0 (by omega); have : eD e (p + 1) < 4 := this; omega) ?_
        refine ab_nincR (ls' := [_, _, _]) dX12_isRuled_71 rfl rfl ?_
        refine ab_goto 39 dX12_isRuled_74 (by decide) ?_
        exact ih (i + 1) _ (by omega) (f.si _ _ (by simp) (by decide)) (rU_st (f := fun i => eD e (p + 2 + i)) hrw (fun t => by rw [ab_i_si_same, Nat.mul_comm]))
set_option maxRecDepth 100000 in
set_option maxHeartbeats 4000000 in
theorem m_isRuled {k b p : Nat} {h : ab_H} {e : eS} (hk : 2 ≤ k) (hM : at_M (ab_sh h) (ab_r h)) (hr : ∀ i, i < 5 → ab_i h 72 i = nI (eD e (p + 1 + i))) (hlt : ∀ i, i < 5 → eD e (p + 1 + i) < 10) : ab_M k b mX12_isRuled [.ref 50] h (ab_pb (fun t h' => (t = true ↔ ∀ u, u < 5 → eD e (p + 1 + u) < 4) ∧ (t = false → h' = h) ∧ (t = true → ab_fM [57] [] h h' ∧ ∀ u, ab_i h' 57 u = if 4 * eD e (p + 1) ≤ u ∧ u < 4 * eD e (p + 1) + 4 then nI (eD e (p + 2 + (u - 4 * eD e (p + 1)))) else ab_i h 57 u))) := by
  refine ab_enter ?_
  refine ab_iconst (v := nI 1) dX12_isRuled_0 (by decide) ?_
  refine ab_sti_n (ls' := [_, _, _]) dX12_isRuled_1 (by decide) rfl ?_
  refine ab_iconst (v := nI 0) dX12_isRuled_2 (by decide) ?_
  refine ab_sti_n (ls' := [_, _, _]) dX12_isRuled_3 (by decide) rfl ?_
  refine lp_ir1 hk hM hr hlt 5 0 true rfl ⟨fun _ u hu => absurd hu (Nat.not_lt_zero u), fun _ => rfl⟩ (fun t o2 h9 => ?_)
  cases t with
  | true =>
      refine ab_iconst (v := nI 0) dX12_isRuled_37 (by decide) ?_
      refine ab_sti_n (ls' := [_, _, _]) dX12_isRuled_38 (by decide) rfl ?_
      exact lp_ir2 hM hr (h9.mp rfl) 4 0 h rfl (ab_fM.rf h) (fun u => by rw [if_neg (by omega)])
  | false =>
      refine ab_iconst (v := nI 0) dX12_isRuled_37 (by decide) ?_
      refine ab_sti_n (ls' := [_, _, _]) dX12_isRuled_38 (by decide) rfl ?_
      refine ab_iload_n dX12_isRuled_39 rfl ?_
      refine ab_nif_eq 77 dX12_isRuled_40 (by decide) (by decide) (fun c_40 => ?_) (fun c_40 => ?_)
      · skip
        refine ab_iload_n dX12_isRuled_77 rfl ?_
        refine ab_retb (x := false) dX12_isRuled_78 ?_
        exact ⟨h9, fun _ => rfl, fun q9 => absurd q9 (by decide)⟩
      · skip
        exact absurd rfl c_40
set_option maxRecDepth 100000 in
set_option maxHeartbeats 4000000 in
theorem m_isDone {k b p : Nat} {h : ab_H} {e : eS} {X : xS} (hk : 6 ≤ k) (hM : at_M (ab_sh h) (ab_r h)) (hG : gp_M X h) (hw : tx_wr e p = none) (told : ∀ i, i < nO (eL e p) → ab_i h 72 i = nI (nu e (dO (eL e p) i) (sq (eL e p) i (p + 1)) 0)) : ab_M k b mX12_isDone [.ref 50, .int (nI (eL e p))] h (ab_pb (fun t h' => (t = true ↔ tx_ok e p (xp X) (xt X)) ∧ (t = false → h' = h) ∧ (t = true → ab_fM [52, 53, 54, 55, 56, 57, 62, 63, 64] [1, 2, 3, 4, 15, 17] h h' ∧ gp_M (tx_do e p X) h'))) := by
  rcases tx_let hw with ⟨e98, D⟩ | ⟨e114, D⟩ | ⟨e112, D⟩ | ⟨e116, D⟩
  · refine ab_enter ?_
    refine ab_iload_n dX12_isDone_0 rfl ?_
    refine ab_lookup (off := 35) 36 dX12_isDone_1 (by decide) (by rw [e98]; decide) (by decide) ?_
    obtain ⟨T0, T1, T2⟩ := st_b e98 told
    have l1 := eD_lt (D 1 (by omega) (by omega))
    have l2 := eT_lt (D 2 (by omega) (by omega)) (D 3 (by omega) (by omega))
    have l4 := eT_lt (D 4 (by omega) (by omega)) (D 5 (by omega) (by omega))
    refine ab_aload_n dX12_isDone_36 rfl ?_
    refine ab_getR dX12_isDone_37 fl_X12_94 hM.hs hM.p50_31 ?_
    refine ab_iconst (v := nI 0) dX12_isDone_40 (by decide) ?_
    refine ab_iald dX12_isDone_41 hM.s72 rfl (by omega) T0 ?_
    refine ab_iconst (v := nI 4) dX12_isDone_42 (by decide) ?_
    refine ab_nicmp_gt 80 dX12_isDone_43 (by decide) (by omega) (by omega) (fun c_43 => ?_) (fun c_43 => ?_)
    · have zno : ¬ tx_ok e p (xp X) (xt X) := fun q9 => absurd ((tx_ok_b e98).mp q9).1 (by omega)
      refine ab_iconst (v := nI 0) dX12_isDone_80 (by decide) ?_
      refine ab_retb (x := false) dX12_isDone_81 ?_
      exact ⟨⟨fun q9 => absurd q9 (by decide), fun q9 => absurd q9 zno⟩, fun _ => rfl, fun q9 => absurd q9 (by decide)⟩
    · have hn4 : eD e (p + 1) ≤ 4 := (by omega); have hpw := bd_pow4 hn4
      refine ab_aload_n dX12_isDone_46 rfl ?_
      refine ab_getR dX12_isDone_47 fl_X12_94 hM.hs hM.p50_31 ?_
      refine ab_iconst (v := nI 1) dX12_isDone_50 (by decide) ?_
      refine ab_iald dX12_isDone_51 hM.s72 rfl (by omega) T1 ?_
      refine ab_iconst (v := nI 1) dX12_isDone_52 (by decide) ?_
      refine ab_aload_n dX12_isDone_53 rfl ?_
      refine ab_getR dX12_isDone_54 fl_X12_94 hM.hs hM.p50_31 ?_
      refine ab_iconst (v := nI 0) dX12_isDone_57 (by decide) ?_
      refine ab_iald dX12_isDone_58 hM.s72 rfl (by omega) T0 ?_
      refine ab_nshlR dX12_isDone_59 (by omega) ?_
      rw [ab_1shl]
      refine ab_nicmp_ge 80 dX12_isDone_60 (by decide) (by omega) (by omega) (fun c_60 => ?_) (fun c_60 => ?_)
      · have zno : ¬ tx_ok e p (xp X) (xt X) := fun q9 => absurd ((tx_ok_b e98).mp q9).2.1 (by omega)
        refine ab_iconst (v := nI 0) dX12_isDone_80 (by decide) ?_
        refine ab_retb (x := false) dX12_isDone_81 ?_
        exact ⟨⟨fun q9 => absurd q9 (by decide), fun q9 => absurd q9 zno⟩, fun _ => rfl, fun q9 => absurd q9 (by decide)⟩
      · skip
        refine ab_aload_n dX12_isDone_63 rfl ?_
        refine ab_getR dX12_isDone_64 fl_X12_94 hM.hs hM.p50_31 ?_
        refine ab_iconst (v := nI 2) dX12_isDone_67 (by decide) ?_
        refine ab_iald dX12_isDone_68 hM.s72 rfl (by omega) T2 ?_
        refine ab_iconst (v := nI 1) dX12_isDone_69 (by decide) ?_
        refine ab_aload_n dX12_isDone_70 rfl ?_
        refine ab_getR dX12_isDone_71 fl_X12_94 hM.hs hM.p50_31 ?_
        refine ab_iconst (v := nI 0) dX12_isDone_74 (by decide) ?_
        refine ab_iald dX12_isDone_75 hM.s72 rfl (by omega) T0 ?_
        refine ab_nshlR dX12_isDone_76 (by omega) ?_
        rw [ab_1shl]
        refine ab_nicmp_lt 82 dX12_isDone_77 (by decide) (by omega) (by omega) (fun c_77 => ?_) (fun c_77 => ?_)
        · have zok := (tx_ok_b (np := xp X) (nt := xt X) e98).mpr ⟨hn4, by omega, by omega⟩
          refine ab_aload_n dX12_isDone_82 rfl ?_
          refine ab_aload_n dX12_isDone_83 rfl ?_
          refine ab_getR dX12_isDone_84 fl_X12_94 hM.hs hM.p50_31 ?_
          refine ab_iconst (v := nI 0) dX12_isDone_87 (by decide) ?_
          refine ab_iald dX12_isDone_88 hM.s72 rfl (by omega) T0 ?_
          refine ab_aload_n dX12_isDone_89 rfl ?_
          refine ab_getR dX12_isDone_90 fl_X12_94 hM.hs hM.p50_31 ?_
          refine ab_iconst (v := nI 1) dX12_isDone_93 (by decide) ?_
          refine ab_iald dX12_isDone_94 hM.s72 rfl (by omega) T1 ?_
          refine ab_aload_n dX12_isDone_95 rfl ?_
          refine ab_getR dX12_isDone_96 fl_X12_94 hM.hs hM.p50_31 ?_
          refine ab_iconst (v := nI 2) dX12_isDone_99 (by decide) ?_
          refine ab_iald dX12_isDone_100 hM.s72 rfl (by omega) T2 ?_
          refine ab_callVv [_, _, _] dX12_isDone_101 ml_X12_112 mk_X12_lays hM.hs (m_lays2 (k := 5) (b := 0) (Nat.le_refl _) hM hn4 (by omega) (by omega)) (fun h1 hq => ?_)
          obtain ⟨f1, hB1⟩ := hq
          refine ab_iconst (v := nI 1) dX12_isDone_104 (by decide) ?_
          refine ab_retb (x := true) dX12_isDone_105 ?_
          rw [tx_do_b e98]
          exact ⟨⟨fun _ => zok, fun _ => rfl⟩, fun q9 => absurd q9 (by decide), fun _ => ⟨f1.mono (by simp) (by simp), hB1, hG.2.1.fM f1 (by decide) (by simp), hG.2.2.fM f1 (by intro a q1 q2; simp; omega) (by simp) (by simp)⟩⟩
        · have zno : ¬ tx_ok e p (xp X) (xt X) := fun q9 => absurd ((tx_ok_b e98).mp q9).2.2 (by omega)
          refine ab_iconst (v := nI 0) dX12_isDone_80 (by decide) ?_
          refine ab_retb (x := false) dX12_isDone_81 ?_
          exact ⟨⟨fun q9 => absurd q9 (by decide), fun q9 => absurd q9 zno⟩, fun _ => rfl, fun q9 => absurd q9 (by decide)⟩
  · refine ab_enter ?_
    refine ab_iload_n dX12_isDone_0 rfl ?_
    refine ab_lookup (off := 105) 106 dX12_isDone_1 (by decide) (by rw [e114]; decide) (by decide) ?_
    have hr := st_r e114 told
    have hlt : ∀ i, i < 5 → eD e (p + 1 + i) < 10 := fun i hi => eD_lt (by have := D (1 + i) (by omega) (by omega); rw [← Nat.add_assoc] at this; exact this)
    refine ab_aload_n dX12_isDone_106 rfl ?_
    refine ab_callVb [] dX12_isDone_107 ml_X12_355 mk_X12_isRuled hM.hs (m_isRuled (k := 2) (b := 0) (Nat.le_refl _) hM hr hlt) (fun t h1 hq => ?_)
    obtain ⟨q1, q2, q3⟩ := hq
    refine ab_retb dX12_isDone_110 ?_
    refine ⟨q1.trans (tx_ok_r e114).symm, q2, fun q9 => ?_⟩
    obtain ⟨f1, hrw⟩ := q3 q9
    rw [tx_do_r e114]
    exact ⟨f1.mono (by simp) (by simp), hG.1.fM f1 (by intro a q1 q2; simp; omega) (by simp), rU_ok (F := ab_i h 57) (G := ab_i h1 57) (ρ := X.2.2.2.1) (d := eD e (p + 1)) (f := fun i => eD e (p + 2 + i)) hG.2.1 (fun i hi => by have := q1.mp q9 (i + 1) (by omega); rw [show p + 1 + (i + 1) = p + 2 + i by omega] at this; exact this) hrw, hG.2.2.fM f1 (by intro a q1 q2; simp; omega) (by simp) (by simp)⟩
  · refine ab_enter ?_
    refine ab_iload_n dX12_isDone_0 rfl ?_
    refine ab_lookup (off := 110) 111 dX12_isDone_1 (by decide) (by rw [e112]; decide) (by decide) ?_
    obtain ⟨T0, T1, T2, T3⟩ := st_p e112 told
    have h10 : xp X ≤ 10 := hG.2.2.W.1
    have l1 := eT_lt (D 1 (by omega) (by omega)) (D 2 (by omega) (by omega))
    have l3 := eT_lt (D 3 (by omega) (by omega)) (D 4 (by omega) (by omega))
    have l5 := eT_lt (D 5 (by omega) (by omega)) (D 6 (by omega) (by omega))
    have l7 := eT_lt (D 7 (by omega) (by omega)) (D 8 (by omega) (by omega))
    refine ab_aload_n dX12_isDone_111 rfl ?_
    refine ab_getR dX12_isDone_112 fl_X12_94 hM.hs hM.p50_31 ?_
    refine ab_iconst (v := nI 1) dX12_isDone_115 (by decide) ?_
    refine ab_iald dX12_isDone_116 hM.s72 rfl (by omega) T1 ?_
    refine ab_nif_eq 138 dX12_isDone_117 (by decide) (by omega) (fun c_117 => ?_) (fun c_117 => ?_)
    · have zno : ¬ tx_ok e p (xp X) (xt X) := fun q9 => absurd ((tx_ok_p e112).mp q9).1 (by omega)
      refine ab_iconst (v := nI 0) dX12_isDone_138 (by decide) ?_
      refine ab_retb (x := false) dX12_isDone_139 ?_
      exact ⟨⟨fun q9 => absurd q9 (by decide), fun q9 => absurd q9 zno⟩, fun _ => rfl, fun q9 => absurd q9 (by decide)⟩
    · skip
      refine ab_aload_n dX12_isDone_120 rfl ?_
      refine ab_getR dX12_isDone_121 fl_X12_94 hM.hs hM.p50_31 ?_
      refine ab_iconst (v := nI 3) dX12_isDone_124 (by decide) ?_
      refine ab_iald dX12_isDone_125 hM.s72 rfl (by omega) T3 ?_
      refine ab_nif_eq 138 dX12_isDone_126 (by decide) (by omega) (fun c_126 => ?_) (fun c_126 => ?_)
      · have zno : ¬ tx_ok e p (xp X) (xt X) := fun q9 => absurd ((tx_ok_p e112).mp q9).2.1 (by omega)
        refine ab_iconst (v := nI 0) dX12_isDone_138 (by decide) ?_
        refine ab_retb (x := false) dX12_isDone_139 ?_
        exact ⟨⟨fun q9 => absurd q9 (by decide), fun q9 => absurd q9 zno⟩, fun _ => rfl, fun q9 => absurd q9 (by decide)⟩
      · skip
        refine ab_aload_n dX12_isDone_129 rfl ?_
        refine ab_getI dX12_isDone_130 fl_X12_207 hM.hs (show _ = nI (xp X) from hG.2.2.np) ?_
        refine ab_bipush (v := nI 10) dX12_isDone_133 (by decide) ?_
        refine ab_nicmp_ne 140 dX12_isDone_135 (by decide) (show xp X < 2147483648 by omega) (by omega) (fun c_135 => ?_) (fun c_135 => ?_)
        · have o3 : xp X < 10 := (by omega); have zok := (tx_ok_p (np := xp X) (nt := xt X) e112).mpr ⟨by omega, by omega, o3⟩
          refine ab_aload_n dX12_isDone_140 rfl ?_
          refine ab_aload_n dX12_isDone_141 rfl ?_
          refine ab_getR dX12_isDone_142 fl_X12_94 hM.hs hM.p50_31 ?_
          refine ab_iconst (v := nI 0) dX12_isDone_145 (by decide) ?_
          refine ab_iald dX12_isDone_146 hM.s72 rfl (by omega) T0 ?_
          refine ab_aload_n dX12_isDone_147 rfl ?_
          refine ab_getR dX12_isDone_148 fl_X12_94 hM.hs hM.p50_31 ?_
          refine ab_iconst (v := nI 1) dX12_isDone_151 (by decide) ?_
          refine ab_iald dX12_isDone_152 hM.s72 rfl (by omega) T1 ?_
          refine ab_aload_n dX12_isDone_153 rfl ?_
          refine ab_getR dX12_isDone_154 fl_X12_94 hM.hs hM.p50_31 ?_
          refine ab_iconst (v := nI 2) dX12_isDone_157 (by decide) ?_
          refine ab_iald dX12_isDone_158 hM.s72 rfl (by omega) T2 ?_
          refine ab_aload_n dX12_isDone_159 rfl ?_
          refine ab_getR dX12_isDone_160 fl_X12_94 hM.hs hM.p50_31 ?_
          refine ab_iconst (v := nI 3) dX12_isDone_163 (by decide) ?_
          refine ab_iald dX12_isDone_164 hM.s72 rfl (by omega) T3 ?_
          have hcP := m_comesPoint (k := 0) (b := 0) (X := eF e (p + 1)) (Y := eF e (p + 5)) hM hG.2.2 o3 ⟨eF_lt (D 1 (by omega) (by omega)) (D 2 (by omega) (by omega)) (D 3 (by omega) (by omega)) (D 4 (by omega) (by omega)), by rw [(eF_mod (q := p + 1) (D 3 (by omega) (by omega)) (D 4 (by omega) (by omega))).1]; show eT e (p + 3) ≠ 0; omega⟩ ⟨eF_lt (D 5 (by omega) (by omega)) (D 6 (by omega) (by omega)) (D 7 (by omega) (by omega)) (D 8 (by omega) (by omega)), by rw [(eF_mod (q := p + 5) (D 7 (by omega) (by omega)) (D 8 (by omega) (by omega))).1]; show eT e (p + 7) ≠ 0; omega⟩
          rw [(eF_mod (q := p + 1) (D 3 (by omega) (by omega)) (D 4 (by omega) (by omega))).1, (eF_mod (q := p + 1) (D 3 (by omega) (by omega)) (D 4 (by omega) (by omega))).2, (eF_mod (q := p + 5) (D 7 (by omega) (by omega)) (D 8 (by omega) (by omega))).1, (eF_mod (q := p + 5) (D 7 (by omega) (by omega)) (D 8 (by omega) (by omega))).2] at hcP
          refine ab_callVv [_, _, _, _] dX12_isDone_165 ml_X12_210 mk_X12_comesPoint hM.hs (hcP) (fun h1 hq => ?_)
          obtain ⟨f1, hS1⟩ := hq
          refine ab_iconst (v := nI 1) dX12_isDone_168 (by decide) ?_
          refine ab_retb (x := true) dX12_isDone_169 ?_
          rw [tx_do_p e112]
          exact ⟨⟨fun _ => zok, fun _ => rfl⟩, fun q9 => absurd q9 (by decide), fun _ => ⟨f1.mono (by simp) (by simp), hG.1.fM f1 (by intro a q1 q2; simp; omega) (by intro k q1 q2; simp; omega), hG.2.1.fM f1 (by decide) (by simp), hS1⟩⟩
        · have zno : ¬ tx_ok e p (xp X) (xt X) := fun q9 => absurd ((tx_ok_p e112).mp q9).2.2 (by omega)
          refine ab_iconst (v := nI 0) dX12_isDone_138 (by decide) ?_
          refine ab_retb (x := false) dX12_isDone_139 ?_
          exact ⟨⟨fun q9 => absurd q9 (by decide), fun q9 => absurd q9 zno⟩, fun _ => rfl, fun q9 => absurd q9 (by decide)⟩
  · refine ab_enter ?_
    refine ab_iload_n dX12_isDone_0 rfl ?_
    refine ab_lookup (off := 169) 170 dX12_isDone_1 (by decide) (by rw [e116]; decide) (by decide) ?_
    obtain ⟨T0, T1, T2, T3⟩ := st_t e116 told
    have h10 : xt X ≤ 10 := hG.2.2.W.2.1
    have l1 := eD_lt (D 1 (by omega) (by omega))
    have l2 := eD_lt (D 2 (by omega) (by omega))
    have l3 := eD_lt (D 3 (by omega) (by omega))
    have l4 := eD_lt (D 4 (by omega) (by omega))
    refine ab_aload_n dX12_isDone_170 rfl ?_
    refine ab_getR dX12_isDone_171 fl_X12_94 hM.hs hM.p50_31 ?_
    refine ab_iconst (v := nI 0) dX12_isDone_174 (by decide) ?_
    refine ab_iald dX12_isDone_175 hM.s72 rfl (by omega) T0 ?_
    refine ab_iconst (v := nI 5) dX12_isDone_176 (by decide) ?_
    refine ab_nicmp_gt 214 dX12_isDone_177 (by decide) (by omega) (by omega) (fun c_177 => ?_) (fun c_177 => ?_)
    · have zno : ¬ tx_ok e p (xp X) (xt X) := fun q9 => absurd ((tx_ok_t e116).mp q9).1 (by omega)
      refine ab_iconst (v := nI 0) dX12_isDone_214 (by decide) ?_
      refine ab_retb (x := false) dX12_isDone_215 ?_
      exact ⟨⟨fun q9 => absurd q9 (by decide), fun q9 => absurd q9 zno⟩, fun _ => rfl, fun q9 => absurd q9 (by decide)⟩
    · skip
      refine ab_aload_n dX12_isDone_180 rfl ?_
      refine ab_aload_n dX12_isDone_181 rfl ?_
      refine ab_getR dX12_isDone_182 fl_X12_94 hM.hs hM.p50_31 ?_
      refine ab_iconst (v := nI 1) dX12_isDone_185 (by decide) ?_
      refine ab_iald dX12_isDone_186 hM.s72 rfl (by omega) T1 ?_
      refine ab_aload_n dX12_isDone_187 rfl ?_
      refine ab_getR dX12_isDone_188 fl_X12_94 hM.hs hM.p50_31 ?_
      refine ab_iconst (v := nI 2) dX12_isDone_191 (by decide) ?_
      refine ab_iald dX12_isDone_192 hM.s72 rfl (by omega) T2 ?_
      refine ab_aload_n dX12_isDone_193 rfl ?_
      refine ab_getR dX12_isDone_194 fl_X12_94 hM.hs hM.p50_31 ?_
      refine ab_iconst (v := nI 3) dX12_isDone_197 (by decide) ?_
      refine ab_iald dX12_isDone_198 hM.s72 rfl (by omega) T3 ?_
      refine ab_callVb [_, _, _] dX12_isDone_199 ml_X12_243 mk_X12_areThree hM.hs (m_areThree (k := 2) (b := 0) (Nat.le_refl _) hM hG.2.2) (fun t hh hq => ?_)
      obtain ⟨hhe, rfl⟩ := hq
      rw [hhe]
      refine ab_bif_eq 214 dX12_isDone_202 (by decide) (fun c_202 => ?_) (fun c_202 => ?_)
      · have zno : ¬ tx_ok e p (xp X) (xt X) := fun q9 => @of_decide_eq_false _ (Classical.propDecidable _) c_202 ((tx_ok_t e116).mp q9).2.1
        refine ab_iconst (v := nI 0) dX12_isDone_214 (by decide) ?_
        refine ab_retb (x := false) dX12_isDone_215 ?_
        exact ⟨⟨fun q9 => absurd q9 (by decide), fun q9 => absurd q9 zno⟩, fun _ => rfl, fun q9 => absurd q9 (by decide)⟩
      · have o2 : th (xp X) (nI (eD e (p + 2))) (nI (eD e (p + 3))) (nI (eD e (p + 4))) := @of_decide_eq_true _ (Classical.propDecidable _) c_202
        refine ab_aload_n dX12_isDone_205 rfl ?_
        refine ab_getI dX12_isDone_206 fl_X12_238 hM.hs (show _ = nI (xt X) from hG.2.2.nt) ?_
        refine ab_bipush (v := nI 10) dX12_isDone_209 (by decide) ?_
        refine ab_nicmp_ne 216 dX12_isDone_211 (by decide) (show xt X < 2147483648 by omega) (by omega) (fun c_211 => ?_) (fun c_211 => ?_)
        · have o3 : xt X < 10 := (by omega); have zok := (tx_ok_t (np := xp X) (nt := xt X) e116).mpr ⟨by omega, o2, o3⟩
          have a1 := (of_decide_eq_true o2.1).2
          have a2 := (of_decide_eq_true o2.2.1).2
          have a3 := (of_decide_eq_true o2.2.2.1).2
          rw [nI_toInt (by omega)] at a1 a2 a3
          refine ab_aload_n dX12_isDone_216 rfl ?_
          refine ab_aload_n dX12_isDone_217 rfl ?_
          refine ab_getR dX12_isDone_218 fl_X12_94 hM.hs hM.p50_31 ?_
          refine ab_iconst (v := nI 0) dX12_isDone_221 (by decide) ?_
          refine ab_iald dX12_isDone_222 hM.s72 rfl (by omega) T0 ?_
          refine ab_aload_n dX12_isDone_223 rfl ?_
          refine ab_getR dX12_isDone_224 fl_X12_94 hM.hs hM.p50_31 ?_
          refine ab_iconst (v := nI 1) dX12_isDone_227 (by decide) ?_
          refine ab_iald dX12_isDone_228 hM.s72 rfl (by omega) T1 ?_
          refine ab_aload_n dX12_isDone_229 rfl ?_
          refine ab_getR dX12_isDone_230 fl_X12_94 hM.hs hM.p50_31 ?_
          refine ab_iconst (v := nI 2) dX12_isDone_233 (by decide) ?_
          refine ab_iald dX12_isDone_234 hM.s72 rfl (by omega) T2 ?_
          refine ab_aload_n dX12_isDone_235 rfl ?_
          refine ab_getR dX12_isDone_236 fl_X12_94 hM.hs hM.p50_31 ?_
          refine ab_iconst (v := nI 3) dX12_isDone_239 (by decide) ?_
          refine ab_iald dX12_isDone_240 hM.s72 rfl (by omega) T3 ?_
          refine ab_callVv [_, _, _, _] dX12_isDone_241 ml_X12_247 mk_X12_comesTriangle hM.hs (m_comesTriangle (k := 0) (b := 0) hM hG.2.2 o3 (by omega) (show _ < xp X by omega) (show _ < xp X by omega) (show _ < xp X by omega)) (fun h1 hq => ?_)
          obtain ⟨f1, hS1⟩ := hq
          refine ab_iconst (v := nI 1) dX12_isDone_244 (by decide) ?_
          refine ab_retb (x := true) dX12_isDone_245 ?_
          rw [tx_do_t e116]
          exact ⟨⟨fun _ => zok, fun _ => rfl⟩, fun q9 => absurd q9 (by decide), fun _ => ⟨f1.mono (by simp) (by simp), hG.1.fM f1 (by intro a q1 q2; simp; omega) (by intro k q1 q2; simp; omega), hG.2.1.fM f1 (by decide) (by simp), hS1⟩⟩
        · have zno : ¬ tx_ok e p (xp X) (xt X) := fun q9 => absurd ((tx_ok_t e116).mp q9).2.2 (by omega)
          refine ab_iconst (v := nI 0) dX12_isDone_214 (by decide) ?_
          refine ab_retb (x := false) dX12_isDone_215 ?_
          exact ⟨⟨fun q9 => absurd q9 (by decide), fun q9 => absurd q9 zno⟩, fun _ => rfl, fun q9 => absurd q9 (by decide)⟩
