/-! ===== the class's Rule: meetings ===== -/
def ab_meetOut (fl : Bool) (o : Option (Nat × Nat)) : Int32 := match o with
  | none => -9
  | some x => if fl = true then nI x.2 else nI x.1
theorem ab_meet_none {ρ : Nat → Nat} {s j k : Nat} (e : ab_A ρ k s = none) : ab_meetFrom ρ s (j + 1) k = ab_meetFrom ρ s j (k + 1) := by rw [ab_meetFrom, e]
theorem ab_meet_none0 {ρ : Nat → Nat} {s k : Nat} (e : ab_A ρ k s = none) : ab_meetFrom ρ s 0 k = none := by rw [ab_meetFrom, e]
theorem ab_meet_some {ρ : Nat → Nat} {s k a : Nat} (e : ab_A ρ k s = some a) : ∀ j, ab_meetFrom ρ s j k = some (k, a)
  | 0 => by rw [ab_meetFrom, e]
  | j + 1 => by rw [ab_meetFrom, e]
set_option maxRecDepth 100000 in
set_option maxHeartbeats 4000000 in
theorem lp_meetB {k b r s : Nat} {h : ab_H} {ρ : Nat → Nat} {fl : Bool} {x1 x2 : Int32} (hk : 2 ≤ k) (hR : at_Rule (ab_sh h) (ab_r h) r) (hp : ab_rho h (r + 1) ρ) (hs : s < 16) : ∀ (j d : Nat) (h1 : ab_H), d + j = 15 → ab_fr [r + 4, r + 5] h h1 → ab_row h1 (r + 4) (-9) (ab_A ρ d) → ab_meetFrom ρ s 15 0 = ab_meetFrom ρ s j d → ab_R k b mX8_meeting 50 [some (.ref r), some (.int x1), some (.int x2), some (.int (nI fl.toNat)), some (.int (nI s)), some (.int (nI d))] [] h1 (ab_pi (fun v h' => ab_fr [r + 4, r + 5] h h' ∧ v = ab_meetOut fl (ab_meetFrom ρ s 15 0))) := by
  intro j
  induction j with
  | zero =>
    intro d h1 hd f he hv
    have hR1 := at_Rule.fr f hR
    have hp1 := hp.fr f (by simp)
    cases e : ab_A ρ d s with
    | none =>
      refine ab_aload_n dX8_meeting_50 rfl ?_
      refine ab_getR dX8_meeting_51 fl_X8_22 hR1.1 hR1.2.2.2.2.2.2.2.1 ?_
      refine ab_iload dX8_meeting_54 rfl ?_
      refine ab_iald dX8_meeting_56 hR1.2.2.2.2.2.2.2.2.1 rfl (by omega) ((he s hs).trans (show ab_opt (-9) (ab_A ρ d s) = -9 by rw [e]; rfl)) ?_
      refine ab_bipush (v := -9) dX8_meeting_57 (by decide) ?_
      refine ab_icmp_ne 79 dX8_meeting_59 (by decide) (fun c_59 => ?_) (fun c_59 => ?_)
      · skip
        exact absurd rfl c_59
      · skip
        refine ab_iload dX8_meeting_62 rfl ?_
        refine ab_bipush (v := nI 15) dX8_meeting_64 (by decide) ?_
        refine ab_nicmp_ge 79 dX8_meeting_66 (by decide) (by omega) (by omega) (fun c_66 => ?_) (fun c_66 => ?_)
        · skip
          refine ab_aload_n dX8_meeting_79 rfl ?_
          refine ab_getR dX8_meeting_80 fl_X8_22 hR1.1 hR1.2.2.2.2.2.2.2.1 ?_
          refine ab_iload dX8_meeting_83 rfl ?_
          refine ab_iald dX8_meeting_85 hR1.2.2.2.2.2.2.2.2.1 rfl (by omega) ((he s hs).trans (show ab_opt (-9) (ab_A ρ d s) = -9 by rw [e]; rfl)) ?_
          refine ab_bipush (v := -9) dX8_meeting_86 (by decide) ?_
          refine ab_icmp_eq 95 dX8_meeting_88 (by decide) (fun c_88 => ?_) (fun c_88 => ?_)
          · skip
            refine ab_aload_n dX8_meeting_95 rfl ?_
            refine ab_getR dX8_meeting_96 fl_X8_22 hR1.1 hR1.2.2.2.2.2.2.2.1 ?_
            refine ab_iload dX8_meeting_99 rfl ?_
            refine ab_iald dX8_meeting_101 hR1.2.2.2.2.2.2.2.2.1 rfl (by omega) ((he s hs).trans (show ab_opt (-9) (ab_A ρ d s) = -9 by rw [e]; rfl)) ?_
            refine ab_reti dX8_meeting_102 ?_
            exact ⟨f, by rw [hv, ab_meet_none0 e]; rfl⟩
          · skip
            exact absurd rfl c_88
        · skip
          exact absurd (by omega) c_66
    | some a =>
      have ha := Nat.lt_of_lt_of_le (ab_A_lt (fun j hj => (hp j hj).2) hs e) (ab_pow15 (show d ≤ 15 by omega))
      refine ab_aload_n dX8_meeting_50 rfl ?_
      refine ab_getR dX8_meeting_51 fl_X8_22 hR1.1 hR1.2.2.2.2.2.2.2.1 ?_
      refine ab_iload dX8_meeting_54 rfl ?_
      refine ab_iald dX8_meeting_56 hR1.2.2.2.2.2.2.2.2.1 rfl (by omega) ((he s hs).trans (show ab_opt (-9) (ab_A ρ d s) = nI a by rw [e]; rfl)) ?_
      refine ab_bipush (v := -9) dX8_meeting_57 (by decide) ?_
      refine ab_icmp_ne 79 dX8_meeting_59 (by decide) (fun c_59 => ?_) (fun c_59 => ?_)
      · skip
        refine ab_aload_n dX8_meeting_79 rfl ?_
        refine ab_getR dX8_meeting_80 fl_X8_22 hR1.1 hR1.2.2.2.2.2.2.2.1 ?_
        refine ab_iload dX8_meeting_83 rfl ?_
        refine ab_iald dX8_meeting_85 hR1.2.2.2.2.2.2.2.2.1 rfl (by omega) ((he s hs).trans (show ab_opt (-9) (ab_A ρ d s) = nI a by rw [e]; rfl)) ?_
        refine ab_bipush (v := -9) dX8_meeting_86 (by decide) ?_
        refine ab_icmp_eq 95 dX8_meeting_88 (by decide) (fun c_88 => ?_) (fun c_88 => ?_)
        · skip
          exact absurd c_88 (ab_ne9 (by omega))
        · skip
          refine ab_iload_n dX8_meeting_91 rfl ?_
          refine ab_bif_eq 103 dX8_meeting_92 (by decide) (fun c_92 => ?_) (fun c_92 => ?_)
          · skip
            refine ab_iload dX8_meeting_103 rfl ?_
            refine ab_reti dX8_meeting_105 ?_
            exact ⟨f, by rw [hv, ab_meet_some e]; subst c_92; rfl⟩
          · skip
            refine ab_aload_n dX8_meeting_95 rfl ?_
            refine ab_getR dX8_meeting_96 fl_X8_22 hR1.1 hR1.2.2.2.2.2.2.2.1 ?_
            refine ab_iload dX8_meeting_99 rfl ?_
            refine ab_iald dX8_meeting_101 hR1.2.2.2.2.2.2.2.2.1 rfl (by omega) ((he s hs).trans (show ab_opt (-9) (ab_A ρ d s) = nI a by rw [e]; rfl)) ?_
            refine ab_reti dX8_meeting_102 ?_
            exact ⟨f, by rw [hv, ab_meet_some e]; subst c_92; rfl⟩
      · skip
        exact absurd c_59 (ab_ne9 (by omega))
  | succ j ih =>
    intro d h1 hd f he hv
    have hR1 := at_Rule.fr f hR
    have hp1 := hp.fr f (by simp)
    cases e : ab_A ρ d s with
    | none =>
      refine ab_aload_n dX8_meeting_50 rfl ?_
      refine ab_getR dX8_meeting_51 fl_X8_22 hR1.1 hR1.2.2.2.2.2.2.2.1 ?_
      refine ab_iload dX8_meeting_54 rfl ?_
      refine ab_iald dX8_meeting_56 hR1.2.2.2.2.2.2.2.2.1 rfl (by omega) ((he s hs).trans (show ab_opt (-9) (ab_A ρ d s) = -9 by rw [e]; rfl)) ?_
      refine ab_bipush (v := -9) dX8_meeting_57 (by decide) ?_
      refine ab_icmp_ne 79 dX8_meeting_59 (by decide) (fun c_59 => ?_) (fun c_59 => ?_)
      · skip
        exact absurd rfl c_59
      · skip
        refine ab_iload dX8_meeting_62 rfl ?_
        refine ab_bipush (v := nI 15) dX8_meeting_64 (by decide) ?_
        refine ab_nicmp_ge 79 dX8_meeting_66 (by decide) (by omega) (by omega) (fun c_66 => ?_) (fun c_66 => ?_)
        · skip
          exact absurd c_66 (by omega)
        · skip
          refine ab_aload_n dX8_meeting_69 rfl ?_
          refine ab_callVv [] dX8_meeting_70 ml_X8_45 mk_X8_addFirstDigit hR1.1 (c_addFirstDigit (k := 1) (b := 0) (by omega) hR1 hp1 he (fun t a ht q => Nat.lt_of_lt_of_le (ab_A_lt (fun j hj => (hp j hj).2) ht q) (ab_pow14 (by omega)))) (fun h2 hq => ?_)
          obtain ⟨f2, he2⟩ := hq
          refine ab_nincR (ls' := [_, _, _, _, _, _]) dX8_meeting_73 rfl rfl ?_
          refine ab_goto 50 dX8_meeting_76 (by decide) ?_
          exact ih (d + 1) h2 (by omega) (f.trans f2 (by simp)) he2 (hv.trans (ab_meet_none e))
    | some a =>
      have ha := Nat.lt_of_lt_of_le (ab_A_lt (fun j hj => (hp j hj).2) hs e) (ab_pow15 (show d ≤ 15 by omega))
      refine ab_aload_n dX8_meeting_50 rfl ?_
      refine ab_getR dX8_meeting_51 fl_X8_22 hR1.1 hR1.2.2.2.2.2.2.2.1 ?_
      refine ab_iload dX8_meeting_54 rfl ?_
      refine ab_iald dX8_meeting_56 hR1.2.2.2.2.2.2.2.2.1 rfl (by omega) ((he s hs).trans (show ab_opt (-9) (ab_A ρ d s) = nI a by rw [e]; rfl)) ?_
      refine ab_bipush (v := -9) dX8_meeting_57 (by decide) ?_
      refine ab_icmp_ne 79 dX8_meeting_59 (by decide) (fun c_59 => ?_) (fun c_59 => ?_)
      · skip
        refine ab_aload_n dX8_meeting_79 rfl ?_
        refine ab_getR dX8_meeting_80 fl_X8_22 hR1.1 hR1.2.2.2.2.2.2.2.1 ?_
        refine ab_iload dX8_meeting_83 rfl ?_
        refine ab_iald dX8_meeting_85 hR1.2.2.2.2.2.2.2.2.1 rfl (by omega) ((he s hs).trans (show ab_opt (-9) (ab_A ρ d s) = nI a by rw [e]; rfl)) ?_
        refine ab_bipush (v := -9) dX8_meeting_86 (by decide) ?_
        refine ab_icmp_eq 95 dX8_meeting_88 (by decide) (fun c_88 => ?_) (fun c_88 => ?_)
        · skip
          exact absurd c_88 (ab_ne9 (by omega))
        · skip
          refine ab_iload_n dX8_meeting_91 rfl ?_
          refine ab_bif_eq 103 dX8_meeting_92 (by decide) (fun c_92 => ?_) (fun c_92 => ?_)
          · skip
            refine ab_iload dX8_meeting_103 rfl ?_
            refine ab_reti dX8_meeting_105 ?_
            exact ⟨f, by rw [hv, ab_meet_some e]; subst c_92; rfl⟩
          · skip
            refine ab_aload_n dX8_meeting_95 rfl ?_
            refine ab_getR dX8_meeting_96 fl_X8_22 hR1.1 hR1.2.2.2.2.2.2.2.1 ?_
            refine ab_iload dX8_meeting_99 rfl ?_
            refine ab_iald dX8_meeting_101 hR1.2.2.2.2.2.2.2.2.1 rfl (by omega) ((he s hs).trans (show ab_opt (-9) (ab_A ρ d s) = nI a by rw [e]; rfl)) ?_
            refine ab_reti dX8_meeting_102 ?_
            exact ⟨f, by rw [hv, ab_meet_some e]; subst c_92; rfl⟩
      · skip
        exact absurd c_59 (ab_ne9 (by omega))
set_option maxRecDepth 100000 in
set_option maxHeartbeats 4000000 in
theorem lp_meetA {k b r w q s : Nat} {h : ab_H} {ρ : Nat → Nat} {fl : Bool} (hk : 2 ≤ k) (hR : at_Rule (ab_sh h) (ab_r h) r) (hp : ab_rho h (r + 1) ρ) (hs : s < 16) (hsx : s = w * 4 + q) : ∀ (j i : Nat) (h1 : ab_H), i + j = 16 → ab_fr [r + 4] h h1 → (∀ t, t < i → ab_i h1 (r + 4) t = ab_opt (-9) (ab_A ρ 0 t)) → ab_R k b mX8_meeting 3 [some (.ref r), some (.int (nI w)), some (.int (nI q)), some (.int (nI fl.toNat)), some (.int (nI i)), none] [] h1 (ab_pi (fun v h' => ab_fr [r + 4, r + 5] h h' ∧ v = ab_meetOut fl (ab_meetFrom ρ s 15 0))) := by
  intro j
  induction j with
  | zero =>
    intro i h1 hi f hl
    obtain rfl : i = 16 := by omega
    have hR1 := at_Rule.fr f hR
    have hp1 := hp.fr f (by simp)
    refine ab_iload dX8_meeting_3 rfl ?_
    refine ab_bipush (v := nI 16) dX8_meeting_5 (by decide) ?_
    refine ab_nicmp_ge 40 dX8_meeting_7 (by decide) (by omega) (by omega) (fun c_7 => ?_) (fun c_7 => ?_)
    · skip
      refine ab_iload_n dX8_meeting_40 rfl ?_
      refine ab_iconst (v := nI 4) dX8_meeting_41 (by decide) ?_
      refine ab_nmulR dX8_meeting_42 ?_
      refine ab_iload_n dX8_meeting_43 rfl ?_
      refine ab_naddR dX8_meeting_44 ?_
      refine ab_sti (ls' := [_, _, _, _, _, _]) dX8_meeting_45 (by decide) rfl ?_
      refine ab_iconst (v := nI 0) dX8_meeting_47 (by decide) ?_
      refine ab_sti (ls' := [_, _, _, _, _, _]) dX8_meeting_48 (by decide) rfl ?_
      subst hsx
      exact lp_meetB hk hR hp hs 15 0 h1 rfl (f.mono (by simp)) hl rfl
    · skip
      exact absurd (by omega) c_7
  | succ j ih =>
    intro i h1 hi f hl
    have hR1 := at_Rule.fr f hR
    have hp1 := hp.fr f (by simp)
    refine ab_iload dX8_meeting_3 rfl ?_
    refine ab_bipush (v := nI 16) dX8_meeting_5 (by decide) ?_
    refine ab_nicmp_ge 40 dX8_meeting_7 (by decide) (by omega) (by omega) (fun c_7 => ?_) (fun c_7 => ?_)
    · skip
      exact absurd c_7 (by omega)
    · skip
      refine ab_aload_n dX8_meeting_10 rfl ?_
      refine ab_getR dX8_meeting_11 fl_X8_22 hR1.1 hR1.2.2.2.2.2.2.2.1 ?_
      refine ab_iload dX8_meeting_14 rfl ?_
      refine ab_iload dX8_meeting_16 rfl ?_
      refine ab_iconst (v := nI 4) dX8_meeting_18 (by decide) ?_
      refine ab_ndivR dX8_meeting_19 (by omega) (by decide) (by decide) ?_
      refine ab_iload dX8_meeting_20 rfl ?_
      refine ab_iconst (v := nI 4) dX8_meeting_22 (by decide) ?_
      refine ab_nremR dX8_meeting_23 (by omega) (by decide) (by decide) ?_
      refine ab_nicmp_ne 31 dX8_meeting_24 (by decide) (by omega) (by omega) (fun c_24 => ?_) (fun c_24 => ?_)
      · skip
        refine ab_bipush (v := -9) dX8_meeting_31 (by decide) ?_
        refine ab_iast dX8_meeting_33 hR1.2.2.2.2.2.2.2.2.1 rfl (by omega) ?_
        refine ab_nincR (ls' := [_, _, _, _, _, _]) dX8_meeting_34 rfl rfl ?_
        refine ab_goto 3 dX8_meeting_37 (by decide) ?_
        exact ih (i + 1) _ (by omega) (f.si _ _ _ ab_mem1) (ab_si_next hl (by show _ = ab_opt (-9) (if i / 4 = i % 4 then some 0 else none); first | rw [if_pos c_24]; rfl | rw [if_neg c_24]; rfl))
      · skip
        refine ab_iconst (v := nI 0) dX8_meeting_27 (by decide) ?_
        refine ab_goto 33 dX8_meeting_28 (by decide) ?_
        refine ab_iast dX8_meeting_33 hR1.2.2.2.2.2.2.2.2.1 rfl (by omega) ?_
        refine ab_nincR (ls' := [_, _, _, _, _, _]) dX8_meeting_34 rfl rfl ?_
        refine ab_goto 3 dX8_meeting_37 (by decide) ?_
        exact ih (i + 1) _ (by omega) (f.si _ _ _ ab_mem1) (ab_si_next hl (by show _ = ab_opt (-9) (if i / 4 = i % 4 then some 0 else none); first | rw [if_pos c_24]; rfl | rw [if_neg c_24]; rfl))
set_option maxRecDepth 100000 in
set_option maxHeartbeats 4000000 in
theorem c_meeting {k b r w q s : Nat} {h : ab_H} {ρ : Nat → Nat} {fl : Bool} (hk : 2 ≤ k) (hR : at_Rule (ab_sh h) (ab_r h) r) (hp : ab_rho h (r + 1) ρ) (hs : s < 16) (hsx : s = w * 4 + q) : ab_M k b mX8_meeting [.ref r, .int (nI w), .int (nI q), .int (nI fl.toNat)] h (ab_pi (fun v h' => ab_fr [r + 4, r + 5] h h' ∧ v = ab_meetOut fl (ab_meetFrom ρ s 15 0))) := by
  refine ab_enter ?_
  refine ab_iconst (v := nI 0) dX8_meeting_0 (by decide) ?_
  refine ab_sti (ls' := [_, _, _, _, _, _]) dX8_meeting_1 (by decide) rfl ?_
  exact lp_meetA hk hR hp hs hsx 16 0 h rfl (ab_fr.rf h) (fun s hs => absurd hs (Nat.not_lt_zero s))
