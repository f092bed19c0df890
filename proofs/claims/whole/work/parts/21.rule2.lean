/-! ===== the class's Rule: lots, meetings ===== -/
set_option maxRecDepth 100000 in
set_option maxHeartbeats 4000000 in
theorem lp_draw {k b r w n i a s : Nat} {h : ab_H} {ρ : Nat → Nat} {fl : Bool} {z0 : Int32} {R : Nat × Int32} {post : Value → ab_H → Prop} (hk : 1 ≤ k) (hR : at_Rule (ab_sh h) (ab_r h) r) (hp : ab_rho h (r + 1) ρ) (cont : ∀ {t : Nat} {z : Int32}, R = (t, z) → ab_R k b mX8_drawLots 66 [some (.ref r), some (.int (nI w)), some (.int (nI n)), some (.int z0), some (.int (nI fl.toNat)), some (.int (z)), some (.int (nI a)), some (.int (nI s)), some (.int (nI i)), some (.int (nI t)), none] [] h post) : ∀ (j d t : Nat) (z : Int32), d + j = 8 → t < 4 → R = ab_draw ab_seed ab_dg ρ j t z → ab_R k b mX8_drawLots 24 [some (.ref r), some (.int (nI w)), some (.int (nI n)), some (.int z0), some (.int (nI fl.toNat)), some (.int (z)), some (.int (nI a)), some (.int (nI s)), some (.int (nI i)), some (.int (nI t)), some (.int (nI d))] [] h post := by
  intro j
  induction j with
  | zero =>
    intro d t z hd ht hz
    obtain rfl : d = 8 := by omega
    refine ab_iload dX8_drawLots_24 rfl ?_
    refine ab_bipush (v := nI 8) dX8_drawLots_26 (by decide) ?_
    refine ab_nicmp_ge 66 dX8_drawLots_28 (by decide) (by omega) (by omega) (fun c_28 => ?_) (fun c_28 => ?_)
    · skip
      exact ab_weak (cont hz) ⟨rfl, rfl, rfl, rfl, rfl, rfl, rfl, rfl, rfl, rfl, trivial⟩
    · skip
      exact absurd (by omega) c_28
  | succ j ih =>
    intro d t z hd ht hz
    refine ab_iload dX8_drawLots_24 rfl ?_
    refine ab_bipush (v := nI 8) dX8_drawLots_26 (by decide) ?_
    refine ab_nicmp_ge 66 dX8_drawLots_28 (by decide) (by omega) (by omega) (fun c_28 => ?_) (fun c_28 => ?_)
    · skip
      exact absurd c_28 (by omega)
    · skip
      refine ab_iload dX8_drawLots_31 rfl ?_
      refine ab_ldc dX8_drawLots_33 kc_X8_52 ?_
      refine ab_imul dX8_drawLots_35 ?_
      refine ab_ldc dX8_drawLots_36 kc_X8_53 ?_
      refine ab_iadd dX8_drawLots_38 ?_
      refine ab_topI (y := ab_seed z) rfl ?_
      refine ab_sti (ls' := [_, _, _, _, _, _, _, _, _, _, _]) dX8_drawLots_39 (by decide) rfl ?_
      refine ab_aload_n dX8_drawLots_41 rfl ?_
      refine ab_iload dX8_drawLots_42 rfl ?_
      refine ab_iload dX8_drawLots_44 rfl ?_
      refine ab_ldc dX8_drawLots_46 kc_X8_54 ?_
      refine ab_iand dX8_drawLots_48 ?_
      obtain ⟨m, hm, hm31⟩ := ab_mask (ab_seed z)
      have hdg : ab_dg (ab_seed z) = m / 256 % 4 := by unfold ab_dg; rw [hm, nI_clamp hm31]
      refine ab_topI hm ?_
      refine ab_sipush (v := nI 256) dX8_drawLots_49 (by decide) ?_
      refine ab_ndivR dX8_drawLots_52 (by omega) (by decide) (by decide) ?_
      refine ab_iconst (v := nI 4) dX8_drawLots_53 (by decide) ?_
      refine ab_nremR dX8_drawLots_54 (by omega) (by decide) (by decide) ?_
      refine ab_topI (congrArg nI hdg.symm) ?_
      refine ab_callVn [_, _] dX8_drawLots_55 ml_X8_41 mk_X8_wayOfPart hR.1 (c_wayOfPart (k := 0) (b := 0) hR hp ht (ab_dg_lt (ab_seed z))) (fun x h1 hq => ?_)
      obtain ⟨rfl, rfl⟩ := hq
      refine ab_sti (ls' := [_, _, _, _, _, _, _, _, _, _, _]) dX8_drawLots_58 (by decide) rfl ?_
      refine ab_nincR (ls' := [_, _, _, _, _, _, _, _, _, _, _]) dX8_drawLots_60 rfl rfl ?_
      refine ab_goto 24 dX8_drawLots_63 (by decide) ?_
      exact ih (d + 1) _ _ (by omega) (hp _ (by have := ab_dg_lt (ab_seed z); omega)).2 (by rw [hz, ab_draw])
set_option maxRecDepth 100000 in
set_option maxHeartbeats 4000000 in
theorem lp_lots {k b r w n : Nat} {h : ab_H} {ρ : Nat → Nat} {fl : Bool} {z0 : Int32} (hk : 1 ≤ k) (hR : at_Rule (ab_sh h) (ab_r h) r) (hp : ab_rho h (r + 1) ρ) (hw : w < 4) (hn : n ≤ 50) : ∀ (j i a s : Nat) (z : Int32), i + j = n → (if fl = true then (ab_lots ab_seed ab_dg ρ w n z0).2 else (ab_lots ab_seed ab_dg ρ w n z0).1) = (if fl = true then s + (ab_lots ab_seed ab_dg ρ w j z).2 else a + (ab_lots ab_seed ab_dg ρ w j z).1) → ab_R k b mX8_drawLots 12 [some (.ref r), some (.int (nI w)), some (.int (nI n)), some (.int z0), some (.int (nI fl.toNat)), some (.int (z)), some (.int (nI a)), some (.int (nI s)), some (.int (nI i)), none, none] [] h (ab_pn (fun v h' => h' = h ∧ v = if fl = true then (ab_lots ab_seed ab_dg ρ w n z0).2 else (ab_lots ab_seed ab_dg ρ w n z0).1)) := by
  intro j
  induction j with
  | zero =>
    intro i a s z hi hv
    obtain rfl : i = n := by omega
    refine ab_iload dX8_drawLots_12 rfl ?_
    refine ab_iload_n dX8_drawLots_14 rfl ?_
    refine ab_nicmp_ge 94 dX8_drawLots_15 (by decide) (by omega) (by omega) (fun c_15 => ?_) (fun c_15 => ?_)
    · skip
      refine ab_iload dX8_drawLots_94 rfl ?_
      refine ab_bif_eq 104 dX8_drawLots_96 (by decide) (fun c_96 => ?_) (fun c_96 => ?_)
      · skip
        refine ab_iload dX8_drawLots_104 rfl ?_
        refine ab_retn dX8_drawLots_106 ?_
        exact ⟨rfl, by rw [hv]; subst c_96; rfl⟩
      · skip
        refine ab_iload dX8_drawLots_99 rfl ?_
        refine ab_goto 106 dX8_drawLots_101 (by decide) ?_
        refine ab_retn dX8_drawLots_106 ?_
        exact ⟨rfl, by rw [hv]; subst c_96; rfl⟩
    · skip
      exact absurd (Nat.le_refl _) c_15
  | succ j ih =>
    intro i a s z hi hv
    refine ab_iload dX8_drawLots_12 rfl ?_
    refine ab_iload_n dX8_drawLots_14 rfl ?_
    refine ab_nicmp_ge 94 dX8_drawLots_15 (by decide) (by omega) (by omega) (fun c_15 => ?_) (fun c_15 => ?_)
    · skip
      exact absurd c_15 (by omega)
    · skip
      refine ab_iload_n dX8_drawLots_18 rfl ?_
      refine ab_sti (ls' := [_, _, _, _, _, _, _, _, _, _, _]) dX8_drawLots_19 (by decide) rfl ?_
      refine ab_iconst (v := nI 0) dX8_drawLots_21 (by decide) ?_
      refine ab_sti (ls' := [_, _, _, _, _, _, _, _, _, _, _]) dX8_drawLots_22 (by decide) rfl ?_
      refine lp_draw (R := ab_draw ab_seed ab_dg ρ 8 w z) hk hR hp (fun {t z1} e => ?_) 8 0 w z rfl hw rfl
      have ht4 : t < 4 := by have := ab_draw_lt (sd := ab_seed) ab_dg_lt (fun j hj => (hp j hj).2) 8 w z hw; rw [e] at this; exact this
      refine ab_iload dX8_drawLots_66 rfl ?_
      refine ab_iload dX8_drawLots_68 rfl ?_
      refine ab_nif_ne 77 dX8_drawLots_70 (by decide) (by omega) (fun c_70 => ?_) (fun c_70 => ?_)
      · skip
        refine ab_iconst (v := nI 0) dX8_drawLots_77 (by decide) ?_
        refine ab_naddR dX8_drawLots_78 ?_
        refine ab_sti (ls' := [_, _, _, _, _, _, _, _, _, _, _]) dX8_drawLots_79 (by decide) rfl ?_
        refine ab_iload dX8_drawLots_81 rfl ?_
        refine ab_iload dX8_drawLots_83 rfl ?_
        refine ab_naddR dX8_drawLots_85 ?_
        refine ab_sti (ls' := [_, _, _, _, _, _, _, _, _, _, _]) dX8_drawLots_86 (by decide) rfl ?_
        refine ab_nincR (ls' := [_, _, _, _, _, _, _, _, _, _, _]) dX8_drawLots_88 rfl rfl ?_
        refine ab_goto 12 dX8_drawLots_91 (by decide) ?_
        refine ab_weak (ih (i + 1) _ _ _ (by omega) (hv.trans ?_)) ⟨rfl, rfl, rfl, rfl, rfl, rfl, rfl, rfl, rfl, trivial⟩
        rw [ab_lots, e]
        simp only [c_70, if_true, if_false]
        cases fl <;> simp <;> omega
      · skip
        refine ab_iconst (v := nI 1) dX8_drawLots_73 (by decide) ?_
        refine ab_goto 78 dX8_drawLots_74 (by decide) ?_
        refine ab_naddR dX8_drawLots_78 ?_
        refine ab_sti (ls' := [_, _, _, _, _, _, _, _, _, _, _]) dX8_drawLots_79 (by decide) rfl ?_
        refine ab_iload dX8_drawLots_81 rfl ?_
        refine ab_iload dX8_drawLots_83 rfl ?_
        refine ab_naddR dX8_drawLots_85 ?_
        refine ab_sti (ls' := [_, _, _, _, _, _, _, _, _, _, _]) dX8_drawLots_86 (by decide) rfl ?_
        refine ab_nincR (ls' := [_, _, _, _, _, _, _, _, _, _, _]) dX8_drawLots_88 rfl rfl ?_
        refine ab_goto 12 dX8_drawLots_91 (by decide) ?_
        refine ab_weak (ih (i + 1) _ _ _ (by omega) (hv.trans ?_)) ⟨rfl, rfl, rfl, rfl, rfl, rfl, rfl, rfl, rfl, trivial⟩
        rw [ab_lots, e]
        simp only [c_70, if_true, if_false]
        cases fl <;> simp <;> omega
set_option maxRecDepth 100000 in
set_option maxHeartbeats 4000000 in
theorem c_drawLots {k b r w n : Nat} {h : ab_H} {ρ : Nat → Nat} {fl : Bool} {z0 : Int32} (hk : 1 ≤ k) (hR : at_Rule (ab_sh h) (ab_r h) r) (hp : ab_rho h (r + 1) ρ) (hw : w < 4) (hn : n ≤ 50) : ab_M k b mX8_drawLots [.ref r, .int (nI w), .int (nI n), .int z0, .int (nI fl.toNat)] h (ab_pn (fun v h' => h' = h ∧ v = if fl = true then (ab_lots ab_seed ab_dg ρ w n z0).2 else (ab_lots ab_seed ab_dg ρ w n z0).1)) := by
  refine ab_enter ?_
  refine ab_iload_n dX8_drawLots_0 rfl ?_
  refine ab_sti (ls' := [_, _, _, _, _, _, _, _, _, _, _]) dX8_drawLots_1 (by decide) rfl ?_
  refine ab_iconst (v := nI 0) dX8_drawLots_3 (by decide) ?_
  refine ab_sti (ls' := [_, _, _, _, _, _, _, _, _, _, _]) dX8_drawLots_4 (by decide) rfl ?_
  refine ab_iconst (v := nI 0) dX8_drawLots_6 (by decide) ?_
  refine ab_sti (ls' := [_, _, _, _, _, _, _, _, _, _, _]) dX8_drawLots_7 (by decide) rfl ?_
  refine ab_iconst (v := nI 0) dX8_drawLots_9 (by decide) ?_
  refine ab_sti (ls' := [_, _, _, _, _, _, _, _, _, _, _]) dX8_drawLots_10 (by decide) rfl ?_
  exact lp_lots hk hR hp hw hn n 0 0 0 z0 (by omega) (by simp)
/-- a row of least addresses, -9 for none -/
def ab_row (h : ab_H) (a : Nat) (e : Int32) (ℓ : Nat → Option Nat) : Prop := ∀ s, s < 16 → ab_i h a s = ab_opt e (ℓ s)
theorem ab_row.fr {S : List Nat} {h h1 : ab_H} {a : Nat} {e : Int32} {ℓ : Nat → Option Nat} (f : ab_fr S h h1) (ha : a ∉ S) (H : ab_row h a e ℓ) : ab_row h1 a e ℓ := fun j hj => by rw [ab_i_fr f ha]; exact H j hj
/-- the row of the longer ones while pair i is at part p -/
def ab_rowA (ρ : Nat → Nat) (ℓ : Nat → Option Nat) (h : ab_H) (a i p : Nat) : Prop := (∀ s, s < i → ab_i h a s = ab_opt (-9) (ab_afd ρ ℓ s 4)) ∧ ab_i h a i = ab_opt (-9) (ab_afd ρ ℓ i p)
theorem ab_rowA_next {ρ : Nat → Nat} {ℓ : Nat → Option Nat} {h : ab_H} {a i p q : Nat} {v : Int32} (H : ab_rowA ρ ℓ h a i p) (hv : v = ab_opt (-9) (ab_afd ρ ℓ i q)) : ab_rowA ρ ℓ (ab_si h a i v) a i q := by
  refine ⟨fun s hs => ?_, ?_⟩
  · rw [ab_i_si, if_pos rfl, ab_up_at, if_neg (by omega)]; exact H.1 s hs
  · rw [ab_i_si, if_pos rfl, ab_up_at, if_pos rfl]; exact hv
set_option maxRecDepth 100000 in
set_option maxHeartbeats 4000000 in
theorem lp_afdC {k b r i : Nat} {h : ab_H} {ρ : Nat → Nat} {ℓ : Nat → Option Nat} {post : Value → ab_H → Prop} (hk : 1 ≤ k) (hR : at_Rule (ab_sh h) (ab_r h) r) (hp : ab_rho h (r + 1) ρ) (he : ab_row h (r + 4) (-9) ℓ) (hB : ∀ s a, s < 16 → ℓ s = some a → a < 268435456) (hi : i < 16) (cont : ∀ h1, ab_fr [r + 5] h h1 → ab_rowA ρ ℓ h1 (r + 5) i 4 → ab_R k b mX8_addFirstDigit 97 [some (.ref r), some (.int (nI i)), none, none, none] [] h1 post) : ∀ (j p : Nat) (h1 : ab_H), p + j = 4 → ab_fr [r + 5] h h1 → ab_rowA ρ ℓ h1 (r + 5) i p → ab_R k b mX8_addFirstDigit 18 [some (.ref r), some (.int (nI i)), some (.int (nI p)), none, none] [] h1 post := by
  intro j
  induction j with
  | zero =>
    intro p h1 hpj f hl
    obtain rfl : p = 4 := by omega
    have hR1 := at_Rule.fr f hR
    have hp1 := hp.fr f (by simp)
    have he1 := he.fr f (by simp)
    refine ab_iload_n dX8_addFirstDigit_18 rfl ?_
    refine ab_iconst (v := nI 4) dX8_addFirstDigit_19 (by decide) ?_
    refine ab_nicmp_ge 97 dX8_addFirstDigit_20 (by decide) (by omega) (by omega) (fun c_20 => ?_) (fun c_20 => ?_)
    · skip
      exact ab_weak (cont h1 f hl) (by simp [ab_le])
    · skip
      exact absurd (by omega) c_20
  | succ j ih =>
    intro p h1 hpj f hl
    have hR1 := at_Rule.fr f hR
    have hp1 := hp.fr f (by simp)
    have he1 := he.fr f (by simp)
    have q1 := (hp (i / 4 * 4 + p) (by omega)).2
    have q2 := (hp (i % 4 * 4 + p) (by omega)).2
    have hnx : ab_nx ρ i p = (ρ (i / 4 * 4 + p) * 4 + ρ (i % 4 * 4 + p)) := rfl
    have hlt : (ρ (i / 4 * 4 + p) * 4 + ρ (i % 4 * 4 + p)) < 16 := by omega
    cases e : ℓ (ab_nx ρ i p) with
    | none =>
      refine ab_iload_n dX8_addFirstDigit_18 rfl ?_
      refine ab_iconst (v := nI 4) dX8_addFirstDigit_19 (by decide) ?_
      refine ab_nicmp_ge 97 dX8_addFirstDigit_20 (by decide) (by omega) (by omega) (fun c_20 => ?_) (fun c_20 => ?_)
      · skip
        exact absurd c_20 (by omega)
      · skip
        refine ab_aload_n dX8_addFirstDigit_23 rfl ?_
        refine ab_getR dX8_addFirstDigit_24 fl_X8_22 hR1.1 hR1.2.2.2.2.2.2.2.1 ?_
        refine ab_aload_n dX8_addFirstDigit_27 rfl ?_
        refine ab_iload_n dX8_addFirstDigit_28 rfl ?_
        refine ab_iconst (v := nI 4) dX8_addFirstDigit_29 (by decide) ?_
        refine ab_ndivR dX8_addFirstDigit_30 (by omega) (by decide) (by decide) ?_
        refine ab_iload_n dX8_addFirstDigit_31 rfl ?_
        refine ab_callVn [_, _] dX8_addFirstDigit_32 ml_X8_41 mk_X8_wayOfPart hR1.1 (c_wayOfPart (k := 0) (b := 0) hR1 hp1 (by omega) (by omega)) (fun x h1 hq => ?_)
        obtain ⟨rfl, rfl⟩ := hq
        refine ab_iconst (v := nI 4) dX8_addFirstDigit_35 (by decide) ?_
        refine ab_nmulR dX8_addFirstDigit_36 ?_
        refine ab_aload_n dX8_addFirstDigit_37 rfl ?_
        refine ab_iload_n dX8_addFirstDigit_38 rfl ?_
        refine ab_iconst (v := nI 4) dX8_addFirstDigit_39 (by decide) ?_
        refine ab_nremR dX8_addFirstDigit_40 (by omega) (by decide) (by decide) ?_
        refine ab_iload_n dX8_addFirstDigit_41 rfl ?_
        refine ab_callVn [_, _] dX8_addFirstDigit_42 ml_X8_41 mk_X8_wayOfPart hR1.1 (c_wayOfPart (k := 0) (b := 0) hR1 hp1 (by omega) (by omega)) (fun x h1 hq => ?_)
        obtain ⟨rfl, rfl⟩ := hq
        refine ab_naddR dX8_addFirstDigit_45 ?_
        refine ab_iald dX8_addFirstDigit_46 hR1.2.2.2.2.2.2.2.2.1 rfl hlt ((he1 _ hlt).trans (show ab_opt (-9) (ℓ _) = -9 by rw [← hnx, e]; rfl)) ?_
        refine ab_sti_n (ls' := [_, _, _, _, _]) dX8_addFirstDigit_47 (by decide) rfl ?_
        refine ab_iload_n dX8_addFirstDigit_48 rfl ?_
        refine ab_iconst (v := nI 4) dX8_addFirstDigit_49 (by decide) ?_
        refine ab_imul dX8_addFirstDigit_50 ?_
        refine ab_iload_n dX8_addFirstDigit_51 rfl ?_
        refine ab_iadd dX8_addFirstDigit_52 ?_
        refine ab_sti (ls' := [_, _, _, _, _]) dX8_addFirstDigit_53 (by decide) rfl ?_
        refine ab_iload_n dX8_addFirstDigit_55 rfl ?_
        refine ab_bipush (v := -9) dX8_addFirstDigit_56 (by decide) ?_
        refine ab_icmp_eq 91 dX8_addFirstDigit_58 (by decide) (fun c_58 => ?_) (fun c_58 => ?_)
        · skip
          refine ab_nincR (ls' := [_, _, _, _, _]) dX8_addFirstDigit_91 rfl rfl ?_
          refine ab_goto 18 dX8_addFirstDigit_94 (by decide) ?_
          exact ab_weak (ih (p + 1) _ (by omega) f ⟨hl.1, by rw [hl.2, ab_afd, e]⟩) (by simp [ab_le])
        · skip
          exact absurd rfl c_58
    | some a =>
      have ha := hB _ _ hlt (by rw [← hnx]; exact e)
      cases e2 : ab_afd ρ ℓ i p with
      | none =>
        refine ab_iload_n dX8_addFirstDigit_18 rfl ?_
        refine ab_iconst (v := nI 4) dX8_addFirstDigit_19 (by decide) ?_
        refine ab_nicmp_ge 97 dX8_addFirstDigit_20 (by decide) (by omega) (by omega) (fun c_20 => ?_) (fun c_20 => ?_)
        · skip
          exact absurd c_20 (by omega)
        · skip
          refine ab_aload_n dX8_addFirstDigit_23 rfl ?_
          refine ab_getR dX8_addFirstDigit_24 fl_X8_22 hR1.1 hR1.2.2.2.2.2.2.2.1 ?_
          refine ab_aload_n dX8_addFirstDigit_27 rfl ?_
          refine ab_iload_n dX8_addFirstDigit_28 rfl ?_
          refine ab_iconst (v := nI 4) dX8_addFirstDigit_29 (by decide) ?_
          refine ab_ndivR dX8_addFirstDigit_30 (by omega) (by decide) (by decide) ?_
          refine ab_iload_n dX8_addFirstDigit_31 rfl ?_
          refine ab_callVn [_, _] dX8_addFirstDigit_32 ml_X8_41 mk_X8_wayOfPart hR1.1 (c_wayOfPart (k := 0) (b := 0) hR1 hp1 (by omega) (by omega)) (fun x h1 hq => ?_)
          obtain ⟨rfl, rfl⟩ := hq
          refine ab_iconst (v := nI 4) dX8_addFirstDigit_35 (by decide) ?_
          refine ab_nmulR dX8_addFirstDigit_36 ?_
          refine ab_aload_n dX8_addFirstDigit_37 rfl ?_
          refine ab_iload_n dX8_addFirstDigit_38 rfl ?_
          refine ab_iconst (v := nI 4) dX8_addFirstDigit_39 (by decide) ?_
          refine ab_nremR dX8_addFirstDigit_40 (by omega) (by decide) (by decide) ?_
          refine ab_iload_n dX8_addFirstDigit_41 rfl ?_
          refine ab_callVn [_, _] dX8_addFirstDigit_42 ml_X8_41 mk_X8_wayOfPart hR1.1 (c_wayOfPart (k := 0) (b := 0) hR1 hp1 (by omega) (by omega)) (fun x h1 hq => ?_)
          obtain ⟨rfl, rfl⟩ := hq
          refine ab_naddR dX8_addFirstDigit_45 ?_
          refine ab_iald dX8_addFirstDigit_46 hR1.2.2.2.2.2.2.2.2.1 rfl hlt ((he1 _ hlt).trans (show ab_opt (-9) (ℓ _) = nI a by rw [← hnx, e]; rfl)) ?_
          refine ab_sti_n (ls' := [_, _, _, _, _]) dX8_addFirstDigit_47 (by decide) rfl ?_
          refine ab_iload_n dX8_addFirstDigit_48 rfl ?_
          refine ab_iconst (v := nI 4) dX8_addFirstDigit_49 (by decide) ?_
          refine ab_nmulR dX8_addFirstDigit_50 ?_
          refine ab_iload_n dX8_addFirstDigit_51 rfl ?_
          refine ab_naddR dX8_addFirstDigit_52 ?_
          refine ab_sti (ls' := [_, _, _, _, _]) dX8_addFirstDigit_53 (by decide) rfl ?_
          refine ab_iload_n dX8_addFirstDigit_55 rfl ?_
          refine ab_bipush (v := -9) dX8_addFirstDigit_56 (by decide) ?_
          refine ab_icmp_eq 91 dX8_addFirstDigit_58 (by decide) (fun c_58 => ?_) (fun c_58 => ?_)
          · skip
            exact absurd c_58 (ab_ne9 (by omega))
          · skip
            refine ab_aload_n dX8_addFirstDigit_61 rfl ?_
            refine ab_getR dX8_addFirstDigit_62 fl_X8_25 hR1.1 hR1.2.2.2.2.2.2.2.2.2.1 ?_
            refine ab_iload_n dX8_addFirstDigit_65 rfl ?_
            refine ab_iald dX8_addFirstDigit_66 hR1.2.2.2.2.2.2.2.2.2.2 rfl (by omega) (hl.2.trans (show ab_opt (-9) _ = -9 by rw [e2]; rfl)) ?_
            refine ab_bipush (v := -9) dX8_addFirstDigit_67 (by decide) ?_
            refine ab_icmp_eq 83 dX8_addFirstDigit_69 (by decide) (fun c_69 => ?_) (fun c_69 => ?_)
            · skip
              refine ab_aload_n dX8_addFirstDigit_83 rfl ?_
              refine ab_getR dX8_addFirstDigit_84 fl_X8_25 hR1.1 hR1.2.2.2.2.2.2.2.2.2.1 ?_
              refine ab_iload_n dX8_addFirstDigit_87 rfl ?_
              refine ab_iload dX8_addFirstDigit_88 rfl ?_
              refine ab_iast dX8_addFirstDigit_90 hR1.2.2.2.2.2.2.2.2.2.2 rfl (by omega) ?_
              refine ab_nincR (ls' := [_, _, _, _, _]) dX8_addFirstDigit_91 rfl rfl ?_
              refine ab_goto 18 dX8_addFirstDigit_94 (by decide) ?_
              exact ab_weak (ih (p + 1) _ (by omega) (f.si _ _ _ ab_mem1) (ab_rowA_next hl (by rw [ab_afd, e]; simp only [e2]; rfl))) (by simp [ab_le])
            · skip
              exact absurd rfl c_69
      | some q =>
        have hq9 : q < 2147483648 := ab_afd_lt hB (fun j hj => (hp j hj).2) hi p (by omega) e2
        refine ab_iload_n dX8_addFirstDigit_18 rfl ?_
        refine ab_iconst (v := nI 4) dX8_addFirstDigit_19 (by decide) ?_
        refine ab_nicmp_ge 97 dX8_addFirstDigit_20 (by decide) (by omega) (by omega) (fun c_20 => ?_) (fun c_20 => ?_)
        · skip
          exact absurd c_20 (by omega)
        · skip
          refine ab_aload_n dX8_addFirstDigit_23 rfl ?_
          refine ab_getR dX8_addFirstDigit_24 fl_X8_22 hR1.1 hR1.2.2.2.2.2.2.2.1 ?_
          refine ab_aload_n dX8_addFirstDigit_27 rfl ?_
          refine ab_iload_n dX8_addFirstDigit_28 rfl ?_
          refine ab_iconst (v := nI 4) dX8_addFirstDigit_29 (by decide) ?_
          refine ab_ndivR dX8_addFirstDigit_30 (by omega) (by decide) (by decide) ?_
          refine ab_iload_n dX8_addFirstDigit_31 rfl ?_
          refine ab_callVn [_, _] dX8_addFirstDigit_32 ml_X8_41 mk_X8_wayOfPart hR1.1 (c_wayOfPart (k := 0) (b := 0) hR1 hp1 (by omega) (by omega)) (fun x h1 hq => ?_)
          obtain ⟨rfl, rfl⟩ := hq
          refine ab_iconst (v := nI 4) dX8_addFirstDigit_35 (by decide) ?_
          refine ab_nmulR dX8_addFirstDigit_36 ?_
          refine ab_aload_n dX8_addFirstDigit_37 rfl ?_
          refine ab_iload_n dX8_addFirstDigit_38 rfl ?_
          refine ab_iconst (v := nI 4) dX8_addFirstDigit_39 (by decide) ?_
          refine ab_nremR dX8_addFirstDigit_40 (by omega) (by decide) (by decide) ?_
          refine ab_iload_n dX8_addFirstDigit_41 rfl ?_
          refine ab_callVn [_, _] dX8_addFirstDigit_42 ml_X8_41 mk_X8_wayOfPart hR1.1 (c_wayOfPart (k := 0) (b := 0) hR1 hp1 (by omega) (by omega)) (fun x h1 hq => ?_)
          obtain ⟨rfl, rfl⟩ := hq
          refine ab_naddR dX8_addFirstDigit_45 ?_
          refine ab_iald dX8_addFirstDigit_46 hR1.2.2.2.2.2.2.2.2.1 rfl hlt ((he1 _ hlt).trans (show ab_opt (-9) (ℓ _) = nI a by rw [← hnx, e]; rfl)) ?_
          refine ab_sti_n (ls' := [_, _, _, _, _]) dX8_addFirstDigit_47 (by decide) rfl ?_
          refine ab_iload_n dX8_addFirstDigit_48 rfl ?_
          refine ab_iconst (v := nI 4) dX8_addFirstDigit_49 (by decide) ?_
          refine ab_nmulR dX8_addFirstDigit_50 ?_
          refine ab_iload_n dX8_addFirstDigit_51 rfl ?_
          refine ab_naddR dX8_addFirstDigit_52 ?_
          refine ab_sti (ls' := [_, _, _, _, _]) dX8_addFirstDigit_53 (by decide) rfl ?_
          refine ab_iload_n dX8_addFirstDigit_55 rfl ?_
          refine ab_bipush (v := -9) dX8_addFirstDigit_56 (by decide) ?_
          refine ab_icmp_eq 91 dX8_addFirstDigit_58 (by decide) (fun c_58 => ?_) (fun c_58 => ?_)
          · skip
            exact absurd c_58 (ab_ne9 (by omega))
          · skip
            refine ab_aload_n dX8_addFirstDigit_61 rfl ?_
            refine ab_getR dX8_addFirstDigit_62 fl_X8_25 hR1.1 hR1.2.2.2.2.2.2.2.2.2.1 ?_
            refine ab_iload_n dX8_addFirstDigit_65 rfl ?_
            refine ab_iald dX8_addFirstDigit_66 hR1.2.2.2.2.2.2.2.2.2.2 rfl (by omega) (hl.2.trans (show ab_opt (-9) _ = nI q by rw [e2]; rfl)) ?_
            refine ab_bipush (v := -9) dX8_addFirstDigit_67 (by decide) ?_
            refine ab_icmp_eq 83 dX8_addFirstDigit_69 (by decide) (fun c_69 => ?_) (fun c_69 => ?_)
            · skip
              exact absurd c_69 (ab_ne9 (by omega))
            · skip
              refine ab_iload dX8_addFirstDigit_72 rfl ?_
              refine ab_aload_n dX8_addFirstDigit_74 rfl ?_
              refine ab_getR dX8_addFirstDigit_75 fl_X8_25 hR1.1 hR1.2.2.2.2.2.2.2.2.2.1 ?_
              refine ab_iload_n dX8_addFirstDigit_78 rfl ?_
              refine ab_iald dX8_addFirstDigit_79 hR1.2.2.2.2.2.2.2.2.2.2 rfl (by omega) (hl.2.trans (show ab_opt (-9) _ = nI q by rw [e2]; rfl)) ?_
              refine ab_nicmp_ge 91 dX8_addFirstDigit_80 (by decide) (by omega) (by omega) (fun c_80 => ?_) (fun c_80 => ?_)
              · skip
                refine ab_nincR (ls' := [_, _, _, _, _]) dX8_addFirstDigit_91 rfl rfl ?_
                refine ab_goto 18 dX8_addFirstDigit_94 (by decide) ?_
                exact ab_weak (ih (p + 1) _ (by omega) f ⟨hl.1, by rw [hl.2, ab_afd, e]; simp only [e2]; rw [if_pos c_80]⟩) (by simp [ab_le])
              · skip
                refine ab_aload_n dX8_addFirstDigit_83 rfl ?_
                refine ab_getR dX8_addFirstDigit_84 fl_X8_25 hR1.1 hR1.2.2.2.2.2.2.2.2.2.1 ?_
                refine ab_iload_n dX8_addFirstDigit_87 rfl ?_
                refine ab_iload dX8_addFirstDigit_88 rfl ?_
                refine ab_iast dX8_addFirstDigit_90 hR1.2.2.2.2.2.2.2.2.2.2 rfl (by omega) ?_
                refine ab_nincR (ls' := [_, _, _, _, _]) dX8_addFirstDigit_91 rfl rfl ?_
                refine ab_goto 18 dX8_addFirstDigit_94 (by decide) ?_
                exact ab_weak (ih (p + 1) _ (by omega) (f.si _ _ _ ab_mem1) (ab_rowA_next hl (by rw [ab_afd, e]; simp only [e2]; rw [if_neg c_80]; rfl))) (by simp [ab_le])
set_option maxRecDepth 100000 in
set_option maxHeartbeats 4000000 in
theorem lp_afdB {k b r : Nat} {h : ab_H} {ρ : Nat → Nat} {ℓ : Nat → Option Nat} (hk : 1 ≤ k) (hR : at_Rule (ab_sh h) (ab_r h) r) (hp : ab_rho h (r + 1) ρ) (he : ab_row h (r + 4) (-9) ℓ) (hB : ∀ s a, s < 16 → ℓ s = some a → a < 268435456) : ∀ (j i : Nat) (h1 : ab_H), i + j = 16 → ab_fr [r + 5] h h1 → (∀ s, s < i → ab_i h1 (r + 5) s = ab_opt (-9) (ab_afd ρ ℓ s 4)) → ab_R k b mX8_addFirstDigit 2 [some (.ref r), some (.int (nI i)), none, none, none] [] h1 (ab_pv (fun h' => ab_fr [r + 4, r + 5] h h' ∧ ab_row h' (r + 4) (-9) (fun s => ab_afd ρ ℓ s 4))) := by
  intro j
  induction j with
  | zero =>
    intro i h1 hi f hl
    obtain rfl : i = 16 := by omega
    have hR1 := at_Rule.fr f hR
    have hp1 := hp.fr f (by simp)
    have he1 := he.fr f (by simp)
    refine ab_iload_n dX8_addFirstDigit_2 rfl ?_
    refine ab_bipush (v := nI 16) dX8_addFirstDigit_3 (by decide) ?_
    refine ab_nicmp_ge 103 dX8_addFirstDigit_5 (by decide) (by omega) (by omega) (fun c_5 => ?_) (fun c_5 => ?_)
    · skip
      refine ab_aload_n dX8_addFirstDigit_103 rfl ?_
      refine ab_getR dX8_addFirstDigit_104 fl_X8_25 hR1.1 hR1.2.2.2.2.2.2.2.2.2.1 ?_
      refine ab_iconst (v := nI 0) dX8_addFirstDigit_107 (by decide) ?_
      refine ab_aload_n dX8_addFirstDigit_108 rfl ?_
      refine ab_getR dX8_addFirstDigit_109 fl_X8_22 hR1.1 hR1.2.2.2.2.2.2.2.1 ?_
      refine ab_iconst (v := nI 0) dX8_addFirstDigit_112 (by decide) ?_
      refine ab_bipush (v := nI 16) dX8_addFirstDigit_113 (by decide) ?_
      refine ab_copyI dX8_addFirstDigit_115 ml_X8_28 hR1.2.2.2.2.2.2.2.2.2.2 hR1.2.2.2.2.2.2.2.2.1 rfl rfl rfl ?_
      refine ab_retv dX8_addFirstDigit_118 ?_
      refine ⟨(f.mono (by simp)).sI _ _ (by simp), fun s hs => ?_⟩
      rw [ab_i_sI, if_pos rfl]
      exact hl s hs
    · skip
      exact absurd (by omega) c_5
  | succ j ih =>
    intro i h1 hi f hl
    have hR1 := at_Rule.fr f hR
    have hp1 := hp.fr f (by simp)
    have he1 := he.fr f (by simp)
    refine ab_iload_n dX8_addFirstDigit_2 rfl ?_
    refine ab_bipush (v := nI 16) dX8_addFirstDigit_3 (by decide) ?_
    refine ab_nicmp_ge 103 dX8_addFirstDigit_5 (by decide) (by omega) (by omega) (fun c_5 => ?_) (fun c_5 => ?_)
    · skip
      exact absurd c_5 (by omega)
    · skip
      refine ab_aload_n dX8_addFirstDigit_8 rfl ?_
      refine ab_getR dX8_addFirstDigit_9 fl_X8_25 hR1.1 hR1.2.2.2.2.2.2.2.2.2.1 ?_
      refine ab_iload_n dX8_addFirstDigit_12 rfl ?_
      refine ab_bipush (v := -9) dX8_addFirstDigit_13 (by decide) ?_
      refine ab_iast dX8_addFirstDigit_15 hR1.2.2.2.2.2.2.2.2.2.2 rfl (by omega) ?_
      refine ab_iconst (v := nI 0) dX8_addFirstDigit_16 (by decide) ?_
      refine ab_sti_n (ls' := [_, _, _, _, _]) dX8_addFirstDigit_17 (by decide) rfl ?_
      refine ab_weak (ls' := [some (.ref r), some (.int (nI i)), some (.int (nI 0)), none, none]) ?_ (by simp [ab_le])
      refine lp_afdC hk hR hp he hB (by omega) (fun h2 f2 hl2 => ?_) 4 0 _ rfl (f.si _ _ _ ab_mem1) ⟨fun s hs => ?_, by rw [ab_i_si, if_pos rfl, ab_up_at, if_pos rfl]; rfl⟩
      case refine_2 => rw [ab_i_si, if_pos rfl, ab_up_at, if_neg (by omega)]; exact hl s hs
      refine ab_nincR (ls' := [_, _, _, _, _]) dX8_addFirstDigit_97 rfl rfl ?_
      refine ab_goto 2 dX8_addFirstDigit_100 (by decide) ?_
      exact ih (i + 1) h2 (by omega) f2 (fun s hs => if e : s = i then by rw [e]; exact hl2.2 else hl2.1 s (by omega))
set_option maxRecDepth 100000 in
set_option maxHeartbeats 4000000 in
theorem c_addFirstDigit {k b r : Nat} {h : ab_H} {ρ : Nat → Nat} {ℓ : Nat → Option Nat} (hk : 1 ≤ k) (hR : at_Rule (ab_sh h) (ab_r h) r) (hp : ab_rho h (r + 1) ρ) (he : ab_row h (r + 4) (-9) ℓ) (hB : ∀ s a, s < 16 → ℓ s = some a → a < 268435456) : ab_M k b mX8_addFirstDigit [.ref r] h (ab_pv (fun h' => ab_fr [r + 4, r + 5] h h' ∧ ab_row h' (r + 4) (-9) (fun s => ab_afd ρ ℓ s 4))) := by
  refine ab_enter ?_
  refine ab_iconst (v := nI 0) dX8_addFirstDigit_0 (by decide) ?_
  refine ab_sti_n (ls' := [_, _, _, _, _]) dX8_addFirstDigit_1 (by decide) rfl ?_
  exact lp_afdB hk hR hp he hB 16 0 h rfl (ab_fr.rf h) (fun s hs => absurd hs (Nat.not_lt_zero s))
