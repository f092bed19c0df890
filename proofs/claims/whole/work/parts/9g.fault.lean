/-! ===== texts: all statements ===== -/
noncomputable def tx_go (e : eS) : Nat → Nat → xS → xS × Option Nat
  | 0, _, X => (X, none)
  | j + 1, p, X => @ite _ (tx_ok e p (xp X) (xt X)) (Classical.propDecidable _) (tx_go e j (tx_nx e p) (tx_do e p X)) (X, some p)
theorem tx_go_ok {e : eS} {j p : Nat} {X : xS} (h : tx_ok e p (xp X) (xt X)) : tx_go e (j + 1) p X = tx_go e j (tx_nx e p) (tx_do e p X) := by rw [tx_go]; exact if_pos h
theorem tx_go_no {e : eS} {j p : Nat} {X : xS} (h : ¬ tx_ok e p (xp X) (xt X)) : tx_go e (j + 1) p X = (X, some p) := by rw [tx_go]; exact if_neg h
theorem tx_p_s {e : eS} : ∀ (i p : Nat), tx_p e (i + 1) p = tx_nx e (tx_p e i p) := by
  intro i
  induction i with
  | zero => intro p; rfl
  | succ i ih => intro p; rw [tx_p, ih]; rfl
theorem tx_np2 {e : eS} {p : Nat} {X : xS} : xp (tx_do e p X) = xp X + (if eL e p = 112 then 1 else 0) := by rw [tx_do_np]; by_cases c : eL e p = 112 <;> simp [c]
theorem tx_nt2 {e : eS} {p : Nat} {X : xS} (h : tx_wr e p = none) : xt (tx_do e p X) = xt X + (if eL e p = 116 then 1 else 0) := by rw [tx_do_nt h]; by_cases c : eL e p = 116 <;> simp [c]
def oF (o : Option Nat) : Int32 := match o with | none => nI 0 | some p => -2000 - nI p
noncomputable def sp_text (e : eS) (X : xS) : xS × Int32 := match (tx_rd e 12 0).2 with
  | some w => (X, -1000 - nI w)
  | none => match (tx_go e (tx_rd e 12 0).1 0 X).2 with
    | some p => (X, -2000 - nI p)
    | none => ((tx_go e (tx_rd e 12 0).1 0 X).1, nI (tx_rd e 12 0).1)
theorem sp_text_w {e : eS} {X : xS} {w : Nat} (h : (tx_rd e 12 0).2 = some w) : sp_text e X = (X, -1000 - nI w) := by unfold sp_text; rw [h]
theorem sp_text_p {e : eS} {X : xS} {p : Nat} (h : (tx_rd e 12 0).2 = none) (g : (tx_go e (tx_rd e 12 0).1 0 X).2 = some p) : sp_text e X = (X, -2000 - nI p) := by unfold sp_text; rw [h]; show (match (tx_go e (tx_rd e 12 0).1 0 X).2 with | some p => (X, -2000 - nI p) | none => ((tx_go e (tx_rd e 12 0).1 0 X).1, nI (tx_rd e 12 0).1)) = _; rw [g]
theorem sp_text_ok {e : eS} {X : xS} (h : (tx_rd e 12 0).2 = none) (g : (tx_go e (tx_rd e 12 0).1 0 X).2 = none) : sp_text e X = ((tx_go e (tx_rd e 12 0).1 0 X).1, nI (tx_rd e 12 0).1) := by unfold sp_text; rw [h]; show (match (tx_go e (tx_rd e 12 0).1 0 X).2 with | some p => (X, -2000 - nI p) | none => ((tx_go e (tx_rd e 12 0).1 0 X).1, nI (tx_rd e 12 0).1)) = _; rw [g]
theorem nI_i {w : Nat} (hw : w < 1000) (z : Int32) (hz : z.toInt = -1000 ∨ z.toInt = -2000) : z - nI w ≠ 0 := fun q => by
  have q := congrArg Int32.toInt q
  rw [Int32.toInt_sub, nI_toInt (by omega)] at q
  have q2 : (0 : Int32).toInt = 0 := by decide
  rw [q2, Int.bmod_def] at q
  omega
def gp_C (X : xS) (h : ab_H) : Prop := bd_C X.1 X.2.1 X.2.2.1 6 h ∧ ab_rho h 14 X.2.2.2.1 ∧ sh_C 19 X.2.2.2.2 h
theorem gp_C.gr {S T : List Nat} {X : xS} {h h1 : ab_H} (f : ab_gr S T h h1) (hb : ab_bs h) (hs : ∀ a, a ∈ S → a < 78 ∧ ¬ (6 ≤ a ∧ a ≤ 11) ∧ a ≠ 14 ∧ a ≠ 19) (ht : ∀ a, a ∈ T → a < 78 ∧ a ≠ 20 ∧ a ≠ 21) (H : gp_C X h) : gp_C X h1 :=
  ⟨H.1.gr f hb (by decide) (fun a q1 q2 q => (hs a q).2.1 ⟨q1, q2⟩), H.2.1.gr f hb (by decide) (fun q => (hs 14 q).2.2.1 rfl), H.2.2.gr f (fun a q => (hs a q).1) (fun a q => (ht a q).1) hb (by decide) (fun q => (hs 19 q).2.2.2 rfl) (fun q => (ht 20 q).2.1 rfl) (fun q => (ht 21 q).2.2 rfl)⟩
theorem rU_ok {ρ : Nat → Nat} {d : Nat} {f : Nat → Nat} {F G : Nat → Int32} (hR : ∀ j, j < 16 → F j = nI (ρ j) ∧ ρ j < 4) (hf : ∀ i, i < 4 → f i < 4) (hG : ∀ j, G j = if 4 * d ≤ j ∧ j < 4 * d + 4 then nI (f (j - 4 * d)) else F j) : ∀ j, j < 16 → G j = nI (rU ρ d f j) ∧ rU ρ d f j < 4 := by
  intro j hj
  rw [hG]
  unfold rU
  by_cases c : 4 * d ≤ j ∧ j < 4 * d + 4
  · rw [if_pos c, if_pos c]; exact ⟨rfl, hf _ (by omega)⟩
  · rw [if_neg c, if_neg c]; exact hR j hj
theorem rU_st {d i : Nat} {f : Nat → Nat} {F G K : Nat → Int32} (hG : ∀ j, G j = if 4 * d ≤ j ∧ j < 4 * d + i then nI (f (j - 4 * d)) else F j) (hK : ∀ j, K j = if j = d * 4 + i then nI (f i) else G j) : ∀ j, K j = if 4 * d ≤ j ∧ j < 4 * d + (i + 1) then nI (f (j - 4 * d)) else F j := by
  intro j
  rw [hK, hG]
  by_cases c : j = d * 4 + i
  · rw [if_pos c, if_pos (by omega), show j - 4 * d = i by omega]
  · rw [if_neg c]
    by_cases c2 : 4 * d ≤ j ∧ j < 4 * d + i
    · rw [if_pos c2, if_pos (by omega)]
    · rw [if_neg c2, if_neg (by omega)]
/-! ===== the class: the fault of a text ===== -/
set_option maxRecDepth 100000 in
set_option maxHeartbeats 4000000 in
theorem lp_fl {k b K : Nat} {h : ab_H} {e : eS} (hk : 4 ≤ k) (hC : at_C (ab_sh h) (ab_r h)) (hE : le_C e h) (hs9 : ab_i h 22 1 = nI K) (hK : K ≤ 12) (hbg : ∀ i, i < K → ab_i h 23 i = nI (tx_p e i 0)) (hgd : ∀ i, i < K → tx_wr e (tx_p e i 0) = none) : ∀ (j i p : Nat) (X : xS) (o5 : Option Value), i + j = K → p = tx_p e i 0 → sW X.2.2.2.2 → ab_R k b mX11_faultOfLetters 37 [some (.ref 5), some (.int (-9)), some (.int (nI (xp X))), some (.int (nI (xt X))), some (.int (nI i)), o5] [] h (ab_pi (fun v h' => v = oF (tx_go e j p X).2 ∧ h' = h)) := by
  intro j
  induction j with
  | zero =>
    intro i p X o5 hi hp hW
    refine ab_iload dX11_faultOfLetters_37 rfl ?_
    refine ab_aload_n dX11_faultOfLetters_39 rfl ?_
    refine ab_getR dX11_faultOfLetters_40 fl_X11_33 hC.hs hC.p5_3 ?_
    refine ab_getI dX11_faultOfLetters_43 fl_X11_86 hC.letters.1 hs9 ?_
    refine ab_nicmp_ge 129 dX11_faultOfLetters_46 (by decide) (by omega) (by omega) (fun c_46 => ?_) (fun c_46 => ?_)
    · skip
      refine ab_iconst (v := nI 0) dX11_faultOfLetters_129 (by decide) ?_
      refine ab_reti dX11_faultOfLetters_130 ?_
      exact ⟨rfl, rfl⟩
    · skip
      exact absurd (by omega) c_46
  | succ j ih =>
    intro i p X o5 hi hp hW
    have hw : tx_wr e p = none := by rw [hp]; exact hgd i (by omega)
    obtain ⟨-, -, w1, w2⟩ := tx_wr_none hw
    have h72 := hE.1
    refine ab_iload dX11_faultOfLetters_37 rfl ?_
    refine ab_aload_n dX11_faultOfLetters_39 rfl ?_
    refine ab_getR dX11_faultOfLetters_40 fl_X11_33 hC.hs hC.p5_3 ?_
    refine ab_getI dX11_faultOfLetters_43 fl_X11_86 hC.letters.1 hs9 ?_
    refine ab_nicmp_ge 129 dX11_faultOfLetters_46 (by decide) (by omega) (by omega) (fun c_46 => ?_) (fun c_46 => ?_)
    · skip
      exact absurd c_46 (by omega)
    · skip
      refine ab_aload_n dX11_faultOfLetters_49 rfl ?_
      refine ab_getR dX11_faultOfLetters_50 fl_X11_33 hC.hs hC.p5_3 ?_
      refine ab_getR dX11_faultOfLetters_53 fl_X11_89 hC.letters.1 hC.letters.2.1 ?_
      refine ab_iload dX11_faultOfLetters_56 rfl ?_
      refine ab_iald dX11_faultOfLetters_58 hC.letters.2.2.1 rfl (by omega) ((hbg i (by omega)).trans (by rw [← hp])) ?_
      refine ab_sti (ls' := [_, _, _, _, _, _]) dX11_faultOfLetters_59 (by decide) rfl ?_
      refine ab_aload_n dX11_faultOfLetters_61 rfl ?_
      refine ab_iload dX11_faultOfLetters_62 rfl ?_
      refine ab_iload_n dX11_faultOfLetters_64 rfl ?_
      refine ab_iload_n dX11_faultOfLetters_65 rfl ?_
      refine ab_callVb [_, _, _] dX11_faultOfLetters_66 ml_X11_362 mk_X11_canBe hC.hs (c_canBe (k := 3) (b := 0) (Nat.le_refl _) hC hE (by omega) hw hW.1 hW.2.1) (fun t hh hq => ?_)
      obtain ⟨hhe, ht⟩ := hq
      rw [hhe]
      refine ab_bif_ne 79 dX11_faultOfLetters_69 (by decide) (fun c_69 => ?_) (fun c_69 => ?_)
      · skip
        refine ab_iload_n dX11_faultOfLetters_79 rfl ?_
        refine ab_aload_n dX11_faultOfLetters_80 rfl ?_
        refine ab_getR dX11_faultOfLetters_81 fl_X11_33 hC.hs hC.p5_3 ?_
        refine ab_iload dX11_faultOfLetters_84 rfl ?_
        refine ab_callVn [_] dX11_faultOfLetters_86 ml_X11_365 mk_X4_letterAt hC.letters.1 (c_letterAt (k := 0) (b := 0) (q := p) hC.letters hE (by omega)) (fun x hh hq => ?_)
        obtain ⟨hhe, rfl⟩ := hq
        rw [hhe]
        refine ab_bipush (v := nI 112) dX11_faultOfLetters_89 (by decide) ?_
        refine ab_nicmp_ne 98 dX11_faultOfLetters_91 (by decide) (by have := eL_lt hE.2.1 p; omega) (by omega) (fun c_91 => ?_) (fun c_91 => ?_)
        · skip
          refine ab_iconst (v := nI 0) dX11_faultOfLetters_98 (by decide) ?_
          refine ab_naddR dX11_faultOfLetters_99 ?_
          refine ab_sti_n (ls' := [_, _, _, _, _, _]) dX11_faultOfLetters_100 (by decide) rfl ?_
          refine ab_iload_n dX11_faultOfLetters_101 rfl ?_
          refine ab_aload_n dX11_faultOfLetters_102 rfl ?_
          refine ab_getR dX11_faultOfLetters_103 fl_X11_33 hC.hs hC.p5_3 ?_
          refine ab_iload dX11_faultOfLetters_106 rfl ?_
          refine ab_callVn [_] dX11_faultOfLetters_108 ml_X11_365 mk_X4_letterAt hC.letters.1 (c_letterAt (k := 0) (b := 0) (q := p) hC.letters hE (by omega)) (fun x hh hq => ?_)
          obtain ⟨hhe, rfl⟩ := hq
          rw [hhe]
          refine ab_bipush (v := nI 116) dX11_faultOfLetters_111 (by decide) ?_
          refine ab_nicmp_ne 120 dX11_faultOfLetters_113 (by decide) (by have := eL_lt hE.2.1 p; omega) (by omega) (fun c_113 => ?_) (fun c_113 => ?_)
          · skip
            refine ab_iconst (v := nI 0) dX11_faultOfLetters_120 (by decide) ?_
            refine ab_naddR dX11_faultOfLetters_121 ?_
            refine ab_sti_n (ls' := [_, _, _, _, _, _]) dX11_faultOfLetters_122 (by decide) rfl ?_
            refine ab_nincR (ls' := [_, _, _, _, _, _]) dX11_faultOfLetters_123 rfl rfl ?_
            refine ab_goto 37 dX11_faultOfLetters_126 (by decide) ?_
            have g1 := tx_np2 (e := e) (p := p) (X := X)
            have g2 := tx_nt2 (X := X) hw
            first | rw [if_pos c_91] at g1 | rw [if_neg c_91] at g1
            first | rw [if_pos c_113] at g2 | rw [if_neg c_113] at g2
            rw [← g1, ← g2, tx_go_ok (ht.mp c_69)]
            exact ih (i + 1) (tx_nx e p) (tx_do e p X) _ (by omega) (by rw [tx_p_s, ← hp]) (tx_do_W hw (ht.mp c_69) hW)
          · skip
            refine ab_iconst (v := nI 1) dX11_faultOfLetters_116 (by decide) ?_
            refine ab_goto 121 dX11_faultOfLetters_117 (by decide) ?_
            refine ab_naddR dX11_faultOfLetters_121 ?_
            refine ab_sti_n (ls' := [_, _, _, _, _, _]) dX11_faultOfLetters_122 (by decide) rfl ?_
            refine ab_nincR (ls' := [_, _, _, _, _, _]) dX11_faultOfLetters_123 rfl rfl ?_
            refine ab_goto 37 dX11_faultOfLetters_126 (by decide) ?_
            have g1 := tx_np2 (e := e) (p := p) (X := X)
            have g2 := tx_nt2 (X := X) hw
            first | rw [if_pos c_91] at g1 | rw [if_neg c_91] at g1
            first | rw [if_pos c_113] at g2 | rw [if_neg c_113] at g2
            rw [← g1, ← g2, tx_go_ok (ht.mp c_69)]
            exact ih (i + 1) (tx_nx e p) (tx_do e p X) _ (by omega) (by rw [tx_p_s, ← hp]) (tx_do_W hw (ht.mp c_69) hW)
        · skip
          refine ab_iconst (v := nI 1) dX11_faultOfLetters_94 (by decide) ?_
          refine ab_goto 99 dX11_faultOfLetters_95 (by decide) ?_
          refine ab_naddR dX11_faultOfLetters_99 ?_
          refine ab_sti_n (ls' := [_, _, _, _, _, _]) dX11_faultOfLetters_100 (by decide) rfl ?_
          refine ab_iload_n dX11_faultOfLetters_101 rfl ?_
          refine ab_aload_n dX11_faultOfLetters_102 rfl ?_
          refine ab_getR dX11_faultOfLetters_103 fl_X11_33 hC.hs hC.p5_3 ?_
          refine ab_iload dX11_faultOfLetters_106 rfl ?_
          refine ab_callVn [_] dX11_faultOfLetters_108 ml_X11_365 mk_X4_letterAt hC.letters.1 (c_letterAt (k := 0) (b := 0) (q := p) hC.letters hE (by omega)) (fun x hh hq => ?_)
          obtain ⟨hhe, rfl⟩ := hq
          rw [hhe]
          refine ab_bipush (v := nI 116) dX11_faultOfLetters_111 (by decide) ?_
          refine ab_nicmp_ne 120 dX11_faultOfLetters_113 (by decide) (by have := eL_lt hE.2.1 p; omega) (by omega) (fun c_113 => ?_) (fun c_113 => ?_)
          · skip
            refine ab_iconst (v := nI 0) dX11_faultOfLetters_120 (by decide) ?_
            refine ab_naddR dX11_faultOfLetters_121 ?_
            refine ab_sti_n (ls' := [_, _, _, _, _, _]) dX11_faultOfLetters_122 (by decide) rfl ?_
            refine ab_nincR (ls' := [_, _, _, _, _, _]) dX11_faultOfLetters_123 rfl rfl ?_
            refine ab_goto 37 dX11_faultOfLetters_126 (by decide) ?_
            have g1 := tx_np2 (e := e) (p := p) (X := X)
            have g2 := tx_nt2 (X := X) hw
            first | rw [if_pos c_91] at g1 | rw [if_neg c_91] at g1
            first | rw [if_pos c_113] at g2 | rw [if_neg c_113] at g2
            rw [← g1, ← g2, tx_go_ok (ht.mp c_69)]
            exact ih (i + 1) (tx_nx e p) (tx_do e p X) _ (by omega) (by rw [tx_p_s, ← hp]) (tx_do_W hw (ht.mp c_69) hW)
          · skip
            refine ab_iconst (v := nI 1) dX11_faultOfLetters_116 (by decide) ?_
            refine ab_goto 121 dX11_faultOfLetters_117 (by decide) ?_
            refine ab_naddR dX11_faultOfLetters_121 ?_
            refine ab_sti_n (ls' := [_, _, _, _, _, _]) dX11_faultOfLetters_122 (by decide) rfl ?_
            refine ab_nincR (ls' := [_, _, _, _, _, _]) dX11_faultOfLetters_123 rfl rfl ?_
            refine ab_goto 37 dX11_faultOfLetters_126 (by decide) ?_
            have g1 := tx_np2 (e := e) (p := p) (X := X)
            have g2 := tx_nt2 (X := X) hw
            first | rw [if_pos c_91] at g1 | rw [if_neg c_91] at g1
            first | rw [if_pos c_113] at g2 | rw [if_neg c_113] at g2
            rw [← g1, ← g2, tx_go_ok (ht.mp c_69)]
            exact ih (i + 1) (tx_nx e p) (tx_do e p X) _ (by omega) (by rw [tx_p_s, ← hp]) (tx_do_W hw (ht.mp c_69) hW)
      · skip
        refine ab_sipush (v := -2000) dX11_faultOfLetters_72 (by decide) ?_
        refine ab_iload dX11_faultOfLetters_75 rfl ?_
        refine ab_isub dX11_faultOfLetters_77 ?_
        refine ab_reti dX11_faultOfLetters_78 ?_
        rw [tx_go_no (fun q => ab_tf (ht.mpr q) c_69)]
        exact ⟨rfl, rfl⟩
theorem tx_rd_w {e : eS} : ∀ (j p w : Nat), (tx_rd e j p).2 = some w → w ≤ p + 10 * j := by
  intro j
  induction j with
  | zero => intro p w h; cases h
  | succ j ih =>
    intro p w h
    cases hw : tx_wr e p with
    | some u => rw [tx_rd_some hw] at h; injection h with h; have := tx_wr_some hw; omega
    | none =>
      by_cases c : tx_nx e p < e.1
      · rw [tx_rd_go hw c] at h
        have h3 := ih _ _ h
        have h2 : tx_nx e p ≤ p + 10 := by (have := eG_le (eL e p); unfold tx_nx; omega)
        omega
      · rw [tx_rd_end hw c] at h; cases h
set_option maxRecDepth 100000 in
set_option maxHeartbeats 4000000 in
theorem c_fault {k b : Nat} {h : ab_H} {e : eS} {X : xS} (hk : 4 ≤ k) (hC : at_C (ab_sh h) (ab_r h)) (hE : le_C e h) (hS : sh_C 19 X.2.2.2.2 h) : ab_M k b mX11_faultOfLetters [.ref 5] h (ab_pi (fun v h' => ab_fr [22, 23] h h' ∧ le_C e h' ∧ (∀ w, (tx_rd e 12 0).2 = some w → v = -1000 - nI w ∧ w < 1000) ∧ ((tx_rd e 12 0).2 = none → v = oF (tx_go e (tx_rd e 12 0).1 0 X).2 ∧ ab_i h' 22 1 = nI (tx_rd e 12 0).1 ∧ ∀ i, i < (tx_rd e 12 0).1 → ab_i h' 23 i = nI (tx_p e i 0)))) := by
  cases hw : (tx_rd e 12 0).2 with
  | some w =>
    have hwb := tx_rd_w 12 0 w hw
    have h72 := hE.1
    refine ab_enter ?_
    refine ab_aload_n dX11_faultOfLetters_0 rfl ?_
    refine ab_getR dX11_faultOfLetters_1 fl_X11_33 hC.hs hC.p5_3 ?_
    refine ab_callVi [] dX11_faultOfLetters_4 ml_X11_359 mk_X4_read hC.letters.1 (c_read (k := 2) (b := 0) (Nat.le_refl _) hC.letters hE) (fun x h1 hq => ?_)
    obtain ⟨hx, f1, hE1, hr⟩ := hq
    have hC1 := hC.fr f1
    rw [hw] at hx
    have hx : x = nI w := hx
    rw [hx]
    refine ab_sti_n (ls' := [_, _, _, _, _, _]) dX11_faultOfLetters_7 (by decide) rfl ?_
    refine ab_iload_n dX11_faultOfLetters_8 rfl ?_
    refine ab_if_lt 18 dX11_faultOfLetters_9 (by decide) (fun c_9 => ?_) (fun c_9 => ?_)
    · skip
      exact absurd (ab_lt0.mp c_9) (by rw [nI_toInt (by omega)]; omega)
    · skip
      refine ab_sipush (v := -1000) dX11_faultOfLetters_12 (by decide) ?_
      refine ab_iload_n dX11_faultOfLetters_15 rfl ?_
      refine ab_isub dX11_faultOfLetters_16 ?_
      refine ab_reti dX11_faultOfLetters_17 ?_
      refine ⟨f1, hE1, fun w9 q => ?_, fun q => absurd q (by simp)⟩
      injection q with q
      rw [← q]
      exact ⟨rfl, by omega⟩
  | none =>
    refine ab_enter ?_
    refine ab_aload_n dX11_faultOfLetters_0 rfl ?_
    refine ab_getR dX11_faultOfLetters_1 fl_X11_33 hC.hs hC.p5_3 ?_
    refine ab_callVi [] dX11_faultOfLetters_4 ml_X11_359 mk_X4_read hC.letters.1 (c_read (k := 2) (b := 0) (Nat.le_refl _) hC.letters hE) (fun x h1 hq => ?_)
    obtain ⟨hx, f1, hE1, hr⟩ := hq
    have hC1 := hC.fr f1
    rw [hw] at hx
    have hx : x = -9 := hx
    rw [hx]
    refine ab_sti_n (ls' := [_, _, _, _, _, _]) dX11_faultOfLetters_7 (by decide) rfl ?_
    refine ab_iload_n dX11_faultOfLetters_8 rfl ?_
    refine ab_if_lt 18 dX11_faultOfLetters_9 (by decide) (fun c_9 => ?_) (fun c_9 => ?_)
    · skip
      refine ab_aload_n dX11_faultOfLetters_18 rfl ?_
      refine ab_getR dX11_faultOfLetters_19 fl_X11_26 hC1.hs hC1.p5_2 ?_
      refine ab_getI dX11_faultOfLetters_22 fl_X11_189 hC1.shapes.1 (show _ = nI (xp X) by rw [ab_i_fr f1 (by decide)]; exact hS.np) ?_
      refine ab_sti_n (ls' := [_, _, _, _, _, _]) dX11_faultOfLetters_25 (by decide) rfl ?_
      refine ab_aload_n dX11_faultOfLetters_26 rfl ?_
      refine ab_getR dX11_faultOfLetters_27 fl_X11_26 hC1.hs hC1.p5_2 ?_
      refine ab_getI dX11_faultOfLetters_30 fl_X11_228 hC1.shapes.1 (show _ = nI (xt X) by rw [ab_i_fr f1 (by decide)]; exact hS.nt) ?_
      refine ab_sti_n (ls' := [_, _, _, _, _, _]) dX11_faultOfLetters_33 (by decide) rfl ?_
      refine ab_iconst (v := nI 0) dX11_faultOfLetters_34 (by decide) ?_
      refine ab_sti (ls' := [_, _, _, _, _, _]) dX11_faultOfLetters_35 (by decide) rfl ?_
      obtain ⟨r1, r2⟩ := hr hw
      obtain ⟨k1, k2⟩ := tx_rd_ok (e := e) 12 0
      refine ab_mono ?_ (lp_fl hk hC1 hE1 r1 k1 r2 k2 _ 0 0 X _ (Nat.zero_add _) rfl hS.W)
      rintro v h9 ⟨x9, hx9, g1, rfl⟩
      exact ⟨x9, hx9, f1, hE1, fun w9 q => absurd q (by simp), fun _ => ⟨g1, r1, r2⟩⟩
    · skip
      exact absurd (by decide) c_9
