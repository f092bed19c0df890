/-! ===== the model's board ===== -/
def bd_cutM (n x y mx my p : Nat) (h h' : ab_H) : Prop := ab_fr [50, 52, 53, 54, 55, 56] h h' ∧ (∀ j, j ≠ 4 → ab_i h' 50 j = ab_i h 50 j) ∧ ab_i h' 50 4 = nI (p + bd_n n) ∧ bd_cellsTo n x y mx my p (ab_i h 52) (ab_i h' 52) ∧ bd_rowTo (fun P => P.1) n x y mx my p (ab_i h 53) (ab_i h' 53) ∧ bd_rowTo (fun P => P.2.1) n x y mx my p (ab_i h 54) (ab_i h' 54) ∧ bd_rowTo bd_cx n x y mx my p (ab_i h 55) (ab_i h' 55) ∧ bd_rowTo bd_cy n x y mx my p (ab_i h 56) (ab_i h' 56)
def bd_cutMI (n x y mx my p q : Nat) (h h' : ab_H) : Prop := ab_fr [50, 52, 53, 54, 55, 56] h h' ∧ (∀ j, j ≠ 4 → ab_i h' 50 j = ab_i h 50 j) ∧ ab_i h' 50 4 = nI (p + 1 + q * bd_n n) ∧ bd_cellsI n x y mx my p q (ab_i h 52) (ab_i h' 52) ∧ bd_rowI (fun P => P.1) n x y mx my p q (ab_i h 53) (ab_i h' 53) ∧ bd_rowI (fun P => P.2.1) n x y mx my p q (ab_i h 54) (ab_i h' 54) ∧ bd_rowI bd_cx n x y mx my p q (ab_i h 55) (ab_i h' 55) ∧ bd_rowI bd_cy n x y mx my p q (ab_i h 56) (ab_i h' 56)
theorem bd_cutM_0 {x y mx my p : Nat} {h : ab_H} (hm : bd_in (2 ^ 0) x y mx my) (hP : ab_i h 50 4 = nI p) : bd_cutM 0 x y mx my p h h := by
  refine ⟨ab_fr.rf h, fun _ _ => rfl, hP, ⟨fun X Y _ _ hb hne => ?_, fun _ _ _ _ _ => rfl⟩, ⟨fun i hi => absurd hi (Nat.not_lt_zero i), fun _ _ => rfl⟩, ⟨fun i hi => absurd hi (Nat.not_lt_zero i), fun _ _ => rfl⟩, ⟨fun i hi => absurd hi (Nat.not_lt_zero i), fun _ _ => rfl⟩, ⟨fun i hi => absurd hi (Nat.not_lt_zero i), fun _ _ => rfl⟩⟩
  unfold bd_in at hm hb
  simp at hm hb
  omega
theorem bd_cutMI_step {n x y mx my p q : Nat} {h h1 h2 : ab_H} (hm : bd_in (2 * 2 ^ n) x y mx my) (hq : q < 4) (H : bd_cutMI n x y mx my p q h h1) (H2 : bd_cutM n (x + q % 2 * 2 ^ n) (y + q / 2 * 2 ^ n) (bd_mx (2 ^ n) x y mx my q) (bd_my (2 ^ n) x y mx my q) (p + 1 + q * bd_n n) h1 h2) : bd_cutMI n x y mx my p (q + 1) h h2 := by
  obtain ⟨f, a0, a1, a2, a3, a4, a5, a6⟩ := H
  obtain ⟨g, b0, b1, b2, b3, b4, b5, b6⟩ := H2
  exact ⟨f.trans g (fun _ q => q), fun j hj => (b0 j hj).trans (a0 j hj), by rw [b1, Nat.succ_mul, Nat.add_assoc (p + 1)], bd_cellsI_step hm hq a2 b2, bd_rowI_step hq a3 b3, bd_rowI_step hq a4 b4, bd_rowI_step hq a5 b5, bd_rowI_step hq a6 b6⟩
theorem bd_cutMI_end {n x y mx my p : Nat} {h h1 : ab_H} (H : bd_cutMI n x y mx my p 4 h h1) : bd_cutM (n + 1) x y mx my p h h1 := by
  obtain ⟨f, a0, a1, a2, a3, a4, a5, a6⟩ := H
  exact ⟨f, a0, by rw [a1]; show nI (p + 1 + 4 * bd_n n) = nI (p + (1 + 4 * bd_n n)); rw [Nat.add_assoc], bd_cellsI_end a2, a3, a4, a5, a6⟩
/-- one piece's cells are being marked -/
def bd_marks (w l t p q : Nat) (C C' : Nat → Int32) : Prop := (∀ X Y, X < 16 → Y < 16 → bd_ownq w l t q X Y → C' (Y * 16 + X) = nI p) ∧ ∀ X Y, X < 16 → Y < 16 → ¬ bd_ownq w l t q X Y → C' (Y * 16 + X) = C (Y * 16 + X)
theorem bd_marks_0 (w l t p : Nat) (C : Nat → Int32) : bd_marks w l t p 0 C C := ⟨fun X Y _ _ h => by obtain ⟨z, hz, _⟩ := h; exact absurd hz (Nat.not_lt_zero z), fun _ _ _ _ _ => rfl⟩
theorem bd_marks_skip {w l t p q : Nat} {C C' : Nat → Int32} (hq : q = w) (H : bd_marks w l t p q C C') : bd_marks w l t p (q + 1) C C' := by
  have e : ∀ X Y, bd_ownq w l t (q + 1) X Y ↔ bd_ownq w l t q X Y := fun X Y => ⟨fun ⟨z, h1, h2, h3⟩ => ⟨z, by omega, h2, h3⟩, fun ⟨z, h1, h2, h3⟩ => ⟨z, by omega, h2, h3⟩⟩
  exact ⟨fun X Y hX hY ho => H.1 X Y hX hY ((e X Y).mp ho), fun X Y hX hY ho => H.2 X Y hX hY (fun z => ho ((e X Y).mpr z))⟩
theorem bd_marks_put {w l t p q j : Nat} {C C' : Nat → Int32} (hq : ¬ q = w) (hl : l + q % 2 < 16) (hj : j = (t + q / 2) * 16 + (l + q % 2)) (H : bd_marks w l t p q C C') : bd_marks w l t p (q + 1) C (ab_up C' j (nI p)) := by
  subst hj
  refine ⟨fun X Y hX hY ho => ?_, fun X Y hX hY ho => ?_⟩
  · rw [ab_up_at]
    by_cases e : Y * 16 + X = (t + q / 2) * 16 + (l + q % 2)
    · rw [if_pos e]
    · rw [if_neg e]
      refine H.1 X Y hX hY ?_
      obtain ⟨z, z1, z2, z3, z4⟩ := ho
      by_cases ez : z = q
      · subst ez; exact absurd (by rw [z3, z4]) e
      · exact ⟨z, by omega, z2, z3, z4⟩
  · rw [ab_up_at, if_neg]
    · exact H.2 X Y hX hY (fun ⟨z, z1, z2⟩ => ho ⟨z, by omega, z2⟩)
    · intro e
      refine ho ⟨q, by omega, hq, ?_, ?_⟩
      · generalize t + q / 2 = T at e; generalize l + q % 2 = L at e hl ⊢; omega
      · generalize t + q / 2 = T at e ⊢; generalize l + q % 2 = L at e hl; omega
set_option maxRecDepth 100000 in
set_option maxHeartbeats 4000000 in
theorem m_side {k b n : Nat} {h : ab_H} (hM : at_M (ab_sh h) (ab_r h)) (hN : ab_i h 50 1 = nI n) (hn : n ≤ 4) : ab_M k b mX12_side [.ref 50] h (ab_pn (fun v h' => h' = h ∧ v = 2 ^ n)) := by
  refine ab_enter ?_
  refine ab_iconst (v := nI 1) dX12_side_0 (by decide) ?_
  refine ab_aload_n dX12_side_1 rfl ?_
  refine ab_getI dX12_side_2 fl_X12_29 hM.hs hN ?_
  refine ab_nshlR dX12_side_5 (by omega) ?_
  rw [ab_1shl]
  refine ab_retn dX12_side_6 ?_
  exact ⟨rfl, rfl⟩
theorem bd_side64 : ∀ n, n ≤ 4 → (nI (2 ^ n - 1)).toInt64.toInt = ((2 ^ n : Nat) : Int) - 1 := by decide
set_option maxRecDepth 100000 in
set_option maxHeartbeats 4000000 in
theorem m_isCell {k b n : Nat} {h : ab_H} {x y : Int32} (hk : 1 ≤ k) (hM : at_M (ab_sh h) (ab_r h)) (hN : ab_i h 50 1 = nI n) (hn : n ≤ 4) : ab_M k b mX12_isCell [.ref 50, .int x, .int y] h (ab_pb (fun t h' => h' = h ∧ t = bd_isc n x y)) := by
  refine ab_enter ?_
  refine ab_iload_n dX12_isCell_0 rfl ?_
  refine ab_i2l dX12_isCell_1 ?_
  refine ab_lconst (v := 0) dX12_isCell_2 (by decide) ?_
  refine ab_aload_n dX12_isCell_3 rfl ?_
  refine ab_callVn [] dX12_isCell_4 ml_X12_119 mk_X12_side hM.hs (m_side (k := 0) (b := 0) hM hN hn) (fun x h1 hq => ?_)
  obtain ⟨hhe, rfl⟩ := hq
  rw [hhe]
  refine ab_iconst (v := nI 1) dX12_isCell_7 (by decide) ?_
  refine ab_nsubR dX12_isCell_8 (bd_pos n) ?_
  refine ab_i2l dX12_isCell_9 ?_
  refine ab_callSb [_, _, _] dX12_isCell_10 ml_X12_123 mk_X12_isIn (m_isIn (k := 0) (b := 0) (Int32.toInt_toInt64 _) (lo := 0) (by decide) (bd_side64 n hn)) (fun t1 hh_t1 hq_t1 => ?_)
  obtain ⟨hhe_t1, rfl⟩ := hq_t1
  rw [hhe_t1]
  refine ab_bif_eq 36 dX12_isCell_13 (by decide) (fun c_13 => ?_) (fun c_13 => ?_)
  · skip
    refine ab_iconst (v := nI 0) dX12_isCell_36 (by decide) ?_
    refine ab_retb (x := false) dX12_isCell_37 ?_
    first | exact ⟨rfl, by unfold bd_isc ab_inr; rw [c_13, c_29]; rfl⟩ | exact ⟨rfl, by unfold bd_isc ab_inr; rw [c_13, c_29]; rfl⟩ | exact ⟨rfl, by unfold bd_isc ab_inr; rw [c_13, Bool.false_and]⟩
  · skip
    refine ab_iload_n dX12_isCell_16 rfl ?_
    refine ab_i2l dX12_isCell_17 ?_
    refine ab_lconst (v := 0) dX12_isCell_18 (by decide) ?_
    refine ab_aload_n dX12_isCell_19 rfl ?_
    refine ab_callVn [] dX12_isCell_20 ml_X12_119 mk_X12_side hM.hs (m_side (k := 0) (b := 0) hM hN hn) (fun x h1 hq => ?_)
    obtain ⟨hhe, rfl⟩ := hq
    rw [hhe]
    refine ab_iconst (v := nI 1) dX12_isCell_23 (by decide) ?_
    refine ab_nsubR dX12_isCell_24 (bd_pos n) ?_
    refine ab_i2l dX12_isCell_25 ?_
    refine ab_callSb [_, _, _] dX12_isCell_26 ml_X12_123 mk_X12_isIn (m_isIn (k := 0) (b := 0) (Int32.toInt_toInt64 _) (lo := 0) (by decide) (bd_side64 n hn)) (fun t2 hh_t2 hq_t2 => ?_)
    obtain ⟨hhe_t2, rfl⟩ := hq_t2
    rw [hhe_t2]
    refine ab_bif_eq 36 dX12_isCell_29 (by decide) (fun c_29 => ?_) (fun c_29 => ?_)
    · skip
      refine ab_iconst (v := nI 0) dX12_isCell_36 (by decide) ?_
      refine ab_retb (x := false) dX12_isCell_37 ?_
      first | exact ⟨rfl, by unfold bd_isc ab_inr; rw [c_13, c_29]; rfl⟩ | exact ⟨rfl, by unfold bd_isc ab_inr; rw [c_13, c_29]; rfl⟩ | exact ⟨rfl, by unfold bd_isc ab_inr; rw [c_13, Bool.false_and]⟩
    · skip
      refine ab_iconst (v := nI 1) dX12_isCell_32 (by decide) ?_
      refine ab_goto 37 dX12_isCell_33 (by decide) ?_
      refine ab_retb (x := true) dX12_isCell_37 ?_
      first | exact ⟨rfl, by unfold bd_isc ab_inr; rw [c_13, c_29]; rfl⟩ | exact ⟨rfl, by unfold bd_isc ab_inr; rw [c_13, c_29]; rfl⟩ | exact ⟨rfl, by unfold bd_isc ab_inr; rw [c_13, Bool.false_and]⟩
def bd_cutMP (n : Nat) : Prop := ∀ {k b x y mx my p : Nat} {h : ab_H} (hk : n ≤ k) (hM : at_M (ab_sh h) (ab_r h)) (hP : ab_i h 50 4 = nI p) (hnN : n ≤ 4) (hx : x + 2 ^ n ≤ 16) (hy : y + 2 ^ n ≤ 16) (hm : bd_in (2 ^ n) x y mx my) (hp : p + bd_n n ≤ 85), ab_M k b mX12_cuts [.ref 50, .int (nI x), .int (nI y), .int (nI (2 ^ n)), .int (nI mx), .int (nI my)] h (ab_pv (bd_cutM n x y mx my p h))
set_option maxRecDepth 100000 in
set_option maxHeartbeats 4000000 in
theorem lp_mCut {n : Nat} (ih : bd_cutMP n) {k b x y mx my p : Nat} {h : ab_H} (hk : n + 1 ≤ k) (hM : at_M (ab_sh h) (ab_r h)) (hP : ab_i h 50 4 = nI p) (hnN : (n + 1) ≤ 4) (hx : x + 2 ^ (n + 1) ≤ 16) (hy : y + 2 ^ (n + 1) ≤ 16) (hm : bd_in (2 ^ (n + 1)) x y mx my) (hp : p + bd_n (n + 1) ≤ 85) : ∀ (j q : Nat) (a10 : Option Value) (h1 : ab_H), q + j = 4 → bd_cutMI n x y mx my p q h h1 → ab_R k b mX12_cuts 173 [some (.ref 50), some (.int (nI x)), some (.int (nI y)), some (.int (nI (2 * 2 ^ n))), some (.int (nI mx)), some (.int (nI my)), some (.int (nI (2 ^ n))), some (.int (nI (bd_q (2 ^ n) x y mx my))), some (.int (nI p)), some (.int (nI q)), a10] [] h1 (ab_pv (bd_cutM (n + 1) x y mx my p h)) := by
  intro j
  induction j with
  | zero =>
    intro q a10 h1 hq H
    have hM1 := at_M.fr H.1 hM
    obtain rfl : q = 4 := by omega
    have hps := bd_pow_succ n
    have hpo := bd_pos n
    have hbn : bd_n (n + 1) = 1 + 4 * bd_n n := rfl
    have hq4 := bd_q_lt (2 ^ n) x y mx my
    unfold bd_in at hm
    have hmB : mx < 16 ∧ my < 16 := by omega
    refine ab_iload dX12_cuts_173 rfl ?_
    refine ab_iconst (v := nI 4) dX12_cuts_175 (by decide) ?_
    refine ab_nicmp_ge 265 dX12_cuts_176 (by decide) (by omega) (by omega) (fun c_176 => ?_) (fun c_176 => ?_)
    · skip
      refine ab_retv dX12_cuts_265 ?_
      exact bd_cutMI_end H
    · skip
      exact absurd (by omega) c_176
  | succ j ih2 =>
    intro q a10 h1 hq9 H
    have hM1 := at_M.fr H.1 hM
    have hps := bd_pow_succ n
    have hpo := bd_pos n
    have hbn : bd_n (n + 1) = 1 + 4 * bd_n n := rfl
    have hq4 := bd_q_lt (2 ^ n) x y mx my
    unfold bd_in at hm
    have hmB : mx < 16 ∧ my < 16 := by omega
    have m1 : q % 2 * 2 ^ n ≤ 1 * 2 ^ n := Nat.mul_le_mul_right _ (by omega)
    have m2 : q / 2 * 2 ^ n ≤ 1 * 2 ^ n := Nat.mul_le_mul_right _ (by omega)
    have m3 : q * bd_n n ≤ 3 * bd_n n := Nat.mul_le_mul_right _ (by omega)
    refine ab_iload dX12_cuts_173 rfl ?_
    refine ab_iconst (v := nI 4) dX12_cuts_175 (by decide) ?_
    refine ab_nicmp_ge 265 dX12_cuts_176 (by decide) (by omega) (by omega) (fun c_176 => ?_) (fun c_176 => ?_)
    · skip
      exact absurd c_176 (by omega)
    · skip
      refine ab_iload dX12_cuts_179 rfl ?_
      refine ab_iload dX12_cuts_181 rfl ?_
      refine ab_nicmp_ne 190 dX12_cuts_183 (by decide) (by omega) (by omega) (fun c_183 => ?_) (fun c_183 => ?_)
      · skip
        refine ab_iconst (v := nI 0) dX12_cuts_190 (by decide) ?_
        refine ab_sti (ls' := [_, _, _, _, _, _, _, _, _, _, _]) dX12_cuts_191 (by decide) rfl ?_
        refine ab_aload_n dX12_cuts_193 rfl ?_
        refine ab_iload_n dX12_cuts_194 rfl ?_
        refine ab_iload dX12_cuts_195 rfl ?_
        refine ab_iload dX12_cuts_197 rfl ?_
        refine ab_iconst (v := nI 2) dX12_cuts_199 (by decide) ?_
        refine ab_nremR dX12_cuts_200 (by omega) (by decide) (by decide) ?_
        refine ab_nmulR dX12_cuts_201 ?_
        refine ab_naddR dX12_cuts_202 ?_
        rw [Nat.mul_comm (2 ^ n)]
        refine ab_iload_n dX12_cuts_203 rfl ?_
        refine ab_iload dX12_cuts_204 rfl ?_
        refine ab_iload dX12_cuts_206 rfl ?_
        refine ab_iconst (v := nI 2) dX12_cuts_208 (by decide) ?_
        refine ab_ndivR dX12_cuts_209 (by omega) (by decide) (by decide) ?_
        refine ab_nmulR dX12_cuts_210 ?_
        refine ab_naddR dX12_cuts_211 ?_
        rw [Nat.mul_comm (2 ^ n)]
        refine ab_iload dX12_cuts_212 rfl ?_
        refine ab_iload dX12_cuts_214 rfl ?_
        refine ab_nif_eq 224 dX12_cuts_216 (by decide) (by omega) (fun c_216 => ?_) (fun c_216 => ?_)
        · skip
          refine ab_iload_n dX12_cuts_224 rfl ?_
          refine ab_iload dX12_cuts_225 rfl ?_
          refine ab_naddR dX12_cuts_227 ?_
          refine ab_iconst (v := nI 1) dX12_cuts_228 (by decide) ?_
          refine ab_nsubR dX12_cuts_229 (by omega) ?_
          refine ab_iload dX12_cuts_230 rfl ?_
          refine ab_iconst (v := nI 2) dX12_cuts_232 (by decide) ?_
          refine ab_nremR dX12_cuts_233 (by omega) (by decide) (by decide) ?_
          refine ab_naddR dX12_cuts_234 ?_
          refine ab_topI (y := nI (bd_mx (2 ^ n) x y mx my q)) (by unfold bd_mx; first | (exfalso; omega) | rw [if_pos (by omega)] | rw [if_neg (by omega)]) ?_
          refine ab_iload dX12_cuts_235 rfl ?_
          refine ab_nif_eq 245 dX12_cuts_237 (by decide) (by omega) (fun c_237 => ?_) (fun c_237 => ?_)
          · skip
            refine ab_iload_n dX12_cuts_245 rfl ?_
            refine ab_iload dX12_cuts_246 rfl ?_
            refine ab_naddR dX12_cuts_248 ?_
            refine ab_iconst (v := nI 1) dX12_cuts_249 (by decide) ?_
            refine ab_nsubR dX12_cuts_250 (by omega) ?_
            refine ab_iload dX12_cuts_251 rfl ?_
            refine ab_iconst (v := nI 2) dX12_cuts_253 (by decide) ?_
            refine ab_ndivR dX12_cuts_254 (by omega) (by decide) (by decide) ?_
            refine ab_naddR dX12_cuts_255 ?_
            refine ab_topI (y := nI (bd_my (2 ^ n) x y mx my q)) (by unfold bd_my; first | (exfalso; omega) | rw [if_pos (by omega)] | rw [if_neg (by omega)]) ?_
            refine ab_callVv [_, _, _, _, _] dX12_cuts_256 ml_X12_136 mk_X12_cuts hM1.hs (ih (k := n) (b := 0) (p := p + 1 + q * bd_n n) (Nat.le_refl _) hM1 H.2.2.1 (by omega) (by omega) (by omega) (bd_m_in hpo (by omega) (by rw [← hps]; exact hm)) (by omega)) (fun h2 hq => ?_)
            refine ab_nincR (ls' := [_, _, _, _, _, _, _, _, _, _, _]) dX12_cuts_259 rfl rfl ?_
            refine ab_goto 173 dX12_cuts_262 (by decide) ?_
            exact ih2 (q + 1) _ _ (by omega) (bd_cutMI_step (by rw [← hps]; exact hm) (by omega) H hq)
          · skip
            refine ab_iload dX12_cuts_240 rfl ?_
            refine ab_goto 256 dX12_cuts_242 (by decide) ?_
            refine ab_topI (y := nI (bd_my (2 ^ n) x y mx my q)) (by unfold bd_my; first | (exfalso; omega) | rw [if_pos (by omega)] | rw [if_neg (by omega)]) ?_
            refine ab_callVv [_, _, _, _, _] dX12_cuts_256 ml_X12_136 mk_X12_cuts hM1.hs (ih (k := n) (b := 0) (p := p + 1 + q * bd_n n) (Nat.le_refl _) hM1 H.2.2.1 (by omega) (by omega) (by omega) (bd_m_in hpo (by omega) (by rw [← hps]; exact hm)) (by omega)) (fun h2 hq => ?_)
            refine ab_nincR (ls' := [_, _, _, _, _, _, _, _, _, _, _]) dX12_cuts_259 rfl rfl ?_
            refine ab_goto 173 dX12_cuts_262 (by decide) ?_
            exact ih2 (q + 1) _ _ (by omega) (bd_cutMI_step (by rw [← hps]; exact hm) (by omega) H hq)
        · skip
          refine ab_iload dX12_cuts_219 rfl ?_
          refine ab_goto 235 dX12_cuts_221 (by decide) ?_
          refine ab_topI (y := nI (bd_mx (2 ^ n) x y mx my q)) (by unfold bd_mx; first | (exfalso; omega) | rw [if_pos (by omega)] | rw [if_neg (by omega)]) ?_
          refine ab_iload dX12_cuts_235 rfl ?_
          refine ab_nif_eq 245 dX12_cuts_237 (by decide) (by omega) (fun c_237 => ?_) (fun c_237 => ?_)
          · skip
            refine ab_iload_n dX12_cuts_245 rfl ?_
            refine ab_iload dX12_cuts_246 rfl ?_
            refine ab_naddR dX12_cuts_248 ?_
            refine ab_iconst (v := nI 1) dX12_cuts_249 (by decide) ?_
            refine ab_nsubR dX12_cuts_250 (by omega) ?_
            refine ab_iload dX12_cuts_251 rfl ?_
            refine ab_iconst (v := nI 2) dX12_cuts_253 (by decide) ?_
            refine ab_ndivR dX12_cuts_254 (by omega) (by decide) (by decide) ?_
            refine ab_naddR dX12_cuts_255 ?_
            refine ab_topI (y := nI (bd_my (2 ^ n) x y mx my q)) (by unfold bd_my; first | (exfalso; omega) | rw [if_pos (by omega)] | rw [if_neg (by omega)]) ?_
            refine ab_callVv [_, _, _, _, _] dX12_cuts_256 ml_X12_136 mk_X12_cuts hM1.hs (ih (k := n) (b := 0) (p := p + 1 + q * bd_n n) (Nat.le_refl _) hM1 H.2.2.1 (by omega) (by omega) (by omega) (bd_m_in hpo (by omega) (by rw [← hps]; exact hm)) (by omega)) (fun h2 hq => ?_)
            refine ab_nincR (ls' := [_, _, _, _, _, _, _, _, _, _, _]) dX12_cuts_259 rfl rfl ?_
            refine ab_goto 173 dX12_cuts_262 (by decide) ?_
            exact ih2 (q + 1) _ _ (by omega) (bd_cutMI_step (by rw [← hps]; exact hm) (by omega) H hq)
          · skip
            refine ab_iload dX12_cuts_240 rfl ?_
            refine ab_goto 256 dX12_cuts_242 (by decide) ?_
            refine ab_topI (y := nI (bd_my (2 ^ n) x y mx my q)) (by unfold bd_my; first | (exfalso; omega) | rw [if_pos (by omega)] | rw [if_neg (by omega)]) ?_
            refine ab_callVv [_, _, _, _, _] dX12_cuts_256 ml_X12_136 mk_X12_cuts hM1.hs (ih (k := n) (b := 0) (p := p + 1 + q * bd_n n) (Nat.le_refl _) hM1 H.2.2.1 (by omega) (by omega) (by omega) (bd_m_in hpo (by omega) (by rw [← hps]; exact hm)) (by omega)) (fun h2 hq => ?_)
            refine ab_nincR (ls' := [_, _, _, _, _, _, _, _, _, _, _]) dX12_cuts_259 rfl rfl ?_
            refine ab_goto 173 dX12_cuts_262 (by decide) ?_
            exact ih2 (q + 1) _ _ (by omega) (bd_cutMI_step (by rw [← hps]; exact hm) (by omega) H hq)
      · skip
        refine ab_iconst (v := nI 1) dX12_cuts_186 (by decide) ?_
        refine ab_goto 191 dX12_cuts_187 (by decide) ?_
        refine ab_sti (ls' := [_, _, _, _, _, _, _, _, _, _, _]) dX12_cuts_191 (by decide) rfl ?_
        refine ab_aload_n dX12_cuts_193 rfl ?_
        refine ab_iload_n dX12_cuts_194 rfl ?_
        refine ab_iload dX12_cuts_195 rfl ?_
        refine ab_iload dX12_cuts_197 rfl ?_
        refine ab_iconst (v := nI 2) dX12_cuts_199 (by decide) ?_
        refine ab_nremR dX12_cuts_200 (by omega) (by decide) (by decide) ?_
        refine ab_nmulR dX12_cuts_201 ?_
        refine ab_naddR dX12_cuts_202 ?_
        rw [Nat.mul_comm (2 ^ n)]
        refine ab_iload_n dX12_cuts_203 rfl ?_
        refine ab_iload dX12_cuts_204 rfl ?_
        refine ab_iload dX12_cuts_206 rfl ?_
        refine ab_iconst (v := nI 2) dX12_cuts_208 (by decide) ?_
        refine ab_ndivR dX12_cuts_209 (by omega) (by decide) (by decide) ?_
        refine ab_nmulR dX12_cuts_210 ?_
        refine ab_naddR dX12_cuts_211 ?_
        rw [Nat.mul_comm (2 ^ n)]
        refine ab_iload dX12_cuts_212 rfl ?_
        refine ab_iload dX12_cuts_214 rfl ?_
        refine ab_nif_eq 224 dX12_cuts_216 (by decide) (by omega) (fun c_216 => ?_) (fun c_216 => ?_)
        · skip
          refine ab_iload_n dX12_cuts_224 rfl ?_
          refine ab_iload dX12_cuts_225 rfl ?_
          refine ab_naddR dX12_cuts_227 ?_
          refine ab_iconst (v := nI 1) dX12_cuts_228 (by decide) ?_
          refine ab_nsubR dX12_cuts_229 (by omega) ?_
          refine ab_iload dX12_cuts_230 rfl ?_
          refine ab_iconst (v := nI 2) dX12_cuts_232 (by decide) ?_
          refine ab_nremR dX12_cuts_233 (by omega) (by decide) (by decide) ?_
          refine ab_naddR dX12_cuts_234 ?_
          refine ab_topI (y := nI (bd_mx (2 ^ n) x y mx my q)) (by unfold bd_mx; first | (exfalso; omega) | rw [if_pos (by omega)] | rw [if_neg (by omega)]) ?_
          refine ab_iload dX12_cuts_235 rfl ?_
          refine ab_nif_eq 245 dX12_cuts_237 (by decide) (by omega) (fun c_237 => ?_) (fun c_237 => ?_)
          · skip
            refine ab_iload_n dX12_cuts_245 rfl ?_
            refine ab_iload dX12_cuts_246 rfl ?_
            refine ab_naddR dX12_cuts_248 ?_
            refine ab_iconst (v := nI 1) dX12_cuts_249 (by decide) ?_
            refine ab_nsubR dX12_cuts_250 (by omega) ?_
            refine ab_iload dX12_cuts_251 rfl ?_
            refine ab_iconst (v := nI 2) dX12_cuts_253 (by decide) ?_
            refine ab_ndivR dX12_cuts_254 (by omega) (by decide) (by decide) ?_
            refine ab_naddR dX12_cuts_255 ?_
            refine ab_topI (y := nI (bd_my (2 ^ n) x y mx my q)) (by unfold bd_my; first | (exfalso; omega) | rw [if_pos (by omega)] | rw [if_neg (by omega)]) ?_
            refine ab_callVv [_, _, _, _, _] dX12_cuts_256 ml_X12_136 mk_X12_cuts hM1.hs (ih (k := n) (b := 0) (p := p + 1 + q * bd_n n) (Nat.le_refl _) hM1 H.2.2.1 (by omega) (by omega) (by omega) (bd_m_in hpo (by omega) (by rw [← hps]; exact hm)) (by omega)) (fun h2 hq => ?_)
            refine ab_nincR (ls' := [_, _, _, _, _, _, _, _, _, _, _]) dX12_cuts_259 rfl rfl ?_
            refine ab_goto 173 dX12_cuts_262 (by decide) ?_
            exact ih2 (q + 1) _ _ (by omega) (bd_cutMI_step (by rw [← hps]; exact hm) (by omega) H hq)
          · skip
            refine ab_iload dX12_cuts_240 rfl ?_
            refine ab_goto 256 dX12_cuts_242 (by decide) ?_
            refine ab_topI (y := nI (bd_my (2 ^ n) x y mx my q)) (by unfold bd_my; first | (exfalso; omega) | rw [if_pos (by omega)] | rw [if_neg (by omega)]) ?_
            refine ab_callVv [_, _, _, _, _] dX12_cuts_256 ml_X12_136 mk_X12_cuts hM1.hs (ih (k := n) (b := 0) (p := p + 1 + q * bd_n n) (Nat.le_refl _) hM1 H.2.2.1 (by omega) (by omega) (by omega) (bd_m_in hpo (by omega) (by rw [← hps]; exact hm)) (by omega)) (fun h2 hq => ?_)
            refine ab_nincR (ls' := [_, _, _, _, _, _, _, _, _, _, _]) dX12_cuts_259 rfl rfl ?_
            refine ab_goto 173 dX12_cuts_262 (by decide) ?_
            exact ih2 (q + 1) _ _ (by omega) (bd_cutMI_step (by rw [← hps]; exact hm) (by omega) H hq)
        · skip
          refine ab_iload dX12_cuts_219 rfl ?_
          refine ab_goto 235 dX12_cuts_221 (by decide) ?_
          refine ab_topI (y := nI (bd_mx (2 ^ n) x y mx my q)) (by unfold bd_mx; first | (exfalso; omega) | rw [if_pos (by omega)] | rw [if_neg (by omega)]) ?_
          refine ab_iload dX12_cuts_235 rfl ?_
          refine ab_nif_eq 245 dX12_cuts_237 (by decide) (by omega) (fun c_237 => ?_) (fun c_237 => ?_)
          · skip
            refine ab_iload_n dX12_cuts_245 rfl ?_
            refine ab_iload dX12_cuts_246 rfl ?_
            refine ab_naddR dX12_cuts_248 ?_
            refine ab_iconst (v := nI 1) dX12_cuts_249 (by decide) ?_
            refine ab_nsubR dX12_cuts_250 (by omega) ?_
            refine ab_iload dX12_cuts_251 rfl ?_
            refine ab_iconst (v := nI 2) dX12_cuts_253 (by decide) ?_
            refine ab_ndivR dX12_cuts_254 (by omega) (by decide) (by decide) ?_
            refine ab_naddR dX12_cuts_255 ?_
            refine ab_topI (y := nI (bd_my (2 ^ n) x y mx my q)) (by unfold bd_my; first | (exfalso; omega) | rw [if_pos (by omega)] | rw [if_neg (by omega)]) ?_
            refine ab_callVv [_, _, _, _, _] dX12_cuts_256 ml_X12_136 mk_X12_cuts hM1.hs (ih (k := n) (b := 0) (p := p + 1 + q * bd_n n) (Nat.le_refl _) hM1 H.2.2.1 (by omega) (by omega) (by omega) (bd_m_in hpo (by omega) (by rw [← hps]; exact hm)) (by omega)) (fun h2 hq => ?_)
            refine ab_nincR (ls' := [_, _, _, _, _, _, _, _, _, _, _]) dX12_cuts_259 rfl rfl ?_
            refine ab_goto 173 dX12_cuts_262 (by decide) ?_
            exact ih2 (q + 1) _ _ (by omega) (bd_cutMI_step (by rw [← hps]; exact hm) (by omega) H hq)
          · skip
            refine ab_iload dX12_cuts_240 rfl ?_
            refine ab_goto 256 dX12_cuts_242 (by decide) ?_
            refine ab_topI (y := nI (bd_my (2 ^ n) x y mx my q)) (by unfold bd_my; first | (exfalso; omega) | rw [if_pos (by omega)] | rw [if_neg (by omega)]) ?_
            refine ab_callVv [_, _, _, _, _] dX12_cuts_256 ml_X12_136 mk_X12_cuts hM1.hs (ih (k := n) (b := 0) (p := p + 1 + q * bd_n n) (Nat.le_refl _) hM1 H.2.2.1 (by omega) (by omega) (by omega) (bd_m_in hpo (by omega) (by rw [← hps]; exact hm)) (by omega)) (fun h2 hq => ?_)
            refine ab_nincR (ls' := [_, _, _, _, _, _, _, _, _, _, _]) dX12_cuts_259 rfl rfl ?_
            refine ab_goto 173 dX12_cuts_262 (by decide) ?_
            exact ih2 (q + 1) _ _ (by omega) (bd_cutMI_step (by rw [← hps]; exact hm) (by omega) H hq)
set_option maxRecDepth 100000 in
set_option maxHeartbeats 4000000 in
theorem lp_mMark {n : Nat} {k b x y mx my p : Nat} {h : ab_H} {post : Value → ab_H → Prop} (hM : at_M (ab_sh h) (ab_r h)) (hnN : (n + 1) ≤ 4) (hx : x + 2 ^ (n + 1) ≤ 16) (hy : y + 2 ^ (n + 1) ≤ 16) (hm : bd_in (2 ^ (n + 1)) x y mx my) (hp : p + bd_n (n + 1) ≤ 85) (cont : ∀ h1, ab_fr [52] h h1 → bd_marks (bd_q (2 ^ n) x y mx my) (x + 2 ^ n - 1) (y + 2 ^ n - 1) p 4 (ab_i h 52) (ab_i h1 52) → ab_R k b mX12_cuts 173 [some (.ref 50), some (.int (nI x)), some (.int (nI y)), some (.int (nI (2 * 2 ^ n))), some (.int (nI mx)), some (.int (nI my)), some (.int (nI (2 ^ n))), some (.int (nI (bd_q (2 ^ n) x y mx my))), some (.int (nI p)), some (.int (nI 0)), none] [] h1 post) : ∀ (j q : Nat) (h1 : ab_H), q + j = 4 → ab_fr [52] h h1 → bd_marks (bd_q (2 ^ n) x y mx my) (x + 2 ^ n - 1) (y + 2 ^ n - 1) p q (ab_i h 52) (ab_i h1 52) → ab_R k b mX12_cuts 118 [some (.ref 50), some (.int (nI x)), some (.int (nI y)), some (.int (nI (2 * 2 ^ n))), some (.int (nI mx)), some (.int (nI my)), some (.int (nI (2 ^ n))), some (.int (nI (bd_q (2 ^ n) x y mx my))), some (.int (nI p)), some (.int (nI q)), none] [] h1 post := by
  intro j
  induction j with
  | zero =>
    intro q h1 hq f H
    have hM1 := at_M.fr f hM
    obtain rfl : q = 4 := by omega
    have hps := bd_pow_succ n
    have hpo := bd_pos n
    have hbn : bd_n (n + 1) = 1 + 4 * bd_n n := rfl
    have hq4 := bd_q_lt (2 ^ n) x y mx my
    unfold bd_in at hm
    have hmB : mx < 16 ∧ my < 16 := by omega
    refine ab_iload dX12_cuts_118 rfl ?_
    refine ab_iconst (v := nI 4) dX12_cuts_120 (by decide) ?_
    refine ab_nicmp_ge 170 dX12_cuts_121 (by decide) (by omega) (by omega) (fun c_121 => ?_) (fun c_121 => ?_)
    · skip
      refine ab_iconst (v := nI 0) dX12_cuts_170 (by decide) ?_
      refine ab_sti (ls' := [_, _, _, _, _, _, _, _, _, _, _]) dX12_cuts_171 (by decide) rfl ?_
      exact cont h1 f H
    · skip
      exact absurd (by omega) c_121
  | succ j ih2 =>
    intro q h1 hq9 f H
    have hM1 := at_M.fr f hM
    have hps := bd_pow_succ n
    have hpo := bd_pos n
    have hbn : bd_n (n + 1) = 1 + 4 * bd_n n := rfl
    have hq4 := bd_q_lt (2 ^ n) x y mx my
    unfold bd_in at hm
    have hmB : mx < 16 ∧ my < 16 := by omega
    refine ab_iload dX12_cuts_118 rfl ?_
    refine ab_iconst (v := nI 4) dX12_cuts_120 (by decide) ?_
    refine ab_nicmp_ge 170 dX12_cuts_121 (by decide) (by omega) (by omega) (fun c_121 => ?_) (fun c_121 => ?_)
    · skip
      exact absurd c_121 (by omega)
    · skip
      refine ab_iload dX12_cuts_124 rfl ?_
      refine ab_iload dX12_cuts_126 rfl ?_
      refine ab_nicmp_eq 164 dX12_cuts_128 (by decide) (by omega) (by omega) (fun c_128 => ?_) (fun c_128 => ?_)
      · skip
        refine ab_nincR (ls' := [_, _, _, _, _, _, _, _, _, _, _]) dX12_cuts_164 rfl rfl ?_
        refine ab_goto 118 dX12_cuts_167 (by decide) ?_
        first | exact ih2 (q + 1) _ (by omega) (f.si _ _ _ (by simp)) (bd_marks_put c_128 (by omega) (by omega) H) | exact ih2 (q + 1) _ (by omega) f (bd_marks_skip c_128 H)
      · skip
        refine ab_aload_n dX12_cuts_131 rfl ?_
        refine ab_getR dX12_cuts_132 fl_X12_33 hM1.hs hM1.p50_5 ?_
        refine ab_bipush (v := nI 16) dX12_cuts_135 (by decide) ?_
        refine ab_iload_n dX12_cuts_137 rfl ?_
        refine ab_iload dX12_cuts_138 rfl ?_
        refine ab_naddR dX12_cuts_140 ?_
        refine ab_iconst (v := nI 1) dX12_cuts_141 (by decide) ?_
        refine ab_nsubR dX12_cuts_142 (by omega) ?_
        refine ab_iload dX12_cuts_143 rfl ?_
        refine ab_iconst (v := nI 2) dX12_cuts_145 (by decide) ?_
        refine ab_ndivR dX12_cuts_146 (by omega) (by decide) (by decide) ?_
        refine ab_naddR dX12_cuts_147 ?_
        refine ab_nmulR dX12_cuts_148 ?_
        refine ab_iload_n dX12_cuts_149 rfl ?_
        refine ab_naddR dX12_cuts_150 ?_
        refine ab_iload dX12_cuts_151 rfl ?_
        refine ab_naddR dX12_cuts_153 ?_
        refine ab_iconst (v := nI 1) dX12_cuts_154 (by decide) ?_
        refine ab_nsubR dX12_cuts_155 (by omega) ?_
        refine ab_iload dX12_cuts_156 rfl ?_
        refine ab_iconst (v := nI 2) dX12_cuts_158 (by decide) ?_
        refine ab_nremR dX12_cuts_159 (by omega) (by decide) (by decide) ?_
        refine ab_naddR dX12_cuts_160 ?_
        refine ab_iload dX12_cuts_161 rfl ?_
        refine ab_iast dX12_cuts_163 hM1.s52 rfl (by omega) ?_
        refine ab_nincR (ls' := [_, _, _, _, _, _, _, _, _, _, _]) dX12_cuts_164 rfl rfl ?_
        refine ab_goto 118 dX12_cuts_167 (by decide) ?_
        first | exact ih2 (q + 1) _ (by omega) (f.si _ _ _ (by simp)) (bd_marks_put c_128 (by omega) (by omega) H) | exact ih2 (q + 1) _ (by omega) f (bd_marks_skip c_128 H)
theorem bd_cutMI_0 {n x y mx my p : Nat} {h h1 : ab_H} (hm : bd_in (2 * 2 ^ n) x y mx my) (f : ab_fr [52] (ab_si (ab_si (ab_si (ab_si (ab_si h 50 4 (nI (p + 1))) 53 p (nI (bd_q (2 ^ n) x y mx my))) 54 p (nI (2 * 2 ^ n))) 55 p (nI (x + 2 ^ n - 1 + (3 - bd_q (2 ^ n) x y mx my) % 2))) 56 p (nI (y + 2 ^ n - 1 + (3 - bd_q (2 ^ n) x y mx my) / 2))) h1) (H : bd_marks (bd_q (2 ^ n) x y mx my) (x + 2 ^ n - 1) (y + 2 ^ n - 1) p 4 (ab_i h 52) (ab_i h1 52)) : bd_cutMI n x y mx my p 0 h h1 := by
  refine ⟨((((((ab_fr.rf h).si _ _ _ (by simp)).si _ _ _ (by simp)).si _ _ _ (by simp)).si _ _ _ (by simp)).si _ _ _ (by simp)).trans f (by simp), fun j hj => ?_, ?_, ?_, ?_, ?_, ?_, ?_⟩
  · rw [ab_i_fr f (by decide), ab_i_si, if_neg (by decide), ab_i_si, if_neg (by decide), ab_i_si, if_neg (by decide), ab_i_si, if_neg (by decide), ab_i_si, if_pos rfl, ab_up_ne _ _ hj]
  · rw [ab_i_fr f (by decide), ab_i_si, if_neg (by decide), ab_i_si, if_neg (by decide), ab_i_si, if_neg (by decide), ab_i_si, if_neg (by decide), ab_i_si, if_pos rfl, ab_up_self, Nat.zero_mul]
  · exact bd_cellsI_0 hm (fun X Y hX hY ho => H.1 X Y hX hY (bd_own0.mp ho)) (fun X Y hX hY ho => H.2 X Y hX hY (fun z => ho (bd_own0.mpr z)))
  · rw [ab_i_fr f (by decide), ab_i_si, if_neg (by decide), ab_i_si, if_neg (by decide), ab_i_si, if_neg (by decide), ab_i_si, if_pos rfl, ab_i_si, if_neg (by decide)]; exact bd_rowI_0 rfl
  · rw [ab_i_fr f (by decide), ab_i_si, if_neg (by decide), ab_i_si, if_neg (by decide), ab_i_si, if_pos rfl, ab_i_si, if_neg (by decide), ab_i_si, if_neg (by decide)]; exact bd_rowI_0 rfl
  · rw [ab_i_fr f (by decide), ab_i_si, if_neg (by decide), ab_i_si, if_pos rfl, ab_i_si, if_neg (by decide), ab_i_si, if_neg (by decide), ab_i_si, if_neg (by decide)]; exact bd_rowI_0 rfl
  · rw [ab_i_fr f (by decide), ab_i_si, if_pos rfl, ab_i_si, if_neg (by decide), ab_i_si, if_neg (by decide), ab_i_si, if_neg (by decide), ab_i_si, if_neg (by decide)]; exact bd_rowI_0 rfl
set_option maxRecDepth 100000 in
set_option maxHeartbeats 4000000 in
theorem m_cuts : ∀ n, bd_cutMP n := by
  intro n
  induction n with
  | zero =>
    intro k b x y mx my p h hk hM hP hnN hx hy hm hp
    refine ab_enter ?_
    refine ab_iload_n dX12_cuts_0 rfl ?_
    refine ab_iconst (v := nI 1) dX12_cuts_1 (by decide) ?_
    refine ab_nicmp_ne 6 dX12_cuts_2 (by decide) (by omega) (by omega) (fun c_2 => ?_) (fun c_2 => ?_)
    · skip
      exact absurd rfl c_2
    · skip
      refine ab_retv dX12_cuts_5 ?_
      exact bd_cutM_0 hm hP
  | succ n ih =>
    intro k b x y mx my p h hk hM hP hnN hx hy hm hp
    have hps := bd_pow_succ n
    have hpo := bd_pos n
    have hbn : bd_n (n + 1) = 1 + 4 * bd_n n := rfl
    have hq4 := bd_q_lt (2 ^ n) x y mx my
    have hmm := hm
    unfold bd_in at hmm
    rw [hps]
    refine ab_enter ?_
    refine ab_iload_n dX12_cuts_0 rfl ?_
    refine ab_iconst (v := nI 1) dX12_cuts_1 (by decide) ?_
    refine ab_nicmp_ne 6 dX12_cuts_2 (by decide) (by omega) (by omega) (fun c_2 => ?_) (fun c_2 => ?_)
    · skip
      refine ab_iload_n dX12_cuts_6 rfl ?_
      refine ab_iconst (v := nI 2) dX12_cuts_7 (by decide) ?_
      refine ab_ndivR dX12_cuts_8 (by omega) (by decide) (by decide) ?_
      rw [show 2 * 2 ^ n / 2 = 2 ^ n by omega]
      refine ab_sti (ls' := [_, _, _, _, _, _, _, _, _, _, _]) dX12_cuts_9 (by decide) rfl ?_
      refine ab_iload dX12_cuts_11 rfl ?_
      refine ab_iload_n dX12_cuts_13 rfl ?_
      refine ab_iload dX12_cuts_14 rfl ?_
      refine ab_naddR dX12_cuts_16 ?_
      refine ab_nicmp_lt 24 dX12_cuts_17 (by decide) (by omega) (by omega) (fun c_17 => ?_) (fun c_17 => ?_)
      · skip
        refine ab_iconst (v := nI 0) dX12_cuts_24 (by decide) ?_
        refine ab_iload dX12_cuts_25 rfl ?_
        refine ab_iload_n dX12_cuts_27 rfl ?_
        refine ab_iload dX12_cuts_28 rfl ?_
        refine ab_naddR dX12_cuts_30 ?_
        refine ab_nicmp_lt 38 dX12_cuts_31 (by decide) (by omega) (by omega) (fun c_31 => ?_) (fun c_31 => ?_)
        · skip
          refine ab_iconst (v := nI 0) dX12_cuts_38 (by decide) ?_
          refine ab_naddR dX12_cuts_39 ?_
          refine ab_topI (y := nI (bd_q (2 ^ n) x y mx my)) (by unfold bd_q; first | rw [if_pos (by omega), if_pos (by omega)] | rw [if_pos (by omega), if_neg (by omega)] | rw [if_neg (by omega), if_pos (by omega)] | rw [if_neg (by omega), if_neg (by omega)]) ?_
          refine ab_sti (ls' := [_, _, _, _, _, _, _, _, _, _, _]) dX12_cuts_40 (by decide) rfl ?_
          refine ab_aload_n dX12_cuts_42 rfl ?_
          refine ab_getI dX12_cuts_43 fl_X12_133 hM.hs hP ?_
          refine ab_sti (ls' := [_, _, _, _, _, _, _, _, _, _, _]) dX12_cuts_46 (by decide) rfl ?_
          refine ab_aload_n dX12_cuts_48 rfl ?_
          refine ab_dup dX12_cuts_49 rfl ?_
          refine ab_getI dX12_cuts_50 fl_X12_133 hM.hs hP ?_
          refine ab_iconst (v := nI 1) dX12_cuts_53 (by decide) ?_
          refine ab_naddR dX12_cuts_54 ?_
          refine ab_putI dX12_cuts_55 fl_X12_133 hM.hs ?_
          refine ab_aload_n dX12_cuts_58 rfl ?_
          refine ab_getR dX12_cuts_59 fl_X12_36 hM.hs hM.p50_6 ?_
          refine ab_iload dX12_cuts_62 rfl ?_
          refine ab_iload dX12_cuts_64 rfl ?_
          refine ab_iast dX12_cuts_66 hM.s53 rfl (by omega) ?_
          refine ab_aload_n dX12_cuts_67 rfl ?_
          refine ab_getR dX12_cuts_68 fl_X12_39 hM.hs hM.p50_7 ?_
          refine ab_iload dX12_cuts_71 rfl ?_
          refine ab_iload_n dX12_cuts_73 rfl ?_
          refine ab_iast dX12_cuts_74 hM.s54 rfl (by omega) ?_
          refine ab_aload_n dX12_cuts_75 rfl ?_
          refine ab_getR dX12_cuts_76 fl_X12_42 hM.hs hM.p50_8 ?_
          refine ab_iload dX12_cuts_79 rfl ?_
          refine ab_iload_n dX12_cuts_81 rfl ?_
          refine ab_iload dX12_cuts_82 rfl ?_
          refine ab_naddR dX12_cuts_84 ?_
          refine ab_iconst (v := nI 1) dX12_cuts_85 (by decide) ?_
          refine ab_nsubR dX12_cuts_86 (by omega) ?_
          refine ab_iconst (v := nI 3) dX12_cuts_87 (by decide) ?_
          refine ab_iload dX12_cuts_88 rfl ?_
          refine ab_nsubR dX12_cuts_90 (by omega) ?_
          refine ab_iconst (v := nI 2) dX12_cuts_91 (by decide) ?_
          refine ab_nremR dX12_cuts_92 (by omega) (by decide) (by decide) ?_
          refine ab_naddR dX12_cuts_93 ?_
          refine ab_iast dX12_cuts_94 hM.s55 rfl (by omega) ?_
          refine ab_aload_n dX12_cuts_95 rfl ?_
          refine ab_getR dX12_cuts_96 fl_X12_45 hM.hs hM.p50_9 ?_
          refine ab_iload dX12_cuts_99 rfl ?_
          refine ab_iload_n dX12_cuts_101 rfl ?_
          refine ab_iload dX12_cuts_102 rfl ?_
          refine ab_naddR dX12_cuts_104 ?_
          refine ab_iconst (v := nI 1) dX12_cuts_105 (by decide) ?_
          refine ab_nsubR dX12_cuts_106 (by omega) ?_
          refine ab_iconst (v := nI 3) dX12_cuts_107 (by decide) ?_
          refine ab_iload dX12_cuts_108 rfl ?_
          refine ab_nsubR dX12_cuts_110 (by omega) ?_
          refine ab_iconst (v := nI 2) dX12_cuts_111 (by decide) ?_
          refine ab_ndivR dX12_cuts_112 (by omega) (by decide) (by decide) ?_
          refine ab_naddR dX12_cuts_113 ?_
          refine ab_iast dX12_cuts_114 hM.s56 rfl (by omega) ?_
          refine ab_iconst (v := nI 0) dX12_cuts_115 (by decide) ?_
          refine ab_sti (ls' := [_, _, _, _, _, _, _, _, _, _, _]) dX12_cuts_116 (by decide) rfl ?_
          refine lp_mMark (p := p) (h := (ab_si (ab_si (ab_si (ab_si (ab_si h 50 4 (nI (p + 1))) 53 p (nI (bd_q (2 ^ n) x y mx my))) 54 p (nI (2 * 2 ^ n))) 55 p (nI (x + 2 ^ n - 1 + (3 - bd_q (2 ^ n) x y mx my) % 2))) 56 p (nI (y + 2 ^ n - 1 + (3 - bd_q (2 ^ n) x y mx my) / 2)))) hM hnN hx hy hm hp (fun h1 f H => ?_) 4 0 _ rfl (ab_fr.rf _) (bd_marks_0 _ _ _ _ _)
          have hM1 := at_M.fr f hM
          exact lp_mCut ih hk hM hP hnN hx hy hm hp 4 0 none h1 rfl (bd_cutMI_0 (by rw [← hps]; exact hm) f H)
        · skip
          refine ab_iconst (v := nI 2) dX12_cuts_34 (by decide) ?_
          refine ab_goto 39 dX12_cuts_35 (by decide) ?_
          refine ab_naddR dX12_cuts_39 ?_
          refine ab_topI (y := nI (bd_q (2 ^ n) x y mx my)) (by unfold bd_q; first | rw [if_pos (by omega), if_pos (by omega)] | rw [if_pos (by omega), if_neg (by omega)] | rw [if_neg (by omega), if_pos (by omega)] | rw [if_neg (by omega), if_neg (by omega)]) ?_
          refine ab_sti (ls' := [_, _, _, _, _, _, _, _, _, _, _]) dX12_cuts_40 (by decide) rfl ?_
          refine ab_aload_n dX12_cuts_42 rfl ?_
          refine ab_getI dX12_cuts_43 fl_X12_133 hM.hs hP ?_
          refine ab_sti (ls' := [_, _, _, _, _, _, _, _, _, _, _]) dX12_cuts_46 (by decide) rfl ?_
          refine ab_aload_n dX12_cuts_48 rfl ?_
          refine ab_dup dX12_cuts_49 rfl ?_
          refine ab_getI dX12_cuts_50 fl_X12_133 hM.hs hP ?_
          refine ab_iconst (v := nI 1) dX12_cuts_53 (by decide) ?_
          refine ab_naddR dX12_cuts_54 ?_
          refine ab_putI dX12_cuts_55 fl_X12_133 hM.hs ?_
          refine ab_aload_n dX12_cuts_58 rfl ?_
          refine ab_getR dX12_cuts_59 fl_X12_36 hM.hs hM.p50_6 ?_
          refine ab_iload dX12_cuts_62 rfl ?_
          refine ab_iload dX12_cuts_64 rfl ?_
          refine ab_iast dX12_cuts_66 hM.s53 rfl (by omega) ?_
          refine ab_aload_n dX12_cuts_67 rfl ?_
          refine ab_getR dX12_cuts_68 fl_X12_39 hM.hs hM.p50_7 ?_
          refine ab_iload dX12_cuts_71 rfl ?_
          refine ab_iload_n dX12_cuts_73 rfl ?_
          refine ab_iast dX12_cuts_74 hM.s54 rfl (by omega) ?_
          refine ab_aload_n dX12_cuts_75 rfl ?_
          refine ab_getR dX12_cuts_76 fl_X12_42 hM.hs hM.p50_8 ?_
          refine ab_iload dX12_cuts_79 rfl ?_
          refine ab_iload_n dX12_cuts_81 rfl ?_
          refine ab_iload dX12_cuts_82 rfl ?_
          refine ab_naddR dX12_cuts_84 ?_
          refine ab_iconst (v := nI 1) dX12_cuts_85 (by decide) ?_
          refine ab_nsubR dX12_cuts_86 (by omega) ?_
          refine ab_iconst (v := nI 3) dX12_cuts_87 (by decide) ?_
          refine ab_iload dX12_cuts_88 rfl ?_
          refine ab_nsubR dX12_cuts_90 (by omega) ?_
          refine ab_iconst (v := nI 2) dX12_cuts_91 (by decide) ?_
          refine ab_nremR dX12_cuts_92 (by omega) (by decide) (by decide) ?_
          refine ab_naddR dX12_cuts_93 ?_
          refine ab_iast dX12_cuts_94 hM.s55 rfl (by omega) ?_
          refine ab_aload_n dX12_cuts_95 rfl ?_
          refine ab_getR dX12_cuts_96 fl_X12_45 hM.hs hM.p50_9 ?_
          refine ab_iload dX12_cuts_99 rfl ?_
          refine ab_iload_n dX12_cuts_101 rfl ?_
          refine ab_iload dX12_cuts_102 rfl ?_
          refine ab_naddR dX12_cuts_104 ?_
          refine ab_iconst (v := nI 1) dX12_cuts_105 (by decide) ?_
          refine ab_nsubR dX12_cuts_106 (by omega) ?_
          refine ab_iconst (v := nI 3) dX12_cuts_107 (by decide) ?_
          refine ab_iload dX12_cuts_108 rfl ?_
          refine ab_nsubR dX12_cuts_110 (by omega) ?_
          refine ab_iconst (v := nI 2) dX12_cuts_111 (by decide) ?_
          refine ab_ndivR dX12_cuts_112 (by omega) (by decide) (by decide) ?_
          refine ab_naddR dX12_cuts_113 ?_
          refine ab_iast dX12_cuts_114 hM.s56 rfl (by omega) ?_
          refine ab_iconst (v := nI 0) dX12_cuts_115 (by decide) ?_
          refine ab_sti (ls' := [_, _, _, _, _, _, _, _, _, _, _]) dX12_cuts_116 (by decide) rfl ?_
          refine lp_mMark (p := p) (h := (ab_si (ab_si (ab_si (ab_si (ab_si h 50 4 (nI (p + 1))) 53 p (nI (bd_q (2 ^ n) x y mx my))) 54 p (nI (2 * 2 ^ n))) 55 p (nI (x + 2 ^ n - 1 + (3 - bd_q (2 ^ n) x y mx my) % 2))) 56 p (nI (y + 2 ^ n - 1 + (3 - bd_q (2 ^ n) x y mx my) / 2)))) hM hnN hx hy hm hp (fun h1 f H => ?_) 4 0 _ rfl (ab_fr.rf _) (bd_marks_0 _ _ _ _ _)
          have hM1 := at_M.fr f hM
          exact lp_mCut ih hk hM hP hnN hx hy hm hp 4 0 none h1 rfl (bd_cutMI_0 (by rw [← hps]; exact hm) f H)
      · skip
        refine ab_iconst (v := nI 1) dX12_cuts_20 (by decide) ?_
        refine ab_goto 25 dX12_cuts_21 (by decide) ?_
        refine ab_iload dX12_cuts_25 rfl ?_
        refine ab_iload_n dX12_cuts_27 rfl ?_
        refine ab_iload dX12_cuts_28 rfl ?_
        refine ab_naddR dX12_cuts_30 ?_
        refine ab_nicmp_lt 38 dX12_cuts_31 (by decide) (by omega) (by omega) (fun c_31 => ?_) (fun c_31 => ?_)
        · skip
          refine ab_iconst (v := nI 0) dX12_cuts_38 (by decide) ?_
          refine ab_naddR dX12_cuts_39 ?_
          refine ab_topI (y := nI (bd_q (2 ^ n) x y mx my)) (by unfold bd_q; first | rw [if_pos (by omega), if_pos (by omega)] | rw [if_pos (by omega), if_neg (by omega)] | rw [if_neg (by omega), if_pos (by omega)] | rw [if_neg (by omega), if_neg (by omega)]) ?_
          refine ab_sti (ls' := [_, _, _, _, _, _, _, _, _, _, _]) dX12_cuts_40 (by decide) rfl ?_
          refine ab_aload_n dX12_cuts_42 rfl ?_
          refine ab_getI dX12_cuts_43 fl_X12_133 hM.hs hP ?_
          refine ab_sti (ls' := [_, _, _, _, _, _, _, _, _, _, _]) dX12_cuts_46 (by decide) rfl ?_
          refine ab_aload_n dX12_cuts_48 rfl ?_
          refine ab_dup dX12_cuts_49 rfl ?_
          refine ab_getI dX12_cuts_50 fl_X12_133 hM.hs hP ?_
          refine ab_iconst (v := nI 1) dX12_cuts_53 (by decide) ?_
          refine ab_naddR dX12_cuts_54 ?_
          refine ab_putI dX12_cuts_55 fl_X12_133 hM.hs ?_
          refine ab_aload_n dX12_cuts_58 rfl ?_
          refine ab_getR dX12_cuts_59 fl_X12_36 hM.hs hM.p50_6 ?_
          refine ab_iload dX12_cuts_62 rfl ?_
          refine ab_iload dX12_cuts_64 rfl ?_
          refine ab_iast dX12_cuts_66 hM.s53 rfl (by omega) ?_
          refine ab_aload_n dX12_cuts_67 rfl ?_
          refine ab_getR dX12_cuts_68 fl_X12_39 hM.hs hM.p50_7 ?_
          refine ab_iload dX12_cuts_71 rfl ?_
          refine ab_iload_n dX12_cuts_73 rfl ?_
          refine ab_iast dX12_cuts_74 hM.s54 rfl (by omega) ?_
          refine ab_aload_n dX12_cuts_75 rfl ?_
          refine ab_getR dX12_cuts_76 fl_X12_42 hM.hs hM.p50_8 ?_
          refine ab_iload dX12_cuts_79 rfl ?_
          refine ab_iload_n dX12_cuts_81 rfl ?_
          refine ab_iload dX12_cuts_82 rfl ?_
          refine ab_naddR dX12_cuts_84 ?_
          refine ab_iconst (v := nI 1) dX12_cuts_85 (by decide) ?_
          refine ab_nsubR dX12_cuts_86 (by omega) ?_
          refine ab_iconst (v := nI 3) dX12_cuts_87 (by decide) ?_
          refine ab_iload dX12_cuts_88 rfl ?_
          refine ab_nsubR dX12_cuts_90 (by omega) ?_
          refine ab_iconst (v := nI 2) dX12_cuts_91 (by decide) ?_
          refine ab_nremR dX12_cuts_92 (by omega) (by decide) (by decide) ?_
          refine ab_naddR dX12_cuts_93 ?_
          refine ab_iast dX12_cuts_94 hM.s55 rfl (by omega) ?_
          refine ab_aload_n dX12_cuts_95 rfl ?_
          refine ab_getR dX12_cuts_96 fl_X12_45 hM.hs hM.p50_9 ?_
          refine ab_iload dX12_cuts_99 rfl ?_
          refine ab_iload_n dX12_cuts_101 rfl ?_
          refine ab_iload dX12_cuts_102 rfl ?_
          refine ab_naddR dX12_cuts_104 ?_
          refine ab_iconst (v := nI 1) dX12_cuts_105 (by decide) ?_
          refine ab_nsubR dX12_cuts_106 (by omega) ?_
          refine ab_iconst (v := nI 3) dX12_cuts_107 (by decide) ?_
          refine ab_iload dX12_cuts_108 rfl ?_
          refine ab_nsubR dX12_cuts_110 (by omega) ?_
          refine ab_iconst (v := nI 2) dX12_cuts_111 (by decide) ?_
          refine ab_ndivR dX12_cuts_112 (by omega) (by decide) (by decide) ?_
          refine ab_naddR dX12_cuts_113 ?_
          refine ab_iast dX12_cuts_114 hM.s56 rfl (by omega) ?_
          refine ab_iconst (v := nI 0) dX12_cuts_115 (by decide) ?_
          refine ab_sti (ls' := [_, _, _, _, _, _, _, _, _, _, _]) dX12_cuts_116 (by decide) rfl ?_
          refine lp_mMark (p := p) (h := (ab_si (ab_si (ab_si (ab_si (ab_si h 50 4 (nI (p + 1))) 53 p (nI (bd_q (2 ^ n) x y mx my))) 54 p (nI (2 * 2 ^ n))) 55 p (nI (x + 2 ^ n - 1 + (3 - bd_q (2 ^ n) x y mx my) % 2))) 56 p (nI (y + 2 ^ n - 1 + (3 - bd_q (2 ^ n) x y mx my) / 2)))) hM hnN hx hy hm hp (fun h1 f H => ?_) 4 0 _ rfl (ab_fr.rf _) (bd_marks_0 _ _ _ _ _)
          have hM1 := at_M.fr f hM
          exact lp_mCut ih hk hM hP hnN hx hy hm hp 4 0 none h1 rfl (bd_cutMI_0 (by rw [← hps]; exact hm) f H)
        · skip
          refine ab_iconst (v := nI 2) dX12_cuts_34 (by decide) ?_
          refine ab_goto 39 dX12_cuts_35 (by decide) ?_
          refine ab_naddR dX12_cuts_39 ?_
          refine ab_topI (y := nI (bd_q (2 ^ n) x y mx my)) (by unfold bd_q; first | rw [if_pos (by omega), if_pos (by omega)] | rw [if_pos (by omega), if_neg (by omega)] | rw [if_neg (by omega), if_pos (by omega)] | rw [if_neg (by omega), if_neg (by omega)]) ?_
          refine ab_sti (ls' := [_, _, _, _, _, _, _, _, _, _, _]) dX12_cuts_40 (by decide) rfl ?_
          refine ab_aload_n dX12_cuts_42 rfl ?_
          refine ab_getI dX12_cuts_43 fl_X12_133 hM.hs hP ?_
          refine ab_sti (ls' := [_, _, _, _, _, _, _, _, _, _, _]) dX12_cuts_46 (by decide) rfl ?_
          refine ab_aload_n dX12_cuts_48 rfl ?_
          refine ab_dup dX12_cuts_49 rfl ?_
          refine ab_getI dX12_cuts_50 fl_X12_133 hM.hs hP ?_
          refine ab_iconst (v := nI 1) dX12_cuts_53 (by decide) ?_
          refine ab_naddR dX12_cuts_54 ?_
          refine ab_putI dX12_cuts_55 fl_X12_133 hM.hs ?_
          refine ab_aload_n dX12_cuts_58 rfl ?_
          refine ab_getR dX12_cuts_59 fl_X12_36 hM.hs hM.p50_6 ?_
          refine ab_iload dX12_cuts_62 rfl ?_
          refine ab_iload dX12_cuts_64 rfl ?_
          refine ab_iast dX12_cuts_66 hM.s53 rfl (by omega) ?_
          refine ab_aload_n dX12_cuts_67 rfl ?_
          refine ab_getR dX12_cuts_68 fl_X12_39 hM.hs hM.p50_7 ?_
          refine ab_iload dX12_cuts_71 rfl ?_
          refine ab_iload_n dX12_cuts_73 rfl ?_
          refine ab_iast dX12_cuts_74 hM.s54 rfl (by omega) ?_
          refine ab_aload_n dX12_cuts_75 rfl ?_
          refine ab_getR dX12_cuts_76 fl_X12_42 hM.hs hM.p50_8 ?_
          refine ab_iload dX12_cuts_79 rfl ?_
          refine ab_iload_n dX12_cuts_81 rfl ?_
          refine ab_iload dX12_cuts_82 rfl ?_
          refine ab_naddR dX12_cuts_84 ?_
          refine ab_iconst (v := nI 1) dX12_cuts_85 (by decide) ?_
          refine ab_nsubR dX12_cuts_86 (by omega) ?_
          refine ab_iconst (v := nI 3) dX12_cuts_87 (by decide) ?_
          refine ab_iload dX12_cuts_88 rfl ?_
          refine ab_nsubR dX12_cuts_90 (by omega) ?_
          refine ab_iconst (v := nI 2) dX12_cuts_91 (by decide) ?_
          refine ab_nremR dX12_cuts_92 (by omega) (by decide) (by decide) ?_
          refine ab_naddR dX12_cuts_93 ?_
          refine ab_iast dX12_cuts_94 hM.s55 rfl (by omega) ?_
          refine ab_aload_n dX12_cuts_95 rfl ?_
          refine ab_getR dX12_cuts_96 fl_X12_45 hM.hs hM.p50_9 ?_
          refine ab_iload dX12_cuts_99 rfl ?_
          refine ab_iload_n dX12_cuts_101 rfl ?_
          refine ab_iload dX12_cuts_102 rfl ?_
          refine ab_naddR dX12_cuts_104 ?_
          refine ab_iconst (v := nI 1) dX12_cuts_105 (by decide) ?_
          refine ab_nsubR dX12_cuts_106 (by omega) ?_
          refine ab_iconst (v := nI 3) dX12_cuts_107 (by decide) ?_
          refine ab_iload dX12_cuts_108 rfl ?_
          refine ab_nsubR dX12_cuts_110 (by omega) ?_
          refine ab_iconst (v := nI 2) dX12_cuts_111 (by decide) ?_
          refine ab_ndivR dX12_cuts_112 (by omega) (by decide) (by decide) ?_
          refine ab_naddR dX12_cuts_113 ?_
          refine ab_iast dX12_cuts_114 hM.s56 rfl (by omega) ?_
          refine ab_iconst (v := nI 0) dX12_cuts_115 (by decide) ?_
          refine ab_sti (ls' := [_, _, _, _, _, _, _, _, _, _, _]) dX12_cuts_116 (by decide) rfl ?_
          refine lp_mMark (p := p) (h := (ab_si (ab_si (ab_si (ab_si (ab_si h 50 4 (nI (p + 1))) 53 p (nI (bd_q (2 ^ n) x y mx my))) 54 p (nI (2 * 2 ^ n))) 55 p (nI (x + 2 ^ n - 1 + (3 - bd_q (2 ^ n) x y mx my) % 2))) 56 p (nI (y + 2 ^ n - 1 + (3 - bd_q (2 ^ n) x y mx my) / 2)))) hM hnN hx hy hm hp (fun h1 f H => ?_) 4 0 _ rfl (ab_fr.rf _) (bd_marks_0 _ _ _ _ _)
          have hM1 := at_M.fr f hM
          exact lp_mCut ih hk hM hP hnN hx hy hm hp 4 0 none h1 rfl (bd_cutMI_0 (by rw [← hps]; exact hm) f H)
    · skip
      exact absurd c_2 (by omega)
