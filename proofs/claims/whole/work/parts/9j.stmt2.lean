/-! ===== the model: a statement ===== -/
set_option maxRecDepth 100000 in
set_option maxHeartbeats 4000000 in
theorem lp_nums {k b p c : Nat} {h : ab_H} {e : eS} (hk : 1 ≤ k) (hM : at_M (ab_sh h) (ab_r h)) (hE : le_M e h) (hc : c < 256) (hcp : c = eL e p) (hg : eG c ≠ 0) : ∀ (j t q : Nat) (h1 : ab_H) (o3 : Option Value), t + j = nO c → q = sq c t (p + 1) → ab_fM [72] [30] h h1 → ab_i h1 50 30 = nI q → q ≤ e.1 → tx_wr e p = tx_fw e (rm c j t) q → (∀ i, i < t → ab_i h1 72 i = nI (nu e (dO c i) (sq c i (p + 1)) 0)) → ab_R k b mX12_statement 46 [some (.ref 50), some (.int (nI c)), some (.int (nI t)), o3] [] h1 (ab_pn (st_P e p h)) := by
  intro j
  induction j with
  | zero =>
    intro t q h1 o3 ht hq f hq9 hqm hfw hto
    have hM1 := at_M.fM f hM
    have hE1 := hE.fM f (by simp) (by simp)
    have h72 := hE.1
    have hno := nO_le c
    refine ab_iload_n dX12_statement_46 rfl ?_
    refine ab_iload_n dX12_statement_47 rfl ?_
    refine ab_callSn [_] dX12_statement_48 ml_X12_345 mk_X12_numbersOf (m_numbersOf (k := 0) (b := 0) hc) (fun x hh hq => ?_)
    obtain ⟨hhe, rfl⟩ := hq
    rw [hhe]
    refine ab_nicmp_ge 157 dX12_statement_51 (by decide) (by omega) (by omega) (fun c_51 => ?_) (fun c_51 => ?_)
    · skip
      refine ab_aload_n dX12_statement_157 rfl ?_
      refine ab_getI dX12_statement_158 fl_X12_342 hM1.hs hq9 ?_
      refine ab_aload_n dX12_statement_161 rfl ?_
      refine ab_getI dX12_statement_162 fl_X12_339 hM1.hs hE1.2.2.1 ?_
      refine ab_nicmp_eq 182 dX12_statement_165 (by decide) (by omega) (by omega) (fun c_165 => ?_) (fun c_165 => ?_)
      · have n59 : ¬ eL e q = 59 := (fun z => by have := eL_in (e := e) (q := q) (by omega); omega)
        refine ab_iconst (v := nI 0) dX12_statement_182 (by decide) ?_
        refine ab_retn dX12_statement_183 ?_
        refine ⟨f, fun w9 q9 => ?_, fun q9 => ?_⟩
        · rw [hfw, rm, tx_fw, if_neg n59] at q9; injection q9 with q9; rw [← q9]; exact ⟨rfl, hq9⟩
        · rw [hfw, rm, tx_fw, if_neg n59] at q9; cases q9
      · have hq8 : q < e.1 := (by omega); have eq9 : eL e q = e.2 q := if_pos hq8; have hb9 := hE.2.1 q hq8
        refine ab_aload_n dX12_statement_168 rfl ?_
        refine ab_getR dX12_statement_169 fl_X12_91 hM1.hs hM1.p50_28 ?_
        refine ab_aload_n dX12_statement_172 rfl ?_
        refine ab_getI dX12_statement_173 fl_X12_342 hM1.hs hq9 ?_
        refine ab_iald dX12_statement_176 hM1.s71 rfl (by omega) (hE1.2.2.2 q hq8) ?_
        refine ab_bipush (v := nI 59) dX12_statement_177 (by decide) ?_
        refine ab_nicmp_eq 184 dX12_statement_179 (by decide) (by omega) (by omega) (fun c_179 => ?_) (fun c_179 => ?_)
        · have y59 : eL e q = 59 := (by omega)
          refine ab_aload_n dX12_statement_184 rfl ?_
          refine ab_dup dX12_statement_185 rfl ?_
          refine ab_getI dX12_statement_186 fl_X12_342 hM1.hs hq9 ?_
          refine ab_iconst (v := nI 1) dX12_statement_189 (by decide) ?_
          refine ab_naddR dX12_statement_190 ?_
          refine ab_putI dX12_statement_191 fl_X12_342 hM1.hs ?_
          refine ab_iload_n dX12_statement_194 rfl ?_
          refine ab_retn dX12_statement_195 ?_
          have hnn : tx_wr e p = none := by rw [hfw, rm, tx_fw, if_pos y59]
          refine ⟨f.s50 _ (by simp), fun w9 q9 => absurd (hnn.symm.trans q9) (by simp), fun _ => ⟨hcp, ?_, fun i hi => ?_⟩⟩
          · rw [ab_i_at, ab_up_self]; congr 1; rw [hq, show t = nO c by omega, sq_eG hg]; unfold tx_nx; rw [← hcp]
          · rw [ab_i_off (by decide), ← hcp]; exact hto i (by rw [← hcp] at hi; omega)
        · have n59 : ¬ eL e q = 59 := (by omega)
          refine ab_iconst (v := nI 0) dX12_statement_182 (by decide) ?_
          refine ab_retn dX12_statement_183 ?_
          refine ⟨f, fun w9 q9 => ?_, fun q9 => ?_⟩
          · rw [hfw, rm, tx_fw, if_neg n59] at q9; injection q9 with q9; rw [← q9]; exact ⟨rfl, hq9⟩
          · rw [hfw, rm, tx_fw, if_neg n59] at q9; cases q9
    · skip
      exact absurd (by omega) c_51
  | succ j ih =>
    intro t q h1 o3 ht hq f hq9 hqm hfw hto
    have hM1 := at_M.fM f hM
    have hE1 := hE.fM f (by simp) (by simp)
    have h72 := hE.1
    have hno := nO_le c
    refine ab_iload_n dX12_statement_46 rfl ?_
    refine ab_iload_n dX12_statement_47 rfl ?_
    refine ab_callSn [_] dX12_statement_48 ml_X12_345 mk_X12_numbersOf (m_numbersOf (k := 0) (b := 0) hc) (fun x hh hq => ?_)
    obtain ⟨hhe, rfl⟩ := hq
    rw [hhe]
    refine ab_nicmp_ge 157 dX12_statement_51 (by decide) (by omega) (by omega) (fun c_51 => ?_) (fun c_51 => ?_)
    · skip
      exact absurd c_51 (by omega)
    · skip
      refine ab_aload_n dX12_statement_54 rfl ?_
      refine ab_getR dX12_statement_55 fl_X12_94 hM1.hs hM1.p50_31 ?_
      refine ab_iload_n dX12_statement_58 rfl ?_
      refine ab_iconst (v := nI 0) dX12_statement_59 (by decide) ?_
      refine ab_iast dX12_statement_60 hM1.s72 rfl (by omega) ?_
      refine ab_iconst (v := nI 0) dX12_statement_61 (by decide) ?_
      refine ab_sti_n (ls' := [_, _, _, _]) dX12_statement_62 (by decide) rfl ?_
      refine lp_dig (R := rm c j (t + 1)) hk hM hE hc (by omega) (dO c t) 0 q 0 _ (Nat.zero_add _) (f.si _ _ (by simp) (by decide)) ((congrFun (ab_i_off (by decide)) 30).trans hq9) hqm (by rw [ab_i_si_same, if_pos rfl]) (by rw [hfw, rm, Nat.add_comm]) (fun h2 o4 f2 a2 b2 r2 w2 => ?_)
      refine ab_nincR (ls' := [_, _, _, _]) dX12_statement_151 rfl rfl ?_
      refine ab_goto 46 dX12_statement_154 (by decide) ?_
      refine ih (t + 1) (q + dO c t) h2 o4 (by omega) (by rw [hq]; rfl) f2 a2 b2 w2 (fun i hi => ?_)
      rw [r2]
      by_cases c9 : i = t
      · rw [if_pos c9, c9, hq]
      · rw [if_neg c9, ab_i_si_same, if_neg c9]; exact hto i (by omega)
set_option maxRecDepth 100000 in
set_option maxHeartbeats 4000000 in
theorem m_statement {k b p : Nat} {h : ab_H} {e : eS} (hk : 1 ≤ k) (hM : at_M (ab_sh h) (ab_r h)) (hE : le_M e h) (hp9 : ab_i h 50 30 = nI p) (hp : p ≤ e.1) : ab_M k b mX12_statement [.ref 50] h (ab_pn (st_P e p h)) := by
  have h72 := hE.1
  by_cases cp : p < e.1
  · refine ab_enter ?_
    refine ab_aload_n dX12_statement_0 rfl ?_
    refine ab_getI dX12_statement_1 fl_X12_342 hM.hs hp9 ?_
    refine ab_aload_n dX12_statement_4 rfl ?_
    refine ab_getI dX12_statement_5 fl_X12_339 hM.hs hE.2.2.1 ?_
    refine ab_nicmp_ge 23 dX12_statement_8 (by decide) (by omega) (by omega) (fun c_8 => ?_) (fun c_8 => ?_)
    · skip
      exact absurd c_8 (by omega)
    · skip
      refine ab_aload_n dX12_statement_11 rfl ?_
      refine ab_getR dX12_statement_12 fl_X12_91 hM.hs hM.p50_28 ?_
      refine ab_aload_n dX12_statement_15 rfl ?_
      refine ab_getI dX12_statement_16 fl_X12_342 hM.hs hp9 ?_
      refine ab_iald dX12_statement_19 hM.s71 rfl (by omega) (hE.2.2.2 p cp) ?_
      refine ab_goto 24 dX12_statement_20 (by decide) ?_
      rw [show e.2 p = eL e p from (if_pos cp).symm]
      refine ab_sti_n (ls' := [_, _, _, _]) dX12_statement_24 (by decide) rfl ?_
      refine ab_iload_n dX12_statement_25 rfl ?_
      refine ab_callSn [_] dX12_statement_26 ml_X12_345 mk_X12_numbersOf (m_numbersOf (k := 0) (b := 0) (c := eL e p) (eL_lt hE.2.1 p)) (fun x hh hq => ?_)
      obtain ⟨hhe, rfl⟩ := hq
      rw [hhe]
      refine ab_nif_ne 34 dX12_statement_29 (by decide) (by have := nO_le (eL e p); omega) (fun c_29 => ?_) (fun c_29 => ?_)
      · skip
        refine ab_aload_n dX12_statement_34 rfl ?_
        refine ab_dup dX12_statement_35 rfl ?_
        refine ab_getI dX12_statement_36 fl_X12_342 hM.hs hp9 ?_
        refine ab_iconst (v := nI 1) dX12_statement_39 (by decide) ?_
        refine ab_naddR dX12_statement_40 ?_
        refine ab_putI dX12_statement_41 fl_X12_342 hM.hs ?_
        refine ab_iconst (v := nI 0) dX12_statement_44 (by decide) ?_
        refine ab_sti_n (ls' := [_, _, _, _]) dX12_statement_45 (by decide) rfl ?_
        have hg : eG (eL e p) ≠ 0 := fun q9 => absurd (nO_z.mpr q9) (by omega)
        exact lp_nums hk hM hE (eL_lt hE.2.1 p) rfl hg (nO (eL e p)) 0 (p + 1) _ _ (Nat.zero_add _) rfl ((ab_fM.rf h).s50 _ (by simp)) (by rw [ab_i_at, ab_up_self]) (by omega) (by rw [rm_eG]; unfold tx_wr; rw [if_neg hg]) (fun i hi => absurd hi (Nat.not_lt_zero i))
      · skip
        refine ab_iconst (v := nI 0) dX12_statement_32 (by decide) ?_
        refine ab_retn dX12_statement_33 ?_
        have hz9 : eG (eL e p) = 0 := nO_z.mp (by omega)
        have hw9 : tx_wr e p = some p := by unfold tx_wr; rw [if_pos hz9]
        refine ⟨ab_fM.rf h, fun w9 q9 => ?_, fun q9 => ?_⟩
        · rw [hw9] at q9; injection q9 with q9; rw [← q9]; exact ⟨rfl, hp9⟩
        · rw [hw9] at q9; cases q9
  · refine ab_enter ?_
    refine ab_aload_n dX12_statement_0 rfl ?_
    refine ab_getI dX12_statement_1 fl_X12_342 hM.hs hp9 ?_
    refine ab_aload_n dX12_statement_4 rfl ?_
    refine ab_getI dX12_statement_5 fl_X12_339 hM.hs hE.2.2.1 ?_
    refine ab_nicmp_ge 23 dX12_statement_8 (by decide) (by omega) (by omega) (fun c_8 => ?_) (fun c_8 => ?_)
    · skip
      refine ab_iconst (v := nI 0) dX12_statement_23 (by decide) ?_
      refine ab_sti_n (ls' := [_, _, _, _]) dX12_statement_24 (by decide) rfl ?_
      refine ab_iload_n dX12_statement_25 rfl ?_
      refine ab_callSn [_] dX12_statement_26 ml_X12_345 mk_X12_numbersOf (m_numbersOf (k := 0) (b := 0) (c := 0) (by decide)) (fun x hh hq => ?_)
      obtain ⟨hhe, rfl⟩ := hq
      rw [hhe]
      refine ab_nif_ne 34 dX12_statement_29 (by decide) (by decide) (fun c_29 => ?_) (fun c_29 => ?_)
      · skip
        exact absurd (by decide) c_29
      · skip
        refine ab_iconst (v := nI 0) dX12_statement_32 (by decide) ?_
        refine ab_retn dX12_statement_33 ?_
        have hz9 : eG (eL e p) = 0 := by rw [show eL e p = 0 from if_neg cp]; decide
        have hw9 : tx_wr e p = some p := by unfold tx_wr; rw [if_pos hz9]
        refine ⟨ab_fM.rf h, fun w9 q9 => ?_, fun q9 => ?_⟩
        · rw [hw9] at q9; injection q9 with q9; rw [← q9]; exact ⟨rfl, hp9⟩
        · rw [hw9] at q9; cases q9
    · skip
      exact absurd (by omega) c_8
theorem nu_1 {e : eS} {q : Nat} : nu e 1 q 0 = eD e q := by show 10 * 0 + eD e q = _; omega
theorem nu_2 {e : eS} {q : Nat} : nu e 2 q 0 = eT e q := by show 10 * (10 * 0 + eD e q) + eD e (q + 1) = eD e q * 10 + eD e (q + 1); omega
theorem st_b {e : eS} {p : Nat} {F : Nat → Int32} (h : eL e p = 98) (H : ∀ i, i < nO (eL e p) → F i = nI (nu e (dO (eL e p) i) (sq (eL e p) i (p + 1)) 0)) : F 0 = nI (eD e (p + 1)) ∧ F 1 = nI (eT e (p + 2)) ∧ F 2 = nI (eT e (p + 4)) := by
  rw [h] at H
  exact ⟨(H 0 (by decide)).trans (congrArg nI nu_1), (H 1 (by decide)).trans (congrArg nI nu_2), (H 2 (by decide)).trans (congrArg nI nu_2)⟩
theorem st_r {e : eS} {p : Nat} {F : Nat → Int32} (h : eL e p = 114) (H : ∀ i, i < nO (eL e p) → F i = nI (nu e (dO (eL e p) i) (sq (eL e p) i (p + 1)) 0)) : ∀ i, i < 5 → F i = nI (eD e (p + 1 + i)) := by
  rw [h] at H
  intro i hi
  have q := H i hi
  have s : ∀ i, sq 114 i (p + 1) = p + 1 + i := by
    intro i
    induction i with
    | zero => rfl
    | succ i ih => rw [sq, ih]; rfl
  rw [s i] at q
  exact q.trans (congrArg nI nu_1)
theorem st_p {e : eS} {p : Nat} {F : Nat → Int32} (h : eL e p = 112) (H : ∀ i, i < nO (eL e p) → F i = nI (nu e (dO (eL e p) i) (sq (eL e p) i (p + 1)) 0)) : F 0 = nI (eT e (p + 1)) ∧ F 1 = nI (eT e (p + 3)) ∧ F 2 = nI (eT e (p + 5)) ∧ F 3 = nI (eT e (p + 7)) := by
  rw [h] at H
  exact ⟨(H 0 (by decide)).trans (congrArg nI nu_2), (H 1 (by decide)).trans (congrArg nI nu_2), (H 2 (by decide)).trans (congrArg nI nu_2), (H 3 (by decide)).trans (congrArg nI nu_2)⟩
theorem st_t {e : eS} {p : Nat} {F : Nat → Int32} (h : eL e p = 116) (H : ∀ i, i < nO (eL e p) → F i = nI (nu e (dO (eL e p) i) (sq (eL e p) i (p + 1)) 0)) : F 0 = nI (eD e (p + 1)) ∧ F 1 = nI (eD e (p + 2)) ∧ F 2 = nI (eD e (p + 3)) ∧ F 3 = nI (eD e (p + 4)) := by
  rw [h] at H
  exact ⟨(H 0 (by decide)).trans (congrArg nI nu_1), (H 1 (by decide)).trans (congrArg nI nu_1), (H 2 (by decide)).trans (congrArg nI nu_1), (H 3 (by decide)).trans (congrArg nI nu_1)⟩
