/-! ===== both: odds ===== -/
theorem zI_i2l {n : Nat} (h : n < 2147483648) : (nI n).toInt64 = zI (n : Int) := by rw [← Int64.ofInt_int32ToInt, nI_toInt h]; rfl
theorem zI_i2l0 {x : Int32} : x.toInt64 = zI x.toInt := (Int64.ofInt_int32ToInt x).symm
def ab_oLK (F : Nat) (K : ab_H → Prop) (h : ab_H) (o : Nat ⊕ Int64) (v : Int64) (h' : ab_H) : Prop := match o with
  | .inl c => v = ab_far c ∧ h' = ab_si h F c (ab_i h F c + 1)
  | .inr x => v = x ∧ K h'
theorem ab_oLK_no {F : Nat} {K : ab_H → Prop} {h : ab_H} {o : Nat ⊕ Int64} {c : Nat} {v : Int64} {h' : ab_H} (e : o = .inl c) (hv : v = ab_far c) (hh : h' = ab_si h F c (ab_i h F c + 1)) : ab_oLK F K h o v h' := by rw [e]; exact ⟨hv, hh⟩
theorem ab_oLK_ok {F : Nat} {K : ab_H → Prop} {h : ab_H} {o : Nat ⊕ Int64} {v : Int64} {h' : ab_H} (e : o = .inr v) (f : K h') : ab_oLK F K h o v h' := by rw [e]; exact ⟨rfl, f⟩
noncomputable def od_Q (n hx hy w : Nat) : Int × Nat := if bd_n n = 0 then (0, 1) else fR (((bd_num (fun i => (bd_P n hx hy i).1 = w) (bd_n n) : Nat) : Int), bd_n n)
noncomputable def sp_odds (n hx hy : Nat) (x p : Int32) : Nat ⊕ Int64 := if ab_inr 0 3 x = true ∧ ab_inr 0 1 p = true then .inr (if p = 0 then zI (od_Q n hx hy x.toNatClampNeg).1 else zI ((od_Q n hx hy x.toNatClampNeg).2 : Int)) else .inl 2
theorem bd_n3 : ∀ n, n ≤ 4 → 2 ^ n * 2 ^ n = 3 * bd_n n + 1 := by decide
theorem nK_of {n : Nat} (h : n < 2147483648) : nK n := by unfold nK; omega
theorem fR_01 : fR (0, 1) = (0, 1) := by decide
theorem od_no {n hx hy w : Nat} (h : bd_n n = 0) : od_Q n hx hy w = (0, 1) := if_pos h
theorem od_yes {n hx hy w : Nat} (h : ¬ bd_n n = 0) : od_Q n hx hy w = fR (((bd_num (fun i => (bd_P n hx hy i).1 = w) (bd_n n) : Nat) : Int), bd_n n) := if_neg h
theorem od_yes3 {n hx hy w : Nat} (h : ¬ bd_n n = 0) : od_Q n hx hy w = fR (((3 * bd_num (fun i => (bd_P n hx hy i).1 = w) (bd_n n) : Nat) : Int), 3 * bd_n n) := by
  rw [od_yes h, ← fR_mul (n := ((bd_num (fun i => (bd_P n hx hy i).1 = w) (bd_n n) : Nat) : Int)) (d := bd_n n) (k := 3) (by omega)]
  rw [← Int.natCast_mul, Nat.mul_comm, Nat.mul_comm 3 (bd_n n)]
theorem ab_01 {p : Int32} (h : ab_inr 0 1 p = true) (h0 : ¬ p = 0) : p = 1 := by
  have q := of_decide_eq_true h
  have h1 : ¬ p.toInt = 0 := fun e => h0 (ab_0eq.mpr e)
  exact (ab_Neq (n := 1) (by omega)).mpr (by omega)
theorem od_01 {p : Int32} (h : ab_inr 0 1 p = true) : (if p = 0 then zI ((0 : Int), (1 : Nat)).1 else zI ((((0 : Int), (1 : Nat)).2 : Nat) : Int)) = p.toInt64 := by
  by_cases e : p = 0
  · rw [if_pos e, e]; decide
  · rw [if_neg e, ab_01 h e]; decide
set_option maxRecDepth 100000 in
set_option maxHeartbeats 4000000 in
theorem c_likelihood {k b r n hx hy w : Nat} {h : ab_H} (hk : 3 ≤ k) (hb1 : 1 ≤ b) (hb : ab_bs h) (hB : at_Board (ab_sh h) (ab_r h) r) (hD : bd_C n hx hy r h) (hw : w < 4) : ab_M k b mX0_likelihood [.ref r, .int (nI w)] h (ab_pr (fun x h' => ab_gr [] [] h h' ∧ fr_at h' x (od_Q n hx hy w))) := by
  refine ab_enter ?_
  have hb85 := bd_n_le n hD.n4
  have hnl := bd_num_le (fun i => (bd_P n hx hy i).1 = w) (bd_n n)
  refine ab_aload_n dX0_likelihood_0 rfl ?_
  refine ab_getI dX0_likelihood_1 fl_X0_44 hB.1 hD.f3 ?_
  refine ab_nif_ne 15 dX0_likelihood_4 (by decide) (by omega) (fun c_4 => ?_) (fun c_4 => ?_)
  · skip
    refine ab_aload_n dX0_likelihood_15 rfl ?_
    refine ab_iload_n dX0_likelihood_16 rfl ?_
    refine ab_callVn [_] dX0_likelihood_17 ml_X0_88 mk_X0_lyingIn hB.1 (c_lyingIn (k := 0) (b := 0) hB hD hw) (fun x h1 hq => ?_)
    obtain ⟨hhe, rfl⟩ := hq
    rw [hhe]
    refine ab_i2l dX0_likelihood_20 ?_
    refine ab_topL (zI_i2l (by omega)) ?_
    refine ab_aload_n dX0_likelihood_21 rfl ?_
    refine ab_getI dX0_likelihood_22 fl_X0_44 hB.1 hD.f3 ?_
    refine ab_i2l dX0_likelihood_25 ?_
    refine ab_topL (zI_i2l (by omega)) ?_
    refine ab_callSr [_, _] dX0_likelihood_26 ml_X0_82 mk_X2_inLeastTerms (c_least (p := (((bd_num (fun i => (bd_P n hx hy i).1 = w) (bd_n n)) : Nat), bd_n n)) (k := 2) (b := 1) (Nat.le_refl _) (Nat.le_refl _) hb (nK_of (by simp only [Int.natAbs_natCast]; omega)) (by simp only; omega) (nK_of (by simp only; omega))) (fun x h1 hq => ?_)
    refine ab_retr dX0_likelihood_29 ?_
    first | (rw [od_yes c_4]; exact hq) | (rw [od_no c_4, ← fR_01]; exact hq)
  · skip
    refine ab_lconst (v := zI 0) dX0_likelihood_7 (by decide) ?_
    refine ab_lconst (v := zI ((1 : Nat) : Int)) dX0_likelihood_8 (by decide) ?_
    refine ab_callSr [_, _] dX0_likelihood_9 ml_X0_82 mk_X2_inLeastTerms (c_least (p := (0, 1)) (k := 2) (b := 1) (Nat.le_refl _) (Nat.le_refl _) hb (by unfold nK; decide) (by decide) (by unfold nK; decide)) (fun x h1 hq => ?_)
    refine ab_goto 29 dX0_likelihood_12 (by decide) ?_
    refine ab_retr dX0_likelihood_29 ?_
    first | (rw [od_yes c_4]; exact hq) | (rw [od_no c_4, ← fR_01]; exact hq)
set_option maxRecDepth 100000 in
set_option maxHeartbeats 4000000 in
theorem c_odds {k b n hx hy : Nat} {h : ab_H} {x p : Int32} (hk : 4 ≤ k) (hb1 : 1 ≤ b) (hb : ab_bs h) (hC : at_C (ab_sh h) (ab_r h)) (hD : bd_C n hx hy 6 h) : ab_M k b mX11_odds [.ref 5, .int x, .int p] h (ab_pl (ab_oLK 37 (ab_gr [] [] h) h (sp_odds n hx hy x p))) := by
  refine ab_enter ?_
  refine ab_iload_n dX11_odds_0 rfl ?_
  refine ab_callSb [_] dX11_odds_1 ml_X11_139 mk_X11_isWay (c_isWay (k := 0) (b := 0)) (fun t1 hh0 hq => ?_)
  obtain ⟨hhe, rfl⟩ := hq
  rw [hhe]
  refine ab_bif_eq 14 dX11_odds_4 (by decide) (fun c_4 => ?_) (fun c_4 => ?_)
  · skip
    refine ab_aload_n dX11_odds_14 rfl ?_
    refine ab_bipush (v := -2) dX11_odds_15 (by decide) ?_
    refine ab_callVl [_] dX11_odds_17 ml_X11_148 mk_X11_refuseFar hC.hs (c_refuseFar (k := 1) (b := 0) (c := 2) (Nat.le_refl _) hC (by decide) (by omega) (by omega)) (fun v1 hh1 hq => ?_)
    obtain ⟨hv, hh⟩ := hq
    refine ab_retl dX11_odds_20 ?_
    exact ab_oLK_no (by unfold sp_odds; rw [if_neg (fun q => by first | exact ab_tf q.1 c_4 | exact ab_tf q.2 c_11)]) hv hh
  · skip
    refine ab_iload_n dX11_odds_7 rfl ?_
    refine ab_callSb [_] dX11_odds_8 ml_X11_145 mk_X11_isPartOfFraction (c_isPartOfFraction (k := 0) (b := 0)) (fun t2 hh2 hq => ?_)
    obtain ⟨hhe, rfl⟩ := hq
    rw [hhe]
    refine ab_bif_ne 21 dX11_odds_11 (by decide) (fun c_11 => ?_) (fun c_11 => ?_)
    · skip
      obtain ⟨w, rfl, hw, -⟩ := ab_inr_nat (n := 3) c_4
      refine ab_aload_n dX11_odds_21 rfl ?_
      refine ab_getR dX11_odds_22 fl_X11_10 hC.hs hC.p5_0 ?_
      refine ab_iload_n dX11_odds_25 rfl ?_
      refine ab_callVr [_] dX11_odds_26 ml_X11_152 mk_X0_likelihood hC.board.1 (c_likelihood (k := 3) (b := 1) (Nat.le_refl _) (Nat.le_refl _) hb hC.board hD (by omega)) (fun rr h2 hq => ?_)
      obtain ⟨hg, hf⟩ := hq
      refine ab_iload_n dX11_odds_29 rfl ?_
      refine ab_callVl [_] dX11_odds_30 ml_X11_156 mk_X2_told hf.2.2.1 (c_fr_told (k := 0) (b := 0) hf) (fun v3 hh3 hq => ?_)
      obtain ⟨hhe, rfl⟩ := hq
      rw [hhe]
      refine ab_retl dX11_odds_33 ?_
      exact ab_oLK_ok (by unfold sp_odds; rw [if_pos ⟨c_4, c_11⟩, nI_clamp (by omega)]) hg
    · skip
      refine ab_aload_n dX11_odds_14 rfl ?_
      refine ab_bipush (v := -2) dX11_odds_15 (by decide) ?_
      refine ab_callVl [_] dX11_odds_17 ml_X11_148 mk_X11_refuseFar hC.hs (c_refuseFar (k := 1) (b := 0) (c := 2) (Nat.le_refl _) hC (by decide) (by omega) (by omega)) (fun v1 hh1 hq => ?_)
      obtain ⟨hv, hh⟩ := hq
      refine ab_retl dX11_odds_20 ?_
      exact ab_oLK_no (by unfold sp_odds; rw [if_neg (fun q => by first | exact ab_tf q.1 c_4 | exact ab_tf q.2 c_11)]) hv hh
set_option maxRecDepth 100000 in
set_option maxHeartbeats 4000000 in
theorem m_odds {k b n hx hy : Nat} {h : ab_H} {x p : Int32} (hk : 3 ≤ k) (hM : at_M (ab_sh h) (ab_r h)) (hD : bd_Mo n hx hy h) : ab_M k b mX12_odds [.ref 50, .int x, .int p] h (ab_pl (ab_oLK 51 (ab_fr [] h) h (sp_odds n hx hy x p))) := by
  refine ab_enter ?_
  have hb85 := bd_n_le n hD.n4
  refine ab_iload_n dX12_odds_0 rfl ?_
  refine ab_callSb [_] dX12_odds_1 ml_X12_174 mk_X12_isWay (m_isWay (k := 1) (b := 0) (Nat.le_refl _)) (fun t1 hh0 hq => ?_)
  obtain ⟨hhe, rfl⟩ := hq
  rw [hhe]
  refine ab_bif_eq 17 dX12_odds_4 (by decide) (fun c_4 => ?_) (fun c_4 => ?_)
  · skip
    refine ab_aload_n dX12_odds_17 rfl ?_
    refine ab_bipush (v := -2) dX12_odds_18 (by decide) ?_
    refine ab_callVl [_] dX12_odds_20 ml_X12_178 mk_X12_refusedFar hM.hs (m_refusedFar (k := 1) (b := 0) (c := 2) (Nat.le_refl _) hM (by decide) (by omega) (by omega)) (fun v1 hh1 hq => ?_)
    obtain ⟨hv, hh⟩ := hq
    refine ab_retl dX12_odds_23 ?_
    exact ab_oLK_no (by unfold sp_odds; rw [if_neg (fun q => by first | exact ab_tf q.1 c_4 | exact ab_tf q.2 c_14)]) hv hh
  · skip
    refine ab_iload_n dX12_odds_7 rfl ?_
    refine ab_i2l dX12_odds_8 ?_
    refine ab_lconst (v := 0) dX12_odds_9 (by decide) ?_
    refine ab_lconst (v := 1) dX12_odds_10 (by decide) ?_
    refine ab_callSb [_, _, _] dX12_odds_11 ml_X12_123 mk_X12_isIn (m_isIn (k := 0) (b := 0) (Int32.toInt_toInt64 _) (lo := 0) (by decide) (hi := 1) (by decide)) (fun t2 hh2 hq => ?_)
    obtain ⟨hhe, rfl⟩ := hq
    rw [hhe]
    refine ab_bif_ne 24 dX12_odds_14 (by decide) (fun c_14 => ?_) (fun c_14 => ?_)
    · skip
      obtain ⟨w, rfl, hw, -⟩ := ab_inr_nat (n := 3) c_4
      replace c_14 : ab_inr 0 1 p = true := c_14
      have hnl := bd_num_le (fun i => (bd_P n hx hy i).1 = w) (bd_n n)
      refine ab_aload_n dX12_odds_24 rfl ?_
      refine ab_callVn [] dX12_odds_25 ml_X12_119 mk_X12_side hM.hs (m_side (k := 0) (b := 0) hM hD.f1 hD.n4) (fun x h1 hq => ?_)
      obtain ⟨hhe, rfl⟩ := hq
      rw [hhe]
      refine ab_aload_n dX12_odds_28 rfl ?_
      refine ab_callVn [] dX12_odds_29 ml_X12_119 mk_X12_side hM.hs (m_side (k := 0) (b := 0) hM hD.f1 hD.n4) (fun x h1 hq => ?_)
      obtain ⟨hhe, rfl⟩ := hq
      rw [hhe]
      refine ab_nmulR dX12_odds_32 ?_
      rw [bd_n3 n hD.n4]
      refine ab_iconst (v := nI 1) dX12_odds_33 (by decide) ?_
      refine ab_nsubR dX12_odds_34 (by omega) ?_
      rw [Nat.add_sub_cancel]
      refine ab_sti_n (ls' := [_, _, _, _]) dX12_odds_35 (by decide) rfl ?_
      refine ab_iload_n dX12_odds_36 rfl ?_
      refine ab_nif_ne 45 dX12_odds_37 (by decide) (by omega) (fun c_37 => ?_) (fun c_37 => ?_)
      · skip
        refine ab_ldc2 dX12_odds_45 kc_X12_172 ?_
        refine ab_topL (show (3 : Int64) = zI ((3 : Nat) : Int) by decide) ?_
        refine ab_aload_n dX12_odds_48 rfl ?_
        refine ab_iload_n dX12_odds_49 rfl ?_
        refine ab_callVn [_] dX12_odds_50 ml_X12_166 mk_X12_inWay hM.hs (m_inWay (k := 0) (b := 0) hM hD (by omega)) (fun x h1 hq => ?_)
        obtain ⟨hhe, rfl⟩ := hq
        rw [hhe]
        refine ab_i2l dX12_odds_53 ?_
        refine ab_topL (zI_i2l (by omega)) ?_
        refine ab_lmul dX12_odds_54 ?_
        refine ab_topL (zI_mulN _ _) ?_
        refine ab_iload_n dX12_odds_55 rfl ?_
        refine ab_i2l dX12_odds_56 ?_
        refine ab_topL (zI_i2l (by omega)) ?_
        refine ab_iload_n dX12_odds_57 rfl ?_
        refine ab_callSl [_, _, _] dX12_odds_58 ml_X12_182 mk_X12_part (m_part (P := ((3 * (bd_num (fun i => (bd_P n hx hy i).1 = w) (bd_n n)) : Nat), 3 * bd_n n)) (k := 2) (b := 0) (Nat.le_refl _) (nK_of (by simp only [Int.natAbs_natCast]; omega)) (by simp only; omega) (nK_of (by simp only; omega))) (fun v3 hh3 hq => ?_)
        obtain ⟨hhe, rfl⟩ := hq
        rw [hhe]
        refine ab_retl dX12_odds_61 ?_
        first | exact ab_oLK_ok (by unfold sp_odds; rw [if_pos ⟨c_4, c_14⟩, nI_clamp (by omega), od_yes3 (by omega)]) (ab_fr.rf h) | exact ab_oLK_ok (by unfold sp_odds; rw [if_pos ⟨c_4, c_14⟩, nI_clamp (by omega), od_no (by omega), od_01 c_14]) (ab_fr.rf h)
      · skip
        refine ab_iload_n dX12_odds_40 rfl ?_
        refine ab_i2l dX12_odds_41 ?_
        refine ab_goto 61 dX12_odds_42 (by decide) ?_
        refine ab_retl dX12_odds_61 ?_
        first | exact ab_oLK_ok (by unfold sp_odds; rw [if_pos ⟨c_4, c_14⟩, nI_clamp (by omega), od_yes3 (by omega)]) (ab_fr.rf h) | exact ab_oLK_ok (by unfold sp_odds; rw [if_pos ⟨c_4, c_14⟩, nI_clamp (by omega), od_no (by omega), od_01 c_14]) (ab_fr.rf h)
    · skip
      refine ab_aload_n dX12_odds_17 rfl ?_
      refine ab_bipush (v := -2) dX12_odds_18 (by decide) ?_
      refine ab_callVl [_] dX12_odds_20 ml_X12_178 mk_X12_refusedFar hM.hs (m_refusedFar (k := 1) (b := 0) (c := 2) (Nat.le_refl _) hM (by decide) (by omega) (by omega)) (fun v1 hh1 hq => ?_)
      obtain ⟨hv, hh⟩ := hq
      refine ab_retl dX12_odds_23 ?_
      exact ab_oLK_no (by unfold sp_odds; rw [if_neg (fun q => by first | exact ab_tf q.1 c_4 | exact ab_tf q.2 c_14)]) hv hh
