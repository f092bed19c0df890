/-! ===== the law: rule ===== -/
theorem rho_up {ρ : Nat → Nat} {h h1 : ab_H} {a : Nat} {x y z : Int32} (hx : ab_inr 0 3 x = true) (hy : ab_inr 0 3 y = true) (hz : ab_inr 0 3 z = true) (e : h1 = ab_si h a (x.toNatClampNeg * 4 + y.toNatClampNeg) z) (H : ab_rho h a ρ) : ab_rho h1 a (ab_up ρ (x.toNatClampNeg * 4 + y.toNatClampNeg) z.toNatClampNeg) := by
  obtain ⟨w, rfl, hw, hw2⟩ := ab_inr_nat (n := 3) hz
  rw [nI_clamp hw2] at *
  intro j hj
  rw [e, ab_i_si_same]
  by_cases c : j = x.toNatClampNeg * 4 + y.toNatClampNeg
  · rw [if_pos c, c, ab_up_self]; exact ⟨rfl, by omega⟩
  · rw [if_neg c, ab_up_ne _ _ c]; exact H j hj
theorem iC_R {ρ : Nat → Nat} {W : wS} {h h1 : ab_H} (f : ab_fr [14] h h1) (hb : ab_bs h) (H : iC W h) (c : ab_rho h1 14 ρ) : iC ((W.1.1, W.1.2.1, W.1.2.2.1, ρ, W.1.2.2.2.2), W.2.1, W.2.2.1, W.2.2.2.1, W.2.2.2.2) h1 :=
  iC_gp ((ab_gr.of f).mono (by simp) (fun _ q => by cases q)) hb H ⟨H.1.1.gr (ab_gr.of f) hb (by decide) (by intro a q1 q2; simp; omega), c, H.1.2.2.gr (ab_gr.of f) (mem78 (by decide)) nil78 hb (by decide) (by simp) (by simp) (by simp)⟩
theorem iM_R {ρ : Nat → Nat} {W : wS} {h h1 : ab_H} (f : ab_fM [57] [] h h1) (H : iM W h) (c : ab_rho h1 57 ρ) : iM ((W.1.1, W.1.2.1, W.1.2.2.1, ρ, W.1.2.2.2.2), W.2.1, W.2.2.1, W.2.2.2.1, W.2.2.2.2) h1 :=
  iM_gp (f.mono (by simp) (by simp)) H ⟨H.1.1.fM f (by intro a q1 q2; simp; omega) (by simp), c, H.1.2.2.fM f (by intro a q1 q2; simp; omega) (by simp) (by simp)⟩
theorem sp_rule_i {ρ : Nat → Nat} {x y z v : Int32} (h : sp_rule ρ x y z = .inr v) : ab_inr 0 3 x = true ∧ ab_inr 0 3 y = true ∧ ab_inr 0 3 z = true := by
  unfold sp_rule at h
  split at h
  · rename_i q
    simpa [Bool.and_eq_true, and_assoc] using q
  · cases h
set_option maxRecDepth 100000 in
set_option maxHeartbeats 4000000 in
theorem law_8 {k b i : Nat} {h : ab_H} {W : wS} {post : Value → ab_H → Prop} (hk : 12 ≤ k) (hb9 : 110 ≤ b) (H : INV W h) (hn : (ab_e h 1).1 < 2147483648) (hi : i + 5 ≤ (ab_e h 1).1) (cont : ∀ (W' : wS) (h' : ab_H), INV W' h' → ab_e h' = ab_e h → ab_R k (b - 110) mL_law 1396 [some (.ref 1), some (.ref 5), some (.ref 50), some (.int (nI i))] [] h' post) : ab_R k b mL_law 447 [some (.ref 1), some (.ref 5), some (.ref 50), some (.int (nI i))] [] h post := by
  refine ab_aload_n dL_law_447 rfl ?_
  refine ab_aload_n dL_law_448 rfl ?_
  refine ab_iload_n dL_law_449 rfl ?_
  refine ab_iconst (v := nI 1) dL_law_450 (by decide) ?_
  refine ab_naddR dL_law_451 ?_
  refine ab_eald dL_law_452 rfl (by omega) rfl ?_
  refine ab_aload_n dL_law_453 rfl ?_
  refine ab_iload_n dL_law_454 rfl ?_
  refine ab_iconst (v := nI 2) dL_law_455 (by decide) ?_
  refine ab_naddR dL_law_456 ?_
  refine ab_eald dL_law_457 rfl (by omega) rfl ?_
  refine ab_aload_n dL_law_458 rfl ?_
  refine ab_iload_n dL_law_459 rfl ?_
  refine ab_iconst (v := nI 3) dL_law_460 (by decide) ?_
  refine ab_naddR dL_law_461 ?_
  refine ab_eald dL_law_462 rfl (by omega) rfl ?_
  refine ab_callVi [_, _, _] dL_law_463 ml_L_51 mk_X11_rule H.2.2.1.hs (c_rule (k := 1) (b := 0) (Nat.le_refl _) H.2.2.1 H.2.2.2.2.1.1.2.1) (fun v1 h1 hq1 => ?_)
  replace hq1 := ki_c hq1
  have g1 := oX_gr (S := [14]) (T := []) hq1 (fun q => by rw [q]; exact ab_gr.of ((ab_fr.rf h).si _ _ _ (by simp)))
  have ee1 := g1.2.1
  obtain ⟨hM1, hI1⟩ := INV_mid H g1 (by intro a z; simp at z; omega) (fun a z => by cases z)
  refine ab_aload_n dL_law_466 rfl ?_
  refine ab_aload_n dL_law_467 rfl ?_
  refine ab_iload_n dL_law_468 rfl ?_
  refine ab_iconst (v := nI 1) dL_law_469 (by decide) ?_
  refine ab_naddR dL_law_470 ?_
  refine ab_eald dL_law_471 rfl (by rw [ee1]; omega) (show _ = (ab_e h 1).2 (i + 1) by rw [ee1]) ?_
  refine ab_aload_n dL_law_472 rfl ?_
  refine ab_iload_n dL_law_473 rfl ?_
  refine ab_iconst (v := nI 2) dL_law_474 (by decide) ?_
  refine ab_naddR dL_law_475 ?_
  refine ab_eald dL_law_476 rfl (by rw [ee1]; omega) (show _ = (ab_e h 1).2 (i + 2) by rw [ee1]) ?_
  refine ab_aload_n dL_law_477 rfl ?_
  refine ab_iload_n dL_law_478 rfl ?_
  refine ab_iconst (v := nI 3) dL_law_479 (by decide) ?_
  refine ab_naddR dL_law_480 ?_
  refine ab_eald dL_law_481 rfl (by rw [ee1]; omega) (show _ = (ab_e h 1).2 (i + 3) by rw [ee1]) ?_
  refine ab_callVi [_, _, _] dL_law_482 ml_L_54 mk_X12_rule hM1.hs (m_rule (k := 2) (b := 0) (Nat.le_refl _) hM1 hI1.1.2.1) (fun v2 h2 hq2 => ?_)
  replace hq2 := ki_m hq2
  have ee2 := (oX_fM (S := [57]) (K0 := []) hq2 (fun q => by rw [q]; exact (ab_fM.rf h1).si _ _ (by simp) (by decide))).trans ee1
  obtain ⟨ev, W2, H2⟩ := both_I H hq1 hq2 (fun x hx q1 q2 => by
    obtain ⟨w1, w2, w3⟩ := sp_rule_i hx
    have fC : ab_fr [14] h h1 := by rw [q1]; exact (ab_fr.rf h).si _ _ _ (by simp)
    have fM : ab_fM [57] [] h1 h2 := by rw [q2]; exact (ab_fM.rf h1).si _ _ (by simp) (by decide)
    exact ⟨_, INV_ok H (ab_gr.of fC) (by intro a z; simp at z; omega) (fun a z => by cases z) (iC_R fC H.1 H.2.2.2.2.1 (rho_up w1 w2 w3 q1 H.2.2.2.2.1.1.2.1)) fM (by intro a z; simp at z; omega) (iM_R fM hI1 (rho_up w1 w2 w3 q2 hI1.1.2.1))⟩)
  refine ab_icmp_eq 1396 dL_law_485 (by decide) (fun c_485 => ?_) (fun c_485 => ?_)
  · skip
    exact ab_less (by omega) (cont W2 h2 H2 ee2)
  · skip
    exact absurd ev c_485
