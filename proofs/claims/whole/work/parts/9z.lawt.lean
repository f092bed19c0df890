/-! ===== the law: text ===== -/
set_option maxRecDepth 100000 in
set_option maxHeartbeats 4000000 in
theorem law_1 {k b i : Nat} {h : ab_H} {W : wS} {post : Value → ab_H → Prop} (hk : 12 ≤ k) (hb9 : 110 ≤ b) (H : INV W h) (hn : (ab_e h 1).1 < 2147483648) (hi : i + 5 ≤ (ab_e h 1).1) (cont : ∀ (W' : wS) (h' : ab_H), INV W' h' → ab_e h' = ab_e h → ab_R k (b - 110) mL_law 1396 [some (.ref 1), some (.ref 5), some (.ref 50), some (.int (nI i))] [] h' post) : ab_R k b mL_law 215 [some (.ref 1), some (.ref 5), some (.ref 50), some (.int (nI i))] [] h post := by
  refine ab_aload_n dL_law_215 rfl ?_
  refine ab_callVi [] dL_law_216 ml_L_18 mk_X11_text H.2.2.1.hs (c_text (k := 9) (b := 108) (Nat.le_refl _) (Nat.le_refl _) H.1 H.2.1 H.2.2.1 H.2.2.2.2.1.2.1 H.2.2.2.2.1.1) (fun v1 h1 hq1 => ?_)
  obtain ⟨e1, g1, q1, q2⟩ := hq1
  obtain ⟨hM1, hI1⟩ := INV_mid H g1 (by intro a z; simp at z; omega) (by intro a z; simp at z; omega)
  have b1 := H.1
  have C := H.2.2.2.2.1
  rw [e1]
  have cC : iC ((sp_text W.2.1 W.1).1, (0, W.2.1.2), W.2.2.1, W.2.2.2.1, W.2.2.2.2) h1 := ⟨q1, q2, C.2.2.1.gr g1 b1 (fun a z => by simp at z; omega) (fun a z => by simp at z; omega) (by simp) (by simp) (by simp) (by simp) (by simp), C.2.2.2.1.gr g1 b1 (fun a z => by simp at z; omega) (fun a z => by simp at z; omega) (fun a q1 q2 q3 z => by simp at z; omega) (fun a q1 q2 q3 z => by simp at z; omega), C.2.2.2.2.gr g1 b1 (fun a q1 q2 q3 z => by simp at z; omega)⟩
  refine ab_aload_n dL_law_219 rfl ?_
  refine ab_callVi [] dL_law_220 ml_L_22 mk_X12_text hM1.hs (m_text (k := 8) (b := 0) (Nat.le_refl _) hM1 hI1.2.1 hI1.1) (fun v2 h2 hq2 => ?_)
  obtain ⟨e2, f2, q3, q4⟩ := hq2
  rw [e2]
  have mM : iM ((sp_text W.2.1 W.1).1, (0, W.2.1.2), W.2.2.1, W.2.2.2.1, W.2.2.2.2) h2 := ⟨q3, q4, hI1.2.2.1.fM f2 (fun a q1 q2 z => by simp at z; omega) (fun k q1 q2 z => by simp at z; omega), hI1.2.2.2.1.fM f2 (fun a q1 q2 z => by simp at z; omega), hI1.2.2.2.2.fM f2 (by simp) (by simp)⟩
  have H2 := INV_ok H g1 (by intro a z; simp at z; omega) (by intro a z; simp at z; simp; omega) cC f2 (by intro a z; simp at z; omega) mM
  refine ab_icmp_eq 1396 dL_law_223 (by decide) (fun c_223 => ?_) (fun c_223 => ?_)
  · skip
    exact ab_less (by omega) (cont _ h2 H2 (f2.2.2.2.1.trans g1.2.1))
  · skip
    exact absurd rfl c_223
