/-! ===== the law: on ===== -/
set_option maxRecDepth 100000 in
set_option maxHeartbeats 4000000 in
theorem law_34 {k b i : Nat} {h : ab_H} {W : wS} {post : Value → ab_H → Prop} (hk : 12 ≤ k) (hb9 : 110 ≤ b) (H : INV W h) (hn : (ab_e h 1).1 < 2147483648) (hi : i + 5 ≤ (ab_e h 1).1) (cont : ∀ (W' : wS) (h' : ab_H), INV W' h' → ab_e h' = ab_e h → ab_R k (b - 110) mL_law 1396 [some (.ref 1), some (.ref 5), some (.ref 50), some (.int (nI i))] [] h' post) : ab_R k b mL_law 1360 [some (.ref 1), some (.ref 5), some (.ref 50), some (.int (nI i))] [] h post := by
  obtain ⟨X9, e9, im, R9, L9⟩ := W
  cases im with
  | none =>
    refine ab_aload_n dL_law_1360 rfl ?_
    refine ab_callVi [] dL_law_1361 ml_L_157 mk_X11_on H.2.2.1.hs (c_on (k := 9) (b := 0) (Nat.le_refl _) H.1 H.2.2.1 H.2.2.2.2.1.2.2.1) (fun v1 h1 hq1 => ?_)
    replace hq1 : ab_oX 37 (ab_gr [] [] h) (ab_gr [] [] h) (.inl 3) v1 h1 := hq1
    have g1 := oX_gr (S := []) (T := []) hq1 (fun q => q)
    have ee1 := g1.2.1
    obtain ⟨hM1, hI1⟩ := INV_mid H g1 (by intro a z; simp at z; omega) (fun a z => by cases z)
    refine ab_aload_n dL_law_1364 rfl ?_
    refine ab_callVi [] dL_law_1365 ml_L_160 mk_X12_on hM1.hs (m_on (k := 6) (b := 0) (Nat.le_refl _) hM1 hI1.2.2.1) (fun v2 h2 hq2 => ?_)
    replace hq2 : ab_oX 51 (ab_fM [] [] h1) (ab_fM [] [] h1) (.inl 3) v2 h2 := hq2
    have ee2 := (oX_fM hq2 (fun q => q)).trans ee1
    obtain ⟨ev, W2, H2⟩ := both_I H hq1 hq2 (fun x q => by cases q)
    refine ab_icmp_eq 1396 dL_law_1368 (by decide) (fun c_1368 => ?_) (fun c_1368 => ?_)
    · skip
      exact ab_less (by omega) (cont W2 h2 H2 ee2)
    · skip
      exact absurd ev c_1368
  | some v9 =>
    obtain ⟨n, x, y, ρ, s⟩ := v9
    refine ab_aload_n dL_law_1360 rfl ?_
    refine ab_callVi [] dL_law_1361 ml_L_157 mk_X11_on H.2.2.1.hs (c_on (k := 9) (b := 0) (Nat.le_refl _) H.1 H.2.2.1 H.2.2.2.2.1.2.2.1) (fun v1 h1 hq1 => ?_)
    obtain ⟨e1, q1⟩ := hq1
    obtain ⟨g1, a1, a2, a3⟩ := q1 n x y ρ s rfl
    obtain ⟨hM1, hI1⟩ := INV_mid H g1 (by intro a z; simp at z; omega) (by intro a z; simp at z; omega)
    refine ab_aload_n dL_law_1364 rfl ?_
    refine ab_callVi [] dL_law_1365 ml_L_160 mk_X12_on hM1.hs (m_on (k := 6) (b := 0) (Nat.le_refl _) hM1 hI1.2.2.1) (fun v2 h2 hq2 => ?_)
    obtain ⟨e2, q2⟩ := hq2
    obtain ⟨f2, b1, b2, b3⟩ := q2 n x y ρ s rfl
    have H2 := INV_ok H g1 (by intro a z; simp at z; omega) (by intro a z; simp at z; simp; omega) (iC_gp (y := (n, x, y, ρ, s)) g1 H.1 H.2.2.2.2.1 ⟨a1, a2, a3⟩) f2 (by intro a z; simp at z; omega) (iM_gp (y := (n, x, y, ρ, s)) f2 hI1 ⟨b1, b2, b3⟩)
    refine ab_icmp_eq 1396 dL_law_1368 (by decide) (fun c_1368 => ?_) (fun c_1368 => ?_)
    · skip
      exact ab_less (by omega) (cont _ h2 H2 (f2.2.2.2.1.trans g1.2.1))
    · skip
      exact absurd (e1.trans e2.symm) c_1368
