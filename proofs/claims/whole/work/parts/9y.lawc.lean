/-! ===== the law: count ===== -/
set_option maxRecDepth 100000 in
set_option maxHeartbeats 4000000 in
theorem law_35 {k b i : Nat} {h : ab_H} {W : wS} {post : Value → ab_H → Prop} (hk : 12 ≤ k) (hb9 : 110 ≤ b) (H : INV W h) (hn : (ab_e h 1).1 < 2147483648) (hi : i + 5 ≤ (ab_e h 1).1) (cont : ∀ (W' : wS) (h' : ab_H), INV W' h' → ab_e h' = ab_e h → ab_R k (b - 110) mL_law 1396 [some (.ref 1), some (.ref 5), some (.ref 50), some (.int (nI i))] [] h' post) : ab_R k b mL_law 1373 [some (.ref 1), some (.ref 5), some (.ref 50), some (.int (nI i))] [] h post := by
  refine ab_aload_n dL_law_1373 rfl ?_
  refine ab_aload_n dL_law_1374 rfl ?_
  refine ab_iload_n dL_law_1375 rfl ?_
  refine ab_iconst (v := nI 1) dL_law_1376 (by decide) ?_
  refine ab_naddR dL_law_1377 ?_
  refine ab_eald dL_law_1378 rfl (by omega) rfl ?_
  refine ab_callVi [_] dL_law_1379 ml_L_161 mk_X11_count H.2.2.1.hs (c_count (k := 0) (b := 0) (rf := ab_i h 37) H.2.2.1 H.2.2.2.2.1.1.1 H.2.2.2.2.1.1.2.2 H.2.2.2.2.1.2.1 (fun _ _ _ => rfl)) (fun v1 h1 hq1 => ?_)
  obtain ⟨e1, ee1⟩ := hq1
  rw [ee1, e1]
  refine ab_aload_n dL_law_1382 rfl ?_
  refine ab_aload_n dL_law_1383 rfl ?_
  refine ab_iload_n dL_law_1384 rfl ?_
  refine ab_iconst (v := nI 1) dL_law_1385 (by decide) ?_
  refine ab_naddR dL_law_1386 ?_
  refine ab_eald dL_law_1387 rfl (by omega) rfl ?_
  refine ab_callVi [_] dL_law_1388 ml_L_164 mk_X12_count H.2.2.2.1.hs (m_count (k := 1) (b := 0) (rf := ab_i h 37) (Nat.le_refl _) H.2.2.2.1 H.2.2.2.2.2.1.1.1 H.2.2.2.2.2.1.1.2.2 H.2.2.2.2.2.1.2.1 (fun c _ _ => (H.2.2.2.2.2.2 c).symm)) (fun v2 h2 hq2 => ?_)
  obtain ⟨e2, ee2⟩ := hq2
  rw [ee2, e2]
  refine ab_icmp_eq 1396 dL_law_1391 (by decide) (fun c_1391 => ?_) (fun c_1391 => ?_)
  · skip
    exact ab_less (by omega) (cont W h H rfl)
  · skip
    exact absurd rfl c_1391
