/-! ===== the law: points, triangles ===== -/
theorem iC_gp {W : wS} {y : xS} {h h1 : ab_H} (f : ab_gr [6, 7, 8, 9, 10, 11, 14, 19] [20, 21] h h1) (hb : ab_bs h) (H : iC W h) (c : gp_C y h1) : iC (y, W.2.1, W.2.2.1, W.2.2.2.1, W.2.2.2.2) h1 :=
  ⟨c, H.2.1.gr f hb (by simp) (by simp), H.2.2.1.gr f hb (fun a z => by simp at z; omega) (fun a z => by simp at z; omega) (by simp) (by simp) (by simp) (by simp) (by simp), H.2.2.2.1.gr f hb (fun a z => by simp at z; omega) (fun a z => by simp at z; omega) (fun a q1 q2 q3 z => by simp at z; omega) (fun a q1 q2 q3 z => by simp at z; omega), H.2.2.2.2.gr f hb (fun a q1 q2 q3 z => by simp at z; omega)⟩
theorem iM_gp {W : wS} {y : xS} {h h1 : ab_H} (f : ab_fM [52, 53, 54, 55, 56, 57, 62, 63, 64] [1, 2, 3, 4, 15, 17] h h1) (H : iM W h) (c : gp_M y h1) : iM (y, W.2.1, W.2.2.1, W.2.2.2.1, W.2.2.2.2) h1 :=
  ⟨c, H.2.1.fM f (by simp) (by simp), H.2.2.1.fM f (fun a q1 q2 z => by simp at z; omega) (fun k q1 q2 z => by simp at z; omega), H.2.2.2.1.fM f (fun a q1 q2 z => by simp at z; omega), H.2.2.2.2.fM f (by simp) (by simp)⟩
theorem iC_P {W : wS} {s : sS} {h h1 : ab_H} (f : ab_gr [19] [20] h h1) (hb : ab_bs h) (H : iC W h) (c : sh_C 19 s h1) : iC ((W.1.1, W.1.2.1, W.1.2.2.1, W.1.2.2.2.1, s), W.2.1, W.2.2.1, W.2.2.2.1, W.2.2.2.2) h1 :=
  iC_gp (f.mono (by simp) (by simp)) hb H ⟨H.1.1.gr f hb (by decide) (by intro a q1 q2; simp; omega), H.1.2.1.gr f hb (by decide) (by simp), c⟩
theorem iC_T {W : wS} {s : sS} {h h1 : ab_H} (f : ab_gr [19] [21] h h1) (hb : ab_bs h) (H : iC W h) (c : sh_C 19 s h1) : iC ((W.1.1, W.1.2.1, W.1.2.2.1, W.1.2.2.2.1, s), W.2.1, W.2.2.1, W.2.2.2.1, W.2.2.2.2) h1 :=
  iC_gp (f.mono (by simp) (by simp)) hb H ⟨H.1.1.gr f hb (by decide) (by intro a q1 q2; simp; omega), H.1.2.1.gr f hb (by decide) (by simp), c⟩
theorem iM_P {W : wS} {s : sS} {h h1 : ab_H} (f : ab_fM [62] [15] h h1) (H : iM W h) (c : sh_M s h1) : iM ((W.1.1, W.1.2.1, W.1.2.2.1, W.1.2.2.2.1, s), W.2.1, W.2.2.1, W.2.2.2.1, W.2.2.2.2) h1 :=
  iM_gp (f.mono (by simp) (by simp)) H ⟨H.1.1.fM f (by intro a q1 q2; simp; omega) (by intro k q1 q2; simp; omega), H.1.2.1.fM f (by decide) (by simp), c⟩
theorem iM_T {W : wS} {s : sS} {h h1 : ab_H} (f : ab_fM [63, 64] [17] h h1) (H : iM W h) (c : sh_M s h1) : iM ((W.1.1, W.1.2.1, W.1.2.2.1, W.1.2.2.2.1, s), W.2.1, W.2.2.1, W.2.2.2.1, W.2.2.2.2) h1 :=
  iM_gp (f.mono (by simp) (by simp)) H ⟨H.1.1.fM f (by intro a q1 q2; simp; omega) (by intro k q1 q2; simp; omega), H.1.2.1.fM f (by decide) (by simp), c⟩
set_option maxRecDepth 100000 in
set_option maxHeartbeats 4000000 in
theorem law_15 {k b i : Nat} {h : ab_H} {W : wS} {post : Value → ab_H → Prop} (hk : 12 ≤ k) (hb9 : 110 ≤ b) (H : INV W h) (hn : (ab_e h 1).1 < 2147483648) (hi : i + 5 ≤ (ab_e h 1).1) (cont : ∀ (W' : wS) (h' : ab_H), INV W' h' → ab_e h' = ab_e h → ab_R k (b - 110) mL_law 1396 [some (.ref 1), some (.ref 5), some (.ref 50), some (.int (nI i))] [] h' post) : ab_R k b mL_law 719 [some (.ref 1), some (.ref 5), some (.ref 50), some (.int (nI i))] [] h post := by
  refine ab_aload_n dL_law_719 rfl ?_
  refine ab_aload_n dL_law_720 rfl ?_
  refine ab_iload_n dL_law_721 rfl ?_
  refine ab_iconst (v := nI 1) dL_law_722 (by decide) ?_
  refine ab_naddR dL_law_723 ?_
  refine ab_eald dL_law_724 rfl (by omega) rfl ?_
  refine ab_aload_n dL_law_725 rfl ?_
  refine ab_iload_n dL_law_726 rfl ?_
  refine ab_iconst (v := nI 2) dL_law_727 (by decide) ?_
  refine ab_naddR dL_law_728 ?_
  refine ab_eald dL_law_729 rfl (by omega) rfl ?_
  refine ab_callVi [_, _] dL_law_730 ml_L_80 mk_X11_point H.2.2.1.hs (c_point (k := 5) (b := 3) (Nat.le_refl _) (Nat.le_refl _) H.1 H.2.2.1 H.2.2.2.2.1.1.2.2) (fun v1 h1 hq1 => ?_)
  have g1 := oX_gr (S := [19]) (T := [20]) hq1 (fun q => q.1)
  have ee1 := g1.2.1
  obtain ⟨hM1, hI1⟩ := INV_mid H g1 (by intro a z; simp at z; omega) (by intro a z; simp at z; omega)
  refine ab_aload_n dL_law_733 rfl ?_
  refine ab_aload_n dL_law_734 rfl ?_
  refine ab_iload_n dL_law_735 rfl ?_
  refine ab_iconst (v := nI 1) dL_law_736 (by decide) ?_
  refine ab_naddR dL_law_737 ?_
  refine ab_eald dL_law_738 rfl (by rw [ee1]; omega) (show _ = (ab_e h 1).2 (i + 1) by rw [ee1]) ?_
  refine ab_aload_n dL_law_739 rfl ?_
  refine ab_iload_n dL_law_740 rfl ?_
  refine ab_iconst (v := nI 2) dL_law_741 (by decide) ?_
  refine ab_naddR dL_law_742 ?_
  refine ab_eald dL_law_743 rfl (by rw [ee1]; omega) (show _ = (ab_e h 1).2 (i + 2) by rw [ee1]) ?_
  refine ab_callVi [_, _] dL_law_744 ml_L_83 mk_X12_point hM1.hs (m_point (k := 1) (b := 0) (Nat.le_refl _) hM1 hI1.1.2.2) (fun v2 h2 hq2 => ?_)
  have ee2 := (oX_fM hq2 (fun q => q.1)).trans ee1
  obtain ⟨ev, W2, H2⟩ := both_I H hq1 hq2 (fun x _ q1 q2 => ⟨_, INV_ok H q1.1 (by intro a z; simp at z; omega) (by intro a z; simp at z; simp; omega) (iC_P q1.1 H.1 H.2.2.2.2.1 q1.2) q2.1 (by intro a z; simp at z; omega) (iM_P q2.1 hI1 q2.2)⟩)
  refine ab_icmp_eq 1396 dL_law_747 (by decide) (fun c_747 => ?_) (fun c_747 => ?_)
  · skip
    exact ab_less (by omega) (cont W2 h2 H2 ee2)
  · skip
    exact absurd ev c_747
set_option maxRecDepth 100000 in
set_option maxHeartbeats 4000000 in
theorem law_17 {k b i : Nat} {h : ab_H} {W : wS} {post : Value → ab_H → Prop} (hk : 12 ≤ k) (hb9 : 110 ≤ b) (H : INV W h) (hn : (ab_e h 1).1 < 2147483648) (hi : i + 5 ≤ (ab_e h 1).1) (cont : ∀ (W' : wS) (h' : ab_H), INV W' h' → ab_e h' = ab_e h → ab_R k (b - 110) mL_law 1396 [some (.ref 1), some (.ref 5), some (.ref 50), some (.int (nI i))] [] h' post) : ab_R k b mL_law 785 [some (.ref 1), some (.ref 5), some (.ref 50), some (.int (nI i))] [] h post := by
  refine ab_aload_n dL_law_785 rfl ?_
  refine ab_aload_n dL_law_786 rfl ?_
  refine ab_iload_n dL_law_787 rfl ?_
  refine ab_iconst (v := nI 1) dL_law_788 (by decide) ?_
  refine ab_naddR dL_law_789 ?_
  refine ab_eald dL_law_790 rfl (by omega) rfl ?_
  refine ab_aload_n dL_law_791 rfl ?_
  refine ab_iload_n dL_law_792 rfl ?_
  refine ab_iconst (v := nI 2) dL_law_793 (by decide) ?_
  refine ab_naddR dL_law_794 ?_
  refine ab_eald dL_law_795 rfl (by omega) rfl ?_
  refine ab_aload_n dL_law_796 rfl ?_
  refine ab_iload_n dL_law_797 rfl ?_
  refine ab_iconst (v := nI 3) dL_law_798 (by decide) ?_
  refine ab_naddR dL_law_799 ?_
  refine ab_eald dL_law_800 rfl (by omega) rfl ?_
  refine ab_aload_n dL_law_801 rfl ?_
  refine ab_iload_n dL_law_802 rfl ?_
  refine ab_iconst (v := nI 4) dL_law_803 (by decide) ?_
  refine ab_naddR dL_law_804 ?_
  refine ab_eald dL_law_805 rfl (by omega) rfl ?_
  refine ab_callVi [_, _, _, _] dL_law_806 ml_L_88 mk_X11_triangle H.2.2.1.hs (c_triangle (k := 6) (b := 9) (Nat.le_refl _) (Nat.le_refl _) H.1 H.2.1 H.2.2.1 H.2.2.2.2.1.1.2.2) (fun v1 h1 hq1 => ?_)
  have g1 := oX_gr (S := [19]) (T := [21]) hq1 (fun q => q.1)
  have ee1 := g1.2.1
  obtain ⟨hM1, hI1⟩ := INV_mid H g1 (by intro a z; simp at z; omega) (by intro a z; simp at z; omega)
  refine ab_aload_n dL_law_809 rfl ?_
  refine ab_aload_n dL_law_810 rfl ?_
  refine ab_iload_n dL_law_811 rfl ?_
  refine ab_iconst (v := nI 1) dL_law_812 (by decide) ?_
  refine ab_naddR dL_law_813 ?_
  refine ab_eald dL_law_814 rfl (by rw [ee1]; omega) (show _ = (ab_e h 1).2 (i + 1) by rw [ee1]) ?_
  refine ab_aload_n dL_law_815 rfl ?_
  refine ab_iload_n dL_law_816 rfl ?_
  refine ab_iconst (v := nI 2) dL_law_817 (by decide) ?_
  refine ab_naddR dL_law_818 ?_
  refine ab_eald dL_law_819 rfl (by rw [ee1]; omega) (show _ = (ab_e h 1).2 (i + 2) by rw [ee1]) ?_
  refine ab_aload_n dL_law_820 rfl ?_
  refine ab_iload_n dL_law_821 rfl ?_
  refine ab_iconst (v := nI 3) dL_law_822 (by decide) ?_
  refine ab_naddR dL_law_823 ?_
  refine ab_eald dL_law_824 rfl (by rw [ee1]; omega) (show _ = (ab_e h 1).2 (i + 3) by rw [ee1]) ?_
  refine ab_aload_n dL_law_825 rfl ?_
  refine ab_iload_n dL_law_826 rfl ?_
  refine ab_iconst (v := nI 4) dL_law_827 (by decide) ?_
  refine ab_naddR dL_law_828 ?_
  refine ab_eald dL_law_829 rfl (by rw [ee1]; omega) (show _ = (ab_e h 1).2 (i + 4) by rw [ee1]) ?_
  refine ab_callVi [_, _, _, _] dL_law_830 ml_L_91 mk_X12_triangle hM1.hs (m_triangle (k := 3) (b := 0) (Nat.le_refl _) hM1 hI1.1.2.2) (fun v2 h2 hq2 => ?_)
  have ee2 := (oX_fM hq2 (fun q => q.1)).trans ee1
  obtain ⟨ev, W2, H2⟩ := both_I H hq1 hq2 (fun x _ q1 q2 => ⟨_, INV_ok H q1.1 (by intro a z; simp at z; omega) (by intro a z; simp at z; simp; omega) (iC_T q1.1 H.1 H.2.2.2.2.1 q1.2) q2.1 (by intro a z; simp at z; omega) (iM_T q2.1 hI1 q2.2)⟩)
  refine ab_icmp_eq 1396 dL_law_833 (by decide) (fun c_833 => ?_) (fun c_833 => ?_)
  · skip
    exact ab_less (by omega) (cont W2 h2 H2 ee2)
  · skip
    exact absurd ev c_833
