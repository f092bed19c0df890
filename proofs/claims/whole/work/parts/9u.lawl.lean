/-! ===== the law: the questions with a long ===== -/
theorem lX_gr {S T : List Nat} {h h1 : ab_H} {K : ab_H → Prop} {o : Nat ⊕ Int64} {v : Int64} (hq : ab_lX 37 (ab_gr [] [] h) K o v h1) (hK : K h1 → ab_gr S T h h1) : ab_gr (37 :: S) T h h1 := by
  cases o with
  | inl c =>
    obtain ⟨-, h0, g, e⟩ := hq
    rw [e]
    exact (g.mono (fun _ q => by cases q) (fun _ q => by cases q)).siN _ _ (Or.inl List.mem_cons_self)
  | inr x => exact (hK hq.2).mono (fun _ q => List.mem_cons_of_mem _ q) (fun _ q => q)
theorem lX_fM {S K0 : List Nat} {h h1 : ab_H} {K : ab_H → Prop} {o : Nat ⊕ Int64} {v : Int64} (hq : ab_lX 51 (ab_fM [] [] h) K o v h1) (hK : K h1 → ab_fM S K0 h h1) : ab_e h1 = ab_e h := by
  cases o with
  | inl c =>
    obtain ⟨-, h0, g, e⟩ := hq
    rw [e]
    exact g.2.2.2.1
  | inr x => exact (hK hq.2).2.2.2.1
theorem both_L {W : wS} {h h1 h2 : ab_H} {KC KM : ab_H → Prop} {o : Nat ⊕ Int64} {v1 v2 : Int64} (H : INV W h) (hq1 : ab_lX 37 (ab_gr [] [] h) KC o v1 h1) (hq2 : ab_lX 51 (ab_fM [] [] h1) KM o v2 h2) (ok : ∀ x, o = .inr x → KC h1 → KM h2 → ∃ W', INV W' h2) : v1 = v2 ∧ ∃ W', INV W' h2 := by
  cases o with
  | inl c =>
    obtain ⟨e1, h0, g, e2⟩ := hq1
    obtain ⟨e3, h3, f, e4⟩ := hq2
    exact ⟨e1.trans e3.symm, W, INV_no H g e2 f e4⟩
  | inr x => exact ⟨hq1.1.trans hq2.1.symm, ok x rfl hq1.2 hq2.2⟩
theorem cl_c {S : List Nat} {h h1 : ab_H} {o : Nat ⊕ Int64} {v : Int64} (q : ab_oL 37 S h o v h1) : ab_lX 37 (ab_gr [] [] h) (ab_gr S [] h) o v h1 := by
  cases o with
  | inl c => exact ⟨q.1, h, ab_gr.rf h, q.2⟩
  | inr x => exact ⟨q.1, ab_gr.of q.2⟩
theorem cl_m {S : List Nat} {h h1 : ab_H} {o : Nat ⊕ Int64} {v : Int64} (h50 : 50 ∉ S) (q : ab_oL 51 S h o v h1) : ab_lX 51 (ab_fM [] [] h) (ab_fM S [] h) o v h1 := by
  cases o with
  | inl c => exact ⟨q.1, h, ab_fM.rf h, q.2⟩
  | inr x => exact ⟨q.1, ab_fM.of q.2 h50⟩
theorem ck_c {h h1 : ab_H} {o : Nat ⊕ Int64} {v : Int64} (q : ab_oLK 37 (ab_gr [] [] h) h o v h1) : ab_lX 37 (ab_gr [] [] h) (ab_gr [] [] h) o v h1 := by
  cases o with
  | inl c => exact ⟨q.1, h, ab_gr.rf h, q.2⟩
  | inr x => exact q
theorem ck_m {h h1 : ab_H} {o : Nat ⊕ Int64} {v : Int64} (q : ab_oLK 51 (ab_fr [] h) h o v h1) : ab_lX 51 (ab_fM [] [] h) (ab_fM [] [] h) o v h1 := by
  cases o with
  | inl c => exact ⟨q.1, h, ab_fM.rf h, q.2⟩
  | inr x => exact ⟨q.1, ab_fM.of q.2 (by simp)⟩
theorem lg_rf (x : Int64) : lg_cmp x x = 0 := by unfold lg_cmp; simp
set_option maxRecDepth 100000 in
set_option maxHeartbeats 4000000 in
theorem law_7 {k b i : Nat} {h : ab_H} {W : wS} {post : Value → ab_H → Prop} (hk : 12 ≤ k) (hb9 : 110 ≤ b) (H : INV W h) (hn : (ab_e h 1).1 < 2147483648) (hi : i + 5 ≤ (ab_e h 1).1) (cont : ∀ (W' : wS) (h' : ab_H), INV W' h' → ab_e h' = ab_e h → ab_R k (b - 110) mL_law 1396 [some (.ref 1), some (.ref 5), some (.ref 50), some (.int (nI i))] [] h' post) : ab_R k b mL_law 413 [some (.ref 1), some (.ref 5), some (.ref 50), some (.int (nI i))] [] h post := by
  refine ab_aload_n dL_law_413 rfl ?_
  refine ab_aload_n dL_law_414 rfl ?_
  refine ab_iload_n dL_law_415 rfl ?_
  refine ab_iconst (v := nI 1) dL_law_416 (by decide) ?_
  refine ab_naddR dL_law_417 ?_
  refine ab_eald dL_law_418 rfl (by omega) rfl ?_
  refine ab_aload_n dL_law_419 rfl ?_
  refine ab_iload_n dL_law_420 rfl ?_
  refine ab_iconst (v := nI 2) dL_law_421 (by decide) ?_
  refine ab_naddR dL_law_422 ?_
  refine ab_eald dL_law_423 rfl (by omega) rfl ?_
  refine ab_callVl [_, _] dL_law_424 ml_L_46 mk_X11_odds H.2.2.1.hs (c_odds (k := 4) (b := 1) (Nat.le_refl _) (Nat.le_refl _) H.1 H.2.2.1 H.2.2.2.2.1.1.1) (fun v1 h1 hq1 => ?_)
  replace hq1 := ck_c hq1
  have g1 := lX_gr (S := []) (T := []) hq1 (fun q => q)
  have ee1 := g1.2.1
  obtain ⟨hM1, hI1⟩ := INV_mid H g1 (by intro a z; simp at z; omega) (fun a z => by cases z)
  refine ab_aload_n dL_law_427 rfl ?_
  refine ab_aload_n dL_law_428 rfl ?_
  refine ab_iload_n dL_law_429 rfl ?_
  refine ab_iconst (v := nI 1) dL_law_430 (by decide) ?_
  refine ab_naddR dL_law_431 ?_
  refine ab_eald dL_law_432 rfl (by rw [ee1]; omega) (show _ = (ab_e h 1).2 (i + 1) by rw [ee1]) ?_
  refine ab_aload_n dL_law_433 rfl ?_
  refine ab_iload_n dL_law_434 rfl ?_
  refine ab_iconst (v := nI 2) dL_law_435 (by decide) ?_
  refine ab_naddR dL_law_436 ?_
  refine ab_eald dL_law_437 rfl (by rw [ee1]; omega) (show _ = (ab_e h 1).2 (i + 2) by rw [ee1]) ?_
  refine ab_callVl [_, _] dL_law_438 ml_L_50 mk_X12_odds hM1.hs (m_odds (k := 3) (b := 0) (Nat.le_refl _) hM1 hI1.1.1) (fun v2 h2 hq2 => ?_)
  replace hq2 := ck_m hq2
  have ee2 := (lX_fM hq2 (fun q => q)).trans ee1
  obtain ⟨ev, W2, H2⟩ := both_L H hq1 hq2 (fun x _ q1 q2 => ⟨W, INV_q H q1 (fun a z => by cases z) q2 (fun a z => by cases z) rfl⟩)
  refine ab_lcmp dL_law_441 ?_
  refine ab_if_eq 1396 dL_law_442 (by decide) (fun c_442 => ?_) (fun c_442 => ?_)
  · skip
    exact ab_less (by omega) (cont W2 h2 H2 ee2)
  · skip
    exact absurd (by rw [ev]; exact lg_rf v2) c_442
set_option maxRecDepth 100000 in
set_option maxHeartbeats 4000000 in
theorem law_9 {k b i : Nat} {h : ab_H} {W : wS} {post : Value → ab_H → Prop} (hk : 12 ≤ k) (hb9 : 110 ≤ b) (H : INV W h) (hn : (ab_e h 1).1 < 2147483648) (hi : i + 5 ≤ (ab_e h 1).1) (cont : ∀ (W' : wS) (h' : ab_H), INV W' h' → ab_e h' = ab_e h → ab_R k (b - 110) mL_law 1396 [some (.ref 1), some (.ref 5), some (.ref 50), some (.int (nI i))] [] h' post) : ab_R k b mL_law 490 [some (.ref 1), some (.ref 5), some (.ref 50), some (.int (nI i))] [] h post := by
  refine ab_aload_n dL_law_490 rfl ?_
  refine ab_aload_n dL_law_491 rfl ?_
  refine ab_iload_n dL_law_492 rfl ?_
  refine ab_iconst (v := nI 1) dL_law_493 (by decide) ?_
  refine ab_naddR dL_law_494 ?_
  refine ab_eald dL_law_495 rfl (by omega) rfl ?_
  refine ab_aload_n dL_law_496 rfl ?_
  refine ab_iload_n dL_law_497 rfl ?_
  refine ab_iconst (v := nI 2) dL_law_498 (by decide) ?_
  refine ab_naddR dL_law_499 ?_
  refine ab_eald dL_law_500 rfl (by omega) rfl ?_
  refine ab_aload_n dL_law_501 rfl ?_
  refine ab_iload_n dL_law_502 rfl ?_
  refine ab_iconst (v := nI 3) dL_law_503 (by decide) ?_
  refine ab_naddR dL_law_504 ?_
  refine ab_eald dL_law_505 rfl (by omega) rfl ?_
  refine ab_callVl [_, _, _] dL_law_506 ml_L_55 mk_X11_behind H.2.2.1.hs (c_behind (k := 3) (b := 0) (Nat.le_refl _) H.2.2.1 H.2.2.2.2.1.1.2.1) (fun v1 h1 hq1 => ?_)
  replace hq1 := cl_c hq1
  have g1 := lX_gr (S := [15, 16]) (T := []) hq1 (fun q => q)
  have ee1 := g1.2.1
  obtain ⟨hM1, hI1⟩ := INV_mid H g1 (by intro a z; simp at z; omega) (fun a z => by cases z)
  refine ab_aload_n dL_law_509 rfl ?_
  refine ab_aload_n dL_law_510 rfl ?_
  refine ab_iload_n dL_law_511 rfl ?_
  refine ab_iconst (v := nI 1) dL_law_512 (by decide) ?_
  refine ab_naddR dL_law_513 ?_
  refine ab_eald dL_law_514 rfl (by rw [ee1]; omega) (show _ = (ab_e h 1).2 (i + 1) by rw [ee1]) ?_
  refine ab_aload_n dL_law_515 rfl ?_
  refine ab_iload_n dL_law_516 rfl ?_
  refine ab_iconst (v := nI 2) dL_law_517 (by decide) ?_
  refine ab_naddR dL_law_518 ?_
  refine ab_eald dL_law_519 rfl (by rw [ee1]; omega) (show _ = (ab_e h 1).2 (i + 2) by rw [ee1]) ?_
  refine ab_aload_n dL_law_520 rfl ?_
  refine ab_iload_n dL_law_521 rfl ?_
  refine ab_iconst (v := nI 3) dL_law_522 (by decide) ?_
  refine ab_naddR dL_law_523 ?_
  refine ab_eald dL_law_524 rfl (by rw [ee1]; omega) (show _ = (ab_e h 1).2 (i + 3) by rw [ee1]) ?_
  refine ab_callVl [_, _, _] dL_law_525 ml_L_59 mk_X12_behind hM1.hs (m_behind (k := 2) (b := 0) (Nat.le_refl _) hM1 hI1.1.2.1) (fun v2 h2 hq2 => ?_)
  replace hq2 := cl_m (by decide) hq2
  have ee2 := (lX_fM hq2 (fun q => q)).trans ee1
  obtain ⟨ev, W2, H2⟩ := both_L H hq1 hq2 (fun x _ q1 q2 => ⟨W, INV_q H q1 (by intro a z; simp at z; omega) q2 (by intro a z; simp at z; omega) rfl⟩)
  refine ab_lcmp dL_law_528 ?_
  refine ab_if_eq 1396 dL_law_529 (by decide) (fun c_529 => ?_) (fun c_529 => ?_)
  · skip
    exact ab_less (by omega) (cont W2 h2 H2 ee2)
  · skip
    exact absurd (by rw [ev]; exact lg_rf v2) c_529
set_option maxRecDepth 100000 in
set_option maxHeartbeats 4000000 in
theorem law_19 {k b i : Nat} {h : ab_H} {W : wS} {post : Value → ab_H → Prop} (hk : 12 ≤ k) (hb9 : 110 ≤ b) (H : INV W h) (hn : (ab_e h 1).1 < 2147483648) (hi : i + 5 ≤ (ab_e h 1).1) (cont : ∀ (W' : wS) (h' : ab_H), INV W' h' → ab_e h' = ab_e h → ab_R k (b - 110) mL_law 1396 [some (.ref 1), some (.ref 5), some (.ref 50), some (.int (nI i))] [] h' post) : ab_R k b mL_law 871 [some (.ref 1), some (.ref 5), some (.ref 50), some (.int (nI i))] [] h post := by
  refine ab_aload_n dL_law_871 rfl ?_
  refine ab_aload_n dL_law_872 rfl ?_
  refine ab_iload_n dL_law_873 rfl ?_
  refine ab_iconst (v := nI 1) dL_law_874 (by decide) ?_
  refine ab_naddR dL_law_875 ?_
  refine ab_eald dL_law_876 rfl (by omega) rfl ?_
  refine ab_aload_n dL_law_877 rfl ?_
  refine ab_iload_n dL_law_878 rfl ?_
  refine ab_iconst (v := nI 2) dL_law_879 (by decide) ?_
  refine ab_naddR dL_law_880 ?_
  refine ab_eald dL_law_881 rfl (by omega) rfl ?_
  refine ab_callVl [_, _] dL_law_882 ml_L_96 mk_X11_area H.2.2.1.hs (c_area (k := 2) (b := 0) (Nat.le_refl _) H.2.2.1 H.2.2.2.2.1.1.2.2) (fun v1 h1 hq1 => ?_)
  have g1 := lX_gr (S := []) (T := []) hq1 (fun q => q)
  have ee1 := g1.2.1
  obtain ⟨hM1, hI1⟩ := INV_mid H g1 (by intro a z; simp at z; omega) (fun a z => by cases z)
  refine ab_aload_n dL_law_885 rfl ?_
  refine ab_aload_n dL_law_886 rfl ?_
  refine ab_iload_n dL_law_887 rfl ?_
  refine ab_iconst (v := nI 1) dL_law_888 (by decide) ?_
  refine ab_naddR dL_law_889 ?_
  refine ab_eald dL_law_890 rfl (by rw [ee1]; omega) (show _ = (ab_e h 1).2 (i + 1) by rw [ee1]) ?_
  refine ab_aload_n dL_law_891 rfl ?_
  refine ab_iload_n dL_law_892 rfl ?_
  refine ab_iconst (v := nI 2) dL_law_893 (by decide) ?_
  refine ab_naddR dL_law_894 ?_
  refine ab_eald dL_law_895 rfl (by rw [ee1]; omega) (show _ = (ab_e h 1).2 (i + 2) by rw [ee1]) ?_
  refine ab_callVl [_, _] dL_law_896 ml_L_99 mk_X12_area hM1.hs (m_area (k := 4) (b := 0) (Nat.le_refl _) hM1 hI1.1.2.2) (fun v2 h2 hq2 => ?_)
  have ee2 := (lX_fM hq2 (fun q => q)).trans ee1
  obtain ⟨ev, W2, H2⟩ := both_L H hq1 hq2 (fun x _ q1 q2 => ⟨W, INV_q H q1 (fun a z => by cases z) q2 (fun a z => by cases z) rfl⟩)
  refine ab_lcmp dL_law_899 ?_
  refine ab_if_eq 1396 dL_law_900 (by decide) (fun c_900 => ?_) (fun c_900 => ?_)
  · skip
    exact ab_less (by omega) (cont W2 h2 H2 ee2)
  · skip
    exact absurd (by rw [ev]; exact lg_rf v2) c_900
set_option maxRecDepth 100000 in
set_option maxHeartbeats 4000000 in
theorem law_20 {k b i : Nat} {h : ab_H} {W : wS} {post : Value → ab_H → Prop} (hk : 12 ≤ k) (hb9 : 110 ≤ b) (H : INV W h) (hn : (ab_e h 1).1 < 2147483648) (hi : i + 5 ≤ (ab_e h 1).1) (cont : ∀ (W' : wS) (h' : ab_H), INV W' h' → ab_e h' = ab_e h → ab_R k (b - 110) mL_law 1396 [some (.ref 1), some (.ref 5), some (.ref 50), some (.int (nI i))] [] h' post) : ab_R k b mL_law 905 [some (.ref 1), some (.ref 5), some (.ref 50), some (.int (nI i))] [] h post := by
  refine ab_aload_n dL_law_905 rfl ?_
  refine ab_aload_n dL_law_906 rfl ?_
  refine ab_iload_n dL_law_907 rfl ?_
  refine ab_iconst (v := nI 1) dL_law_908 (by decide) ?_
  refine ab_naddR dL_law_909 ?_
  refine ab_eald dL_law_910 rfl (by omega) rfl ?_
  refine ab_aload_n dL_law_911 rfl ?_
  refine ab_iload_n dL_law_912 rfl ?_
  refine ab_iconst (v := nI 2) dL_law_913 (by decide) ?_
  refine ab_naddR dL_law_914 ?_
  refine ab_eald dL_law_915 rfl (by omega) rfl ?_
  refine ab_callVl [_, _] dL_law_916 ml_L_100 mk_X11_sum H.2.2.1.hs (c_sum (k := 5) (b := 11) (Nat.le_refl _) (Nat.le_refl _) H.1 H.2.2.1 H.2.2.2.2.1.1.2.2) (fun v1 h1 hq1 => ?_)
  have g1 := lX_gr (S := []) (T := []) hq1 (fun q => q)
  have ee1 := g1.2.1
  obtain ⟨hM1, hI1⟩ := INV_mid H g1 (by intro a z; simp at z; omega) (fun a z => by cases z)
  refine ab_aload_n dL_law_919 rfl ?_
  refine ab_aload_n dL_law_920 rfl ?_
  refine ab_iload_n dL_law_921 rfl ?_
  refine ab_iconst (v := nI 1) dL_law_922 (by decide) ?_
  refine ab_naddR dL_law_923 ?_
  refine ab_eald dL_law_924 rfl (by rw [ee1]; omega) (show _ = (ab_e h 1).2 (i + 1) by rw [ee1]) ?_
  refine ab_aload_n dL_law_925 rfl ?_
  refine ab_iload_n dL_law_926 rfl ?_
  refine ab_iconst (v := nI 2) dL_law_927 (by decide) ?_
  refine ab_naddR dL_law_928 ?_
  refine ab_eald dL_law_929 rfl (by rw [ee1]; omega) (show _ = (ab_e h 1).2 (i + 2) by rw [ee1]) ?_
  refine ab_callVl [_, _] dL_law_930 ml_L_103 mk_X12_sum hM1.hs (m_sum (k := 4) (b := 0) (Nat.le_refl _) hM1 hI1.1.2.2) (fun v2 h2 hq2 => ?_)
  have ee2 := (lX_fM hq2 (fun q => q)).trans ee1
  obtain ⟨ev, W2, H2⟩ := both_L H hq1 hq2 (fun x _ q1 q2 => ⟨W, INV_q H q1 (fun a z => by cases z) q2 (fun a z => by cases z) rfl⟩)
  refine ab_lcmp dL_law_933 ?_
  refine ab_if_eq 1396 dL_law_934 (by decide) (fun c_934 => ?_) (fun c_934 => ?_)
  · skip
    exact ab_less (by omega) (cont W2 h2 H2 ee2)
  · skip
    exact absurd (by rw [ev]; exact lg_rf v2) c_934
set_option maxRecDepth 100000 in
set_option maxHeartbeats 4000000 in
theorem law_24 {k b i : Nat} {h : ab_H} {W : wS} {post : Value → ab_H → Prop} (hk : 12 ≤ k) (hb9 : 110 ≤ b) (H : INV W h) (hn : (ab_e h 1).1 < 2147483648) (hi : i + 5 ≤ (ab_e h 1).1) (cont : ∀ (W' : wS) (h' : ab_H), INV W' h' → ab_e h' = ab_e h → ab_R k (b - 110) mL_law 1396 [some (.ref 1), some (.ref 5), some (.ref 50), some (.int (nI i))] [] h' post) : ab_R k b mL_law 1028 [some (.ref 1), some (.ref 5), some (.ref 50), some (.int (nI i))] [] h post := by
  refine ab_aload_n dL_law_1028 rfl ?_
  refine ab_aload_n dL_law_1029 rfl ?_
  refine ab_iload_n dL_law_1030 rfl ?_
  refine ab_iconst (v := nI 1) dL_law_1031 (by decide) ?_
  refine ab_naddR dL_law_1032 ?_
  refine ab_eald dL_law_1033 rfl (by omega) rfl ?_
  refine ab_callVl [_] dL_law_1034 ml_L_116 mk_X11_longBits H.2.2.1.hs (c_longBits (k := 2) (b := 0) (Nat.le_refl _) H.2.2.1 H.2.2.2.2.1.1.2.2) (fun v1 h1 hq1 => ?_)
  have g1 := lX_gr (S := []) (T := []) hq1 (fun q => q)
  have ee1 := g1.2.1
  obtain ⟨hM1, hI1⟩ := INV_mid H g1 (by intro a z; simp at z; omega) (fun a z => by cases z)
  refine ab_aload_n dL_law_1037 rfl ?_
  refine ab_aload_n dL_law_1038 rfl ?_
  refine ab_iload_n dL_law_1039 rfl ?_
  refine ab_iconst (v := nI 1) dL_law_1040 (by decide) ?_
  refine ab_naddR dL_law_1041 ?_
  refine ab_eald dL_law_1042 rfl (by rw [ee1]; omega) (show _ = (ab_e h 1).2 (i + 1) by rw [ee1]) ?_
  refine ab_callVl [_] dL_law_1043 ml_L_120 mk_X12_longBits hM1.hs (m_longBits (k := 4) (b := 0) (Nat.le_refl _) hM1 hI1.1.2.2) (fun v2 h2 hq2 => ?_)
  have ee2 := (lX_fM hq2 (fun q => q)).trans ee1
  obtain ⟨ev, W2, H2⟩ := both_L H hq1 hq2 (fun x _ q1 q2 => ⟨W, INV_q H q1 (fun a z => by cases z) q2 (fun a z => by cases z) rfl⟩)
  refine ab_lcmp dL_law_1046 ?_
  refine ab_if_eq 1396 dL_law_1047 (by decide) (fun c_1047 => ?_) (fun c_1047 => ?_)
  · skip
    exact ab_less (by omega) (cont W2 h2 H2 ee2)
  · skip
    exact absurd (by rw [ev]; exact lg_rf v2) c_1047
set_option maxRecDepth 100000 in
set_option maxHeartbeats 4000000 in
theorem law_31 {k b i : Nat} {h : ab_H} {W : wS} {post : Value → ab_H → Prop} (hk : 12 ≤ k) (hb9 : 110 ≤ b) (H : INV W h) (hn : (ab_e h 1).1 < 2147483648) (hi : i + 5 ≤ (ab_e h 1).1) (cont : ∀ (W' : wS) (h' : ab_H), INV W' h' → ab_e h' = ab_e h → ab_R k (b - 110) mL_law 1396 [some (.ref 1), some (.ref 5), some (.ref 50), some (.int (nI i))] [] h' post) : ab_R k b mL_law 1290 [some (.ref 1), some (.ref 5), some (.ref 50), some (.int (nI i))] [] h post := by
  refine ab_aload_n dL_law_1290 rfl ?_
  refine ab_aload_n dL_law_1291 rfl ?_
  refine ab_iload_n dL_law_1292 rfl ?_
  refine ab_iconst (v := nI 1) dL_law_1293 (by decide) ?_
  refine ab_naddR dL_law_1294 ?_
  refine ab_eald dL_law_1295 rfl (by omega) rfl ?_
  refine ab_aload_n dL_law_1296 rfl ?_
  refine ab_iload_n dL_law_1297 rfl ?_
  refine ab_iconst (v := nI 2) dL_law_1298 (by decide) ?_
  refine ab_naddR dL_law_1299 ?_
  refine ab_eald dL_law_1300 rfl (by omega) rfl ?_
  refine ab_callVl [_, _] dL_law_1301 ml_L_145 mk_X11_look H.2.2.1.hs (c_look (k := 2) (b := 0) (Nat.le_refl _) H.2.2.1 H.2.2.2.2.1.2.2.2.2) (fun v1 h1 hq1 => ?_)
  have g1 := lX_gr (S := []) (T := []) hq1 (fun q => q)
  have ee1 := g1.2.1
  obtain ⟨hM1, hI1⟩ := INV_mid H g1 (by intro a z; simp at z; omega) (fun a z => by cases z)
  refine ab_aload_n dL_law_1304 rfl ?_
  refine ab_aload_n dL_law_1305 rfl ?_
  refine ab_iload_n dL_law_1306 rfl ?_
  refine ab_iconst (v := nI 1) dL_law_1307 (by decide) ?_
  refine ab_naddR dL_law_1308 ?_
  refine ab_eald dL_law_1309 rfl (by rw [ee1]; omega) (show _ = (ab_e h 1).2 (i + 1) by rw [ee1]) ?_
  refine ab_aload_n dL_law_1310 rfl ?_
  refine ab_iload_n dL_law_1311 rfl ?_
  refine ab_iconst (v := nI 2) dL_law_1312 (by decide) ?_
  refine ab_naddR dL_law_1313 ?_
  refine ab_eald dL_law_1314 rfl (by rw [ee1]; omega) (show _ = (ab_e h 1).2 (i + 2) by rw [ee1]) ?_
  refine ab_callVl [_, _] dL_law_1315 ml_L_148 mk_X12_look hM1.hs (m_look (k := 2) (b := 0) (Nat.le_refl _) hM1 hI1.2.2.2.2) (fun v2 h2 hq2 => ?_)
  have ee2 := (lX_fM hq2 (fun q => q)).trans ee1
  obtain ⟨ev, W2, H2⟩ := both_L H hq1 hq2 (fun x _ q1 q2 => ⟨W, INV_q H q1 (fun a z => by cases z) q2 (fun a z => by cases z) rfl⟩)
  refine ab_lcmp dL_law_1318 ?_
  refine ab_if_eq 1396 dL_law_1319 (by decide) (fun c_1319 => ?_) (fun c_1319 => ?_)
  · skip
    exact ab_less (by omega) (cont W2 h2 H2 ee2)
  · skip
    exact absurd (by rw [ev]; exact lg_rf v2) c_1319
