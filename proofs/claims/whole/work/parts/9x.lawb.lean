/-! ===== the law: board, text ===== -/
theorem ki_c {K : ab_H → Prop} {h h1 : ab_H} {o : Nat ⊕ Int32} {v : Int32} (q : ab_oK 37 K h o v h1) : ab_oX 37 (ab_gr [] [] h) K o v h1 := by
  cases o with
  | inl c => exact ⟨q.1, h, ab_gr.rf h, q.2⟩
  | inr x => exact q
theorem ki_m {K : ab_H → Prop} {h h1 : ab_H} {o : Nat ⊕ Int32} {v : Int32} (q : ab_oK 51 K h o v h1) : ab_oX 51 (ab_fM [] [] h) K o v h1 := by
  cases o with
  | inl c => exact ⟨q.1, h, ab_fM.rf h, q.2⟩
  | inr x => exact q
theorem iC_B {n x y : Nat} {W : wS} {h h1 : ab_H} (f : ab_fr [6, 7, 8, 9, 10, 11] h h1) (hb : ab_bs h) (H : iC W h) (c : bd_C n x y 6 h1) : iC ((n, x, y, W.1.2.2.2), W.2.1, W.2.2.1, W.2.2.2.1, W.2.2.2.2) h1 :=
  iC_gp ((ab_gr.of f).mono (by simp) (fun _ q => by cases q)) hb H ⟨c, H.1.2.1.gr (ab_gr.of f) hb (by decide) (by simp), H.1.2.2.gr (ab_gr.of f) (mem78 (by decide)) nil78 hb (by decide) (by simp) (by simp) (by simp)⟩
theorem iM_B {n x y : Nat} {W : wS} {h h1 : ab_H} (f : ab_fM [52, 53, 54, 55, 56] [1, 2, 3, 4] h h1) (H : iM W h) (c : bd_Mo n x y h1) : iM ((n, x, y, W.1.2.2.2), W.2.1, W.2.2.1, W.2.2.2.1, W.2.2.2.2) h1 :=
  iM_gp (f.mono (by simp) (by simp)) H ⟨c, H.1.2.1.fM f (by decide) (by simp), H.1.2.2.fM f (by intro a q1 q2; simp; omega) (by simp) (by simp)⟩
set_option maxRecDepth 100000 in
set_option maxHeartbeats 4000000 in
theorem law_2 {k b i : Nat} {h : ab_H} {W : wS} {post : Value → ab_H → Prop} (hk : 12 ≤ k) (hb9 : 110 ≤ b) (H : INV W h) (hn : (ab_e h 1).1 < 2147483648) (hi : i + 5 ≤ (ab_e h 1).1) (cont : ∀ (W' : wS) (h' : ab_H), INV W' h' → ab_e h' = ab_e h → ab_R k (b - 110) mL_law 1396 [some (.ref 1), some (.ref 5), some (.ref 50), some (.int (nI i))] [] h' post) : ab_R k b mL_law 228 [some (.ref 1), some (.ref 5), some (.ref 50), some (.int (nI i))] [] h post := by
  refine ab_aload_n dL_law_228 rfl ?_
  refine ab_aload_n dL_law_229 rfl ?_
  refine ab_iload_n dL_law_230 rfl ?_
  refine ab_iconst (v := nI 1) dL_law_231 (by decide) ?_
  refine ab_naddR dL_law_232 ?_
  refine ab_eald dL_law_233 rfl (by omega) rfl ?_
  refine ab_aload_n dL_law_234 rfl ?_
  refine ab_iload_n dL_law_235 rfl ?_
  refine ab_iconst (v := nI 2) dL_law_236 (by decide) ?_
  refine ab_naddR dL_law_237 ?_
  refine ab_eald dL_law_238 rfl (by omega) rfl ?_
  refine ab_aload_n dL_law_239 rfl ?_
  refine ab_iload_n dL_law_240 rfl ?_
  refine ab_iconst (v := nI 3) dL_law_241 (by decide) ?_
  refine ab_naddR dL_law_242 ?_
  refine ab_eald dL_law_243 rfl (by omega) rfl ?_
  refine ab_callVi [_, _, _] dL_law_244 ml_L_23 mk_X11_board H.2.2.1.hs (c_board (k := 8) (b := 0) (Nat.le_refl _) H.2.2.1) (fun v1 h1 hq1 => ?_)
  replace hq1 := ki_c hq1
  have g1 := oX_gr (S := [6, 7, 8, 9, 10, 11]) (T := []) hq1 (fun q => ab_gr.of q.1)
  have ee1 := g1.2.1
  obtain ⟨hM1, hI1⟩ := INV_mid H g1 (by intro a z; simp at z; omega) (fun a z => by cases z)
  refine ab_aload_n dL_law_247 rfl ?_
  refine ab_aload_n dL_law_248 rfl ?_
  refine ab_iload_n dL_law_249 rfl ?_
  refine ab_iconst (v := nI 1) dL_law_250 (by decide) ?_
  refine ab_naddR dL_law_251 ?_
  refine ab_eald dL_law_252 rfl (by rw [ee1]; omega) (show _ = (ab_e h 1).2 (i + 1) by rw [ee1]) ?_
  refine ab_aload_n dL_law_253 rfl ?_
  refine ab_iload_n dL_law_254 rfl ?_
  refine ab_iconst (v := nI 2) dL_law_255 (by decide) ?_
  refine ab_naddR dL_law_256 ?_
  refine ab_eald dL_law_257 rfl (by rw [ee1]; omega) (show _ = (ab_e h 1).2 (i + 2) by rw [ee1]) ?_
  refine ab_aload_n dL_law_258 rfl ?_
  refine ab_iload_n dL_law_259 rfl ?_
  refine ab_iconst (v := nI 3) dL_law_260 (by decide) ?_
  refine ab_naddR dL_law_261 ?_
  refine ab_eald dL_law_262 rfl (by rw [ee1]; omega) (show _ = (ab_e h 1).2 (i + 3) by rw [ee1]) ?_
  refine ab_callVi [_, _, _] dL_law_263 ml_L_27 mk_X12_board hM1.hs (m_board2 (k := 6) (b := 0) (Nat.le_refl _) hM1) (fun v2 h2 hq2 => ?_)
  replace hq2 := ki_m hq2
  have ee2 := (oX_fM hq2 (fun q => q.1)).trans ee1
  obtain ⟨ev, W2, H2⟩ := both_I H hq1 hq2 (fun x _ q1 q2 => ⟨_, INV_ok H (ab_gr.of q1.1) (by intro a z; simp at z; omega) (fun a z => by cases z) (iC_B q1.1 H.1 H.2.2.2.2.1 q1.2) q2.1 (by intro a z; simp at z; omega) (iM_B q2.1 hI1 q2.2)⟩)
  refine ab_icmp_eq 1396 dL_law_266 (by decide) (fun c_266 => ?_) (fun c_266 => ?_)
  · skip
    exact ab_less (by omega) (cont W2 h2 H2 ee2)
  · skip
    exact absurd ev c_266
