/-! ===== the law: the questions with an int ===== -/
theorem cv_c {S : List Nat} {h h1 : ab_H} {o : Nat ⊕ Int32} {v : Int32} (q : ab_oI 37 S h o v h1) : ab_oX 37 (ab_gr [] [] h) (ab_gr S [] h) o v h1 := by
  cases o with
  | inl c => exact ⟨q.1, h, ab_gr.rf h, q.2⟩
  | inr x => exact ⟨q.1, ab_gr.of q.2⟩
theorem cv_m {S : List Nat} {h h1 : ab_H} {o : Nat ⊕ Int32} {v : Int32} (h50 : 50 ∉ S) (q : ab_oI 51 S h o v h1) : ab_oX 51 (ab_fM [] [] h) (ab_fM S [] h) o v h1 := by
  cases o with
  | inl c => exact ⟨q.1, h, ab_fM.rf h, q.2⟩
  | inr x => exact ⟨q.1, ab_fM.of q.2 h50⟩
/-- a question: nothing is changed but scratch rows -/
theorem INV_q {S S' K : List Nat} {W : wS} {h h1 h2 : ab_H} (H : INV W h) (g : ab_gr S [] h h1) (hS : ∀ a, a ∈ S → a = 12 ∨ a = 15 ∨ a = 16 ∨ a = 17 ∨ a = 18) (f : ab_fM S' K h1 h2) (hS' : ∀ a, a ∈ S' → 58 ≤ a ∧ a ≤ 61) (hK : K = []) : INV W h2 := by
  subst hK
  exact INV_ok H g (fun a z => by have := hS a z; omega) (fun a z => by cases z) (H.2.2.2.2.1.gr g H.1 (fun a z => by have := hS a z; omega) rfl) f (fun a z => by have := hS' a z; omega) ((INV_mid H g (fun a z => by have := hS a z; omega) (fun a z => by cases z)).2.fM f (fun a z => by have := hS' a z; omega) (fun k z => by cases z))
set_option maxRecDepth 100000 in
set_option maxHeartbeats 4000000 in
theorem law_3 {k b i : Nat} {h : ab_H} {W : wS} {post : Value → ab_H → Prop} (hk : 12 ≤ k) (hb9 : 110 ≤ b) (H : INV W h) (hn : (ab_e h 1).1 < 2147483648) (hi : i + 5 ≤ (ab_e h 1).1) (cont : ∀ (W' : wS) (h' : ab_H), INV W' h' → ab_e h' = ab_e h → ab_R k (b - 110) mL_law 1396 [some (.ref 1), some (.ref 5), some (.ref 50), some (.int (nI i))] [] h' post) : ab_R k b mL_law 271 [some (.ref 1), some (.ref 5), some (.ref 50), some (.int (nI i))] [] h post := by
  refine ab_aload_n dL_law_271 rfl ?_
  refine ab_aload_n dL_law_272 rfl ?_
  refine ab_iload_n dL_law_273 rfl ?_
  refine ab_iconst (v := nI 1) dL_law_274 (by decide) ?_
  refine ab_naddR dL_law_275 ?_
  refine ab_eald dL_law_276 rfl (by omega) rfl ?_
  refine ab_aload_n dL_law_277 rfl ?_
  refine ab_iload_n dL_law_278 rfl ?_
  refine ab_iconst (v := nI 2) dL_law_279 (by decide) ?_
  refine ab_naddR dL_law_280 ?_
  refine ab_eald dL_law_281 rfl (by omega) rfl ?_
  refine ab_callVi [_, _] dL_law_282 ml_L_28 mk_X11_piece H.2.2.1.hs (c_piece (k := 3) (b := 0) (Nat.le_refl _) H.2.2.1 H.2.2.2.2.1.1.1) (fun v1 h1 hq1 => ?_)
  replace hq1 := cv_c hq1
  have g1 := oX_gr (S := []) (T := []) hq1 (fun q => q)
  have ee1 := g1.2.1
  obtain ⟨hM1, hI1⟩ := INV_mid H g1 (by intro a z; simp at z; omega) (fun a z => by cases z)
  refine ab_aload_n dL_law_285 rfl ?_
  refine ab_aload_n dL_law_286 rfl ?_
  refine ab_iload_n dL_law_287 rfl ?_
  refine ab_iconst (v := nI 1) dL_law_288 (by decide) ?_
  refine ab_naddR dL_law_289 ?_
  refine ab_eald dL_law_290 rfl (by rw [ee1]; omega) (show _ = (ab_e h 1).2 (i + 1) by rw [ee1]) ?_
  refine ab_aload_n dL_law_291 rfl ?_
  refine ab_iload_n dL_law_292 rfl ?_
  refine ab_iconst (v := nI 2) dL_law_293 (by decide) ?_
  refine ab_naddR dL_law_294 ?_
  refine ab_eald dL_law_295 rfl (by rw [ee1]; omega) (show _ = (ab_e h 1).2 (i + 2) by rw [ee1]) ?_
  refine ab_callVi [_, _] dL_law_296 ml_L_32 mk_X12_piece hM1.hs (m_piece (k := 2) (b := 0) (Nat.le_refl _) hM1 hI1.1.1) (fun v2 h2 hq2 => ?_)
  replace hq2 := cv_m (by decide) hq2
  have ee2 := (oX_fM hq2 (fun q => q)).trans ee1
  obtain ⟨ev, W2, H2⟩ := both_I H hq1 hq2 (fun x _ q1 q2 => ⟨W, INV_q H q1 (fun a z => by cases z) q2 (fun a z => by cases z) rfl⟩)
  refine ab_icmp_eq 1396 dL_law_299 (by decide) (fun c_299 => ?_) (fun c_299 => ?_)
  · skip
    exact ab_less (by omega) (cont W2 h2 H2 ee2)
  · skip
    exact absurd ev c_299
set_option maxRecDepth 100000 in
set_option maxHeartbeats 4000000 in
theorem law_4 {k b i : Nat} {h : ab_H} {W : wS} {post : Value → ab_H → Prop} (hk : 12 ≤ k) (hb9 : 110 ≤ b) (H : INV W h) (hn : (ab_e h 1).1 < 2147483648) (hi : i + 5 ≤ (ab_e h 1).1) (cont : ∀ (W' : wS) (h' : ab_H), INV W' h' → ab_e h' = ab_e h → ab_R k (b - 110) mL_law 1396 [some (.ref 1), some (.ref 5), some (.ref 50), some (.int (nI i))] [] h' post) : ab_R k b mL_law 304 [some (.ref 1), some (.ref 5), some (.ref 50), some (.int (nI i))] [] h post := by
  refine ab_aload_n dL_law_304 rfl ?_
  refine ab_aload_n dL_law_305 rfl ?_
  refine ab_iload_n dL_law_306 rfl ?_
  refine ab_iconst (v := nI 1) dL_law_307 (by decide) ?_
  refine ab_naddR dL_law_308 ?_
  refine ab_eald dL_law_309 rfl (by omega) rfl ?_
  refine ab_aload_n dL_law_310 rfl ?_
  refine ab_iload_n dL_law_311 rfl ?_
  refine ab_iconst (v := nI 2) dL_law_312 (by decide) ?_
  refine ab_naddR dL_law_313 ?_
  refine ab_eald dL_law_314 rfl (by omega) rfl ?_
  refine ab_callVi [_, _] dL_law_315 ml_L_33 mk_X11_of H.2.2.1.hs (c_of (k := 6) (b := 0) (Nat.le_refl _) H.2.2.1 H.2.2.2.2.1.1.1) (fun v1 h1 hq1 => ?_)
  replace hq1 := cv_c hq1
  have g1 := oX_gr (S := [12]) (T := []) hq1 (fun q => q)
  have ee1 := g1.2.1
  obtain ⟨hM1, hI1⟩ := INV_mid H g1 (by intro a z; simp at z; omega) (fun a z => by cases z)
  refine ab_aload_n dL_law_318 rfl ?_
  refine ab_aload_n dL_law_319 rfl ?_
  refine ab_iload_n dL_law_320 rfl ?_
  refine ab_iconst (v := nI 1) dL_law_321 (by decide) ?_
  refine ab_naddR dL_law_322 ?_
  refine ab_eald dL_law_323 rfl (by rw [ee1]; omega) (show _ = (ab_e h 1).2 (i + 1) by rw [ee1]) ?_
  refine ab_aload_n dL_law_324 rfl ?_
  refine ab_iload_n dL_law_325 rfl ?_
  refine ab_iconst (v := nI 2) dL_law_326 (by decide) ?_
  refine ab_naddR dL_law_327 ?_
  refine ab_eald dL_law_328 rfl (by rw [ee1]; omega) (show _ = (ab_e h 1).2 (i + 2) by rw [ee1]) ?_
  refine ab_callVi [_, _] dL_law_329 ml_L_36 mk_X12_of hM1.hs (m_of (k := 5) (b := 0) (Nat.le_refl _) hM1 hI1.1.1) (fun v2 h2 hq2 => ?_)
  replace hq2 := cv_m (by decide) hq2
  have ee2 := (oX_fM hq2 (fun q => q)).trans ee1
  obtain ⟨ev, W2, H2⟩ := both_I H hq1 hq2 (fun x _ q1 q2 => ⟨W, INV_q H q1 (by intro a z; simp at z; omega) q2 (fun a z => by cases z) rfl⟩)
  refine ab_icmp_eq 1396 dL_law_332 (by decide) (fun c_332 => ?_) (fun c_332 => ?_)
  · skip
    exact ab_less (by omega) (cont W2 h2 H2 ee2)
  · skip
    exact absurd ev c_332
set_option maxRecDepth 100000 in
set_option maxHeartbeats 4000000 in
theorem law_5 {k b i : Nat} {h : ab_H} {W : wS} {post : Value → ab_H → Prop} (hk : 12 ≤ k) (hb9 : 110 ≤ b) (H : INV W h) (hn : (ab_e h 1).1 < 2147483648) (hi : i + 5 ≤ (ab_e h 1).1) (cont : ∀ (W' : wS) (h' : ab_H), INV W' h' → ab_e h' = ab_e h → ab_R k (b - 110) mL_law 1396 [some (.ref 1), some (.ref 5), some (.ref 50), some (.int (nI i))] [] h' post) : ab_R k b mL_law 337 [some (.ref 1), some (.ref 5), some (.ref 50), some (.int (nI i))] [] h post := by
  refine ab_aload_n dL_law_337 rfl ?_
  refine ab_aload_n dL_law_338 rfl ?_
  refine ab_iload_n dL_law_339 rfl ?_
  refine ab_iconst (v := nI 1) dL_law_340 (by decide) ?_
  refine ab_naddR dL_law_341 ?_
  refine ab_eald dL_law_342 rfl (by omega) rfl ?_
  refine ab_aload_n dL_law_343 rfl ?_
  refine ab_iload_n dL_law_344 rfl ?_
  refine ab_iconst (v := nI 2) dL_law_345 (by decide) ?_
  refine ab_naddR dL_law_346 ?_
  refine ab_eald dL_law_347 rfl (by omega) rfl ?_
  refine ab_aload_n dL_law_348 rfl ?_
  refine ab_iload_n dL_law_349 rfl ?_
  refine ab_iconst (v := nI 3) dL_law_350 (by decide) ?_
  refine ab_naddR dL_law_351 ?_
  refine ab_eald dL_law_352 rfl (by omega) rfl ?_
  refine ab_aload_n dL_law_353 rfl ?_
  refine ab_iload_n dL_law_354 rfl ?_
  refine ab_iconst (v := nI 4) dL_law_355 (by decide) ?_
  refine ab_naddR dL_law_356 ?_
  refine ab_eald dL_law_357 rfl (by omega) rfl ?_
  refine ab_callVi [_, _, _, _] dL_law_358 ml_L_37 mk_X11_within H.2.2.1.hs (c_within (k := 2) (b := 0) (Nat.le_refl _) H.2.2.1 H.2.2.2.2.1.1.1) (fun v1 h1 hq1 => ?_)
  replace hq1 := cv_c hq1
  have g1 := oX_gr (S := []) (T := []) hq1 (fun q => q)
  have ee1 := g1.2.1
  obtain ⟨hM1, hI1⟩ := INV_mid H g1 (by intro a z; simp at z; omega) (fun a z => by cases z)
  refine ab_aload_n dL_law_361 rfl ?_
  refine ab_aload_n dL_law_362 rfl ?_
  refine ab_iload_n dL_law_363 rfl ?_
  refine ab_iconst (v := nI 1) dL_law_364 (by decide) ?_
  refine ab_naddR dL_law_365 ?_
  refine ab_eald dL_law_366 rfl (by rw [ee1]; omega) (show _ = (ab_e h 1).2 (i + 1) by rw [ee1]) ?_
  refine ab_aload_n dL_law_367 rfl ?_
  refine ab_iload_n dL_law_368 rfl ?_
  refine ab_iconst (v := nI 2) dL_law_369 (by decide) ?_
  refine ab_naddR dL_law_370 ?_
  refine ab_eald dL_law_371 rfl (by rw [ee1]; omega) (show _ = (ab_e h 1).2 (i + 2) by rw [ee1]) ?_
  refine ab_aload_n dL_law_372 rfl ?_
  refine ab_iload_n dL_law_373 rfl ?_
  refine ab_iconst (v := nI 3) dL_law_374 (by decide) ?_
  refine ab_naddR dL_law_375 ?_
  refine ab_eald dL_law_376 rfl (by rw [ee1]; omega) (show _ = (ab_e h 1).2 (i + 3) by rw [ee1]) ?_
  refine ab_aload_n dL_law_377 rfl ?_
  refine ab_iload_n dL_law_378 rfl ?_
  refine ab_iconst (v := nI 4) dL_law_379 (by decide) ?_
  refine ab_naddR dL_law_380 ?_
  refine ab_eald dL_law_381 rfl (by rw [ee1]; omega) (show _ = (ab_e h 1).2 (i + 4) by rw [ee1]) ?_
  refine ab_callVi [_, _, _, _] dL_law_382 ml_L_41 mk_X12_within hM1.hs (m_within (k := 2) (b := 0) (Nat.le_refl _) hM1 hI1.1.1) (fun v2 h2 hq2 => ?_)
  replace hq2 := cv_m (by decide) hq2
  have ee2 := (oX_fM hq2 (fun q => q)).trans ee1
  obtain ⟨ev, W2, H2⟩ := both_I H hq1 hq2 (fun x _ q1 q2 => ⟨W, INV_q H q1 (fun a z => by cases z) q2 (fun a z => by cases z) rfl⟩)
  refine ab_icmp_eq 1396 dL_law_385 (by decide) (fun c_385 => ?_) (fun c_385 => ?_)
  · skip
    exact ab_less (by omega) (cont W2 h2 H2 ee2)
  · skip
    exact absurd ev c_385
set_option maxRecDepth 100000 in
set_option maxHeartbeats 4000000 in
theorem law_6 {k b i : Nat} {h : ab_H} {W : wS} {post : Value → ab_H → Prop} (hk : 12 ≤ k) (hb9 : 110 ≤ b) (H : INV W h) (hn : (ab_e h 1).1 < 2147483648) (hi : i + 5 ≤ (ab_e h 1).1) (cont : ∀ (W' : wS) (h' : ab_H), INV W' h' → ab_e h' = ab_e h → ab_R k (b - 110) mL_law 1396 [some (.ref 1), some (.ref 5), some (.ref 50), some (.int (nI i))] [] h' post) : ab_R k b mL_law 390 [some (.ref 1), some (.ref 5), some (.ref 50), some (.int (nI i))] [] h post := by
  refine ab_aload_n dL_law_390 rfl ?_
  refine ab_aload_n dL_law_391 rfl ?_
  refine ab_iload_n dL_law_392 rfl ?_
  refine ab_iconst (v := nI 1) dL_law_393 (by decide) ?_
  refine ab_naddR dL_law_394 ?_
  refine ab_eald dL_law_395 rfl (by omega) rfl ?_
  refine ab_callVi [_] dL_law_396 ml_L_42 mk_X11_pieces H.2.2.1.hs (c_pieces (k := 2) (b := 0) (Nat.le_refl _) H.2.2.1 H.2.2.2.2.1.1.1) (fun v1 h1 hq1 => ?_)
  replace hq1 := cv_c hq1
  have g1 := oX_gr (S := []) (T := []) hq1 (fun q => q)
  have ee1 := g1.2.1
  obtain ⟨hM1, hI1⟩ := INV_mid H g1 (by intro a z; simp at z; omega) (fun a z => by cases z)
  refine ab_aload_n dL_law_399 rfl ?_
  refine ab_aload_n dL_law_400 rfl ?_
  refine ab_iload_n dL_law_401 rfl ?_
  refine ab_iconst (v := nI 1) dL_law_402 (by decide) ?_
  refine ab_naddR dL_law_403 ?_
  refine ab_eald dL_law_404 rfl (by rw [ee1]; omega) (show _ = (ab_e h 1).2 (i + 1) by rw [ee1]) ?_
  refine ab_callVi [_] dL_law_405 ml_L_45 mk_X12_pieces hM1.hs (m_pieces (k := 2) (b := 0) (Nat.le_refl _) hM1 hI1.1.1) (fun v2 h2 hq2 => ?_)
  replace hq2 := cv_m (by decide) hq2
  have ee2 := (oX_fM hq2 (fun q => q)).trans ee1
  obtain ⟨ev, W2, H2⟩ := both_I H hq1 hq2 (fun x _ q1 q2 => ⟨W, INV_q H q1 (fun a z => by cases z) q2 (fun a z => by cases z) rfl⟩)
  refine ab_icmp_eq 1396 dL_law_408 (by decide) (fun c_408 => ?_) (fun c_408 => ?_)
  · skip
    exact ab_less (by omega) (cont W2 h2 H2 ee2)
  · skip
    exact absurd ev c_408
set_option maxRecDepth 100000 in
set_option maxHeartbeats 4000000 in
theorem law_10 {k b i : Nat} {h : ab_H} {W : wS} {post : Value → ab_H → Prop} (hk : 12 ≤ k) (hb9 : 110 ≤ b) (H : INV W h) (hn : (ab_e h 1).1 < 2147483648) (hi : i + 5 ≤ (ab_e h 1).1) (cont : ∀ (W' : wS) (h' : ab_H), INV W' h' → ab_e h' = ab_e h → ab_R k (b - 110) mL_law 1396 [some (.ref 1), some (.ref 5), some (.ref 50), some (.int (nI i))] [] h' post) : ab_R k b mL_law 534 [some (.ref 1), some (.ref 5), some (.ref 50), some (.int (nI i))] [] h post := by
  refine ab_aload_n dL_law_534 rfl ?_
  refine ab_aload_n dL_law_535 rfl ?_
  refine ab_iload_n dL_law_536 rfl ?_
  refine ab_iconst (v := nI 1) dL_law_537 (by decide) ?_
  refine ab_naddR dL_law_538 ?_
  refine ab_eald dL_law_539 rfl (by omega) rfl ?_
  refine ab_aload_n dL_law_540 rfl ?_
  refine ab_iload_n dL_law_541 rfl ?_
  refine ab_iconst (v := nI 2) dL_law_542 (by decide) ?_
  refine ab_naddR dL_law_543 ?_
  refine ab_eald dL_law_544 rfl (by omega) rfl ?_
  refine ab_aload_n dL_law_545 rfl ?_
  refine ab_iload_n dL_law_546 rfl ?_
  refine ab_iconst (v := nI 3) dL_law_547 (by decide) ?_
  refine ab_naddR dL_law_548 ?_
  refine ab_eald dL_law_549 rfl (by omega) rfl ?_
  refine ab_callVi [_, _, _] dL_law_550 ml_L_60 mk_X11_address H.2.2.1.hs (c_address (k := 2) (b := 0) (Nat.le_refl _) H.2.2.1 H.2.2.2.2.1.1.2.1) (fun v1 h1 hq1 => ?_)
  replace hq1 := cv_c hq1
  have g1 := oX_gr (S := []) (T := []) hq1 (fun q => q)
  have ee1 := g1.2.1
  obtain ⟨hM1, hI1⟩ := INV_mid H g1 (by intro a z; simp at z; omega) (fun a z => by cases z)
  refine ab_aload_n dL_law_553 rfl ?_
  refine ab_aload_n dL_law_554 rfl ?_
  refine ab_iload_n dL_law_555 rfl ?_
  refine ab_iconst (v := nI 1) dL_law_556 (by decide) ?_
  refine ab_naddR dL_law_557 ?_
  refine ab_eald dL_law_558 rfl (by rw [ee1]; omega) (show _ = (ab_e h 1).2 (i + 1) by rw [ee1]) ?_
  refine ab_aload_n dL_law_559 rfl ?_
  refine ab_iload_n dL_law_560 rfl ?_
  refine ab_iconst (v := nI 2) dL_law_561 (by decide) ?_
  refine ab_naddR dL_law_562 ?_
  refine ab_eald dL_law_563 rfl (by rw [ee1]; omega) (show _ = (ab_e h 1).2 (i + 2) by rw [ee1]) ?_
  refine ab_aload_n dL_law_564 rfl ?_
  refine ab_iload_n dL_law_565 rfl ?_
  refine ab_iconst (v := nI 3) dL_law_566 (by decide) ?_
  refine ab_naddR dL_law_567 ?_
  refine ab_eald dL_law_568 rfl (by rw [ee1]; omega) (show _ = (ab_e h 1).2 (i + 3) by rw [ee1]) ?_
  refine ab_callVi [_, _, _] dL_law_569 ml_L_63 mk_X12_address hM1.hs (m_address (k := 2) (b := 0) (Nat.le_refl _) hM1 hI1.1.2.1) (fun v2 h2 hq2 => ?_)
  replace hq2 := cv_m (by decide) hq2
  have ee2 := (oX_fM hq2 (fun q => q)).trans ee1
  obtain ⟨ev, W2, H2⟩ := both_I H hq1 hq2 (fun x _ q1 q2 => ⟨W, INV_q H q1 (fun a z => by cases z) q2 (fun a z => by cases z) rfl⟩)
  refine ab_icmp_eq 1396 dL_law_572 (by decide) (fun c_572 => ?_) (fun c_572 => ?_)
  · skip
    exact ab_less (by omega) (cont W2 h2 H2 ee2)
  · skip
    exact absurd ev c_572
set_option maxRecDepth 100000 in
set_option maxHeartbeats 4000000 in
theorem law_11 {k b i : Nat} {h : ab_H} {W : wS} {post : Value → ab_H → Prop} (hk : 12 ≤ k) (hb9 : 110 ≤ b) (H : INV W h) (hn : (ab_e h 1).1 < 2147483648) (hi : i + 5 ≤ (ab_e h 1).1) (cont : ∀ (W' : wS) (h' : ab_H), INV W' h' → ab_e h' = ab_e h → ab_R k (b - 110) mL_law 1396 [some (.ref 1), some (.ref 5), some (.ref 50), some (.int (nI i))] [] h' post) : ab_R k b mL_law 577 [some (.ref 1), some (.ref 5), some (.ref 50), some (.int (nI i))] [] h post := by
  refine ab_aload_n dL_law_577 rfl ?_
  refine ab_aload_n dL_law_578 rfl ?_
  refine ab_iload_n dL_law_579 rfl ?_
  refine ab_iconst (v := nI 1) dL_law_580 (by decide) ?_
  refine ab_naddR dL_law_581 ?_
  refine ab_eald dL_law_582 rfl (by omega) rfl ?_
  refine ab_aload_n dL_law_583 rfl ?_
  refine ab_iload_n dL_law_584 rfl ?_
  refine ab_iconst (v := nI 2) dL_law_585 (by decide) ?_
  refine ab_naddR dL_law_586 ?_
  refine ab_eald dL_law_587 rfl (by omega) rfl ?_
  refine ab_aload_n dL_law_588 rfl ?_
  refine ab_iload_n dL_law_589 rfl ?_
  refine ab_iconst (v := nI 3) dL_law_590 (by decide) ?_
  refine ab_naddR dL_law_591 ?_
  refine ab_eald dL_law_592 rfl (by omega) rfl ?_
  refine ab_callVi [_, _, _] dL_law_593 ml_L_64 mk_X11_meet H.2.2.1.hs (c_meet (k := 3) (b := 0) (Nat.le_refl _) H.2.2.1 H.2.2.2.2.1.1.2.1) (fun v1 h1 hq1 => ?_)
  replace hq1 := cv_c hq1
  have g1 := oX_gr (S := [17, 18]) (T := []) hq1 (fun q => q)
  have ee1 := g1.2.1
  obtain ⟨hM1, hI1⟩ := INV_mid H g1 (by intro a z; simp at z; omega) (fun a z => by cases z)
  refine ab_aload_n dL_law_596 rfl ?_
  refine ab_aload_n dL_law_597 rfl ?_
  refine ab_iload_n dL_law_598 rfl ?_
  refine ab_iconst (v := nI 1) dL_law_599 (by decide) ?_
  refine ab_naddR dL_law_600 ?_
  refine ab_eald dL_law_601 rfl (by rw [ee1]; omega) (show _ = (ab_e h 1).2 (i + 1) by rw [ee1]) ?_
  refine ab_aload_n dL_law_602 rfl ?_
  refine ab_iload_n dL_law_603 rfl ?_
  refine ab_iconst (v := nI 2) dL_law_604 (by decide) ?_
  refine ab_naddR dL_law_605 ?_
  refine ab_eald dL_law_606 rfl (by rw [ee1]; omega) (show _ = (ab_e h 1).2 (i + 2) by rw [ee1]) ?_
  refine ab_aload_n dL_law_607 rfl ?_
  refine ab_iload_n dL_law_608 rfl ?_
  refine ab_iconst (v := nI 3) dL_law_609 (by decide) ?_
  refine ab_naddR dL_law_610 ?_
  refine ab_eald dL_law_611 rfl (by rw [ee1]; omega) (show _ = (ab_e h 1).2 (i + 3) by rw [ee1]) ?_
  refine ab_callVi [_, _, _] dL_law_612 ml_L_67 mk_X12_meet hM1.hs (m_meet (k := 2) (b := 0) (Nat.le_refl _) hM1 hI1.1.2.1) (fun v2 h2 hq2 => ?_)
  replace hq2 := cv_m (by decide) hq2
  have ee2 := (oX_fM hq2 (fun q => q)).trans ee1
  obtain ⟨ev, W2, H2⟩ := both_I H hq1 hq2 (fun x _ q1 q2 => ⟨W, INV_q H q1 (by intro a z; simp at z; omega) q2 (by intro a z; simp at z; omega) rfl⟩)
  refine ab_icmp_eq 1396 dL_law_615 (by decide) (fun c_615 => ?_) (fun c_615 => ?_)
  · skip
    exact ab_less (by omega) (cont W2 h2 H2 ee2)
  · skip
    exact absurd ev c_615
set_option maxRecDepth 100000 in
set_option maxHeartbeats 4000000 in
theorem law_12 {k b i : Nat} {h : ab_H} {W : wS} {post : Value → ab_H → Prop} (hk : 12 ≤ k) (hb9 : 110 ≤ b) (H : INV W h) (hn : (ab_e h 1).1 < 2147483648) (hi : i + 5 ≤ (ab_e h 1).1) (cont : ∀ (W' : wS) (h' : ab_H), INV W' h' → ab_e h' = ab_e h → ab_R k (b - 110) mL_law 1396 [some (.ref 1), some (.ref 5), some (.ref 50), some (.int (nI i))] [] h' post) : ab_R k b mL_law 620 [some (.ref 1), some (.ref 5), some (.ref 50), some (.int (nI i))] [] h post := by
  refine ab_aload_n dL_law_620 rfl ?_
  refine ab_aload_n dL_law_621 rfl ?_
  refine ab_iload_n dL_law_622 rfl ?_
  refine ab_iconst (v := nI 1) dL_law_623 (by decide) ?_
  refine ab_naddR dL_law_624 ?_
  refine ab_eald dL_law_625 rfl (by omega) rfl ?_
  refine ab_callVi [_] dL_law_626 ml_L_68 mk_X11_steady H.2.2.1.hs (c_steady (k := 2) (b := 0) (Nat.le_refl _) H.2.2.1 H.2.2.2.2.1.1.2.1) (fun v1 h1 hq1 => ?_)
  replace hq1 := cv_c hq1
  have g1 := oX_gr (S := []) (T := []) hq1 (fun q => q)
  have ee1 := g1.2.1
  obtain ⟨hM1, hI1⟩ := INV_mid H g1 (by intro a z; simp at z; omega) (fun a z => by cases z)
  refine ab_aload_n dL_law_629 rfl ?_
  refine ab_aload_n dL_law_630 rfl ?_
  refine ab_iload_n dL_law_631 rfl ?_
  refine ab_iconst (v := nI 1) dL_law_632 (by decide) ?_
  refine ab_naddR dL_law_633 ?_
  refine ab_eald dL_law_634 rfl (by rw [ee1]; omega) (show _ = (ab_e h 1).2 (i + 1) by rw [ee1]) ?_
  refine ab_callVi [_] dL_law_635 ml_L_71 mk_X12_steady hM1.hs (m_steady (k := 2) (b := 0) (Nat.le_refl _) hM1 hI1.1.2.1) (fun v2 h2 hq2 => ?_)
  replace hq2 := cv_m (by decide) hq2
  have ee2 := (oX_fM hq2 (fun q => q)).trans ee1
  obtain ⟨ev, W2, H2⟩ := both_I H hq1 hq2 (fun x _ q1 q2 => ⟨W, INV_q H q1 (fun a z => by cases z) q2 (fun a z => by cases z) rfl⟩)
  refine ab_icmp_eq 1396 dL_law_638 (by decide) (fun c_638 => ?_) (fun c_638 => ?_)
  · skip
    exact ab_less (by omega) (cont W2 h2 H2 ee2)
  · skip
    exact absurd ev c_638
set_option maxRecDepth 100000 in
set_option maxHeartbeats 4000000 in
theorem law_13 {k b i : Nat} {h : ab_H} {W : wS} {post : Value → ab_H → Prop} (hk : 12 ≤ k) (hb9 : 110 ≤ b) (H : INV W h) (hn : (ab_e h 1).1 < 2147483648) (hi : i + 5 ≤ (ab_e h 1).1) (cont : ∀ (W' : wS) (h' : ab_H), INV W' h' → ab_e h' = ab_e h → ab_R k (b - 110) mL_law 1396 [some (.ref 1), some (.ref 5), some (.ref 50), some (.int (nI i))] [] h' post) : ab_R k b mL_law 643 [some (.ref 1), some (.ref 5), some (.ref 50), some (.int (nI i))] [] h post := by
  refine ab_aload_n dL_law_643 rfl ?_
  refine ab_aload_n dL_law_644 rfl ?_
  refine ab_iload_n dL_law_645 rfl ?_
  refine ab_iconst (v := nI 1) dL_law_646 (by decide) ?_
  refine ab_naddR dL_law_647 ?_
  refine ab_eald dL_law_648 rfl (by omega) rfl ?_
  refine ab_callVi [_] dL_law_649 ml_L_72 mk_X11_falls H.2.2.1.hs (c_falls (k := 3) (b := 0) (Nat.le_refl _) H.2.2.1 H.2.2.2.2.1.1.2.1) (fun v1 h1 hq1 => ?_)
  replace hq1 := cv_c hq1
  have g1 := oX_gr (S := [15, 16]) (T := []) hq1 (fun q => q)
  have ee1 := g1.2.1
  obtain ⟨hM1, hI1⟩ := INV_mid H g1 (by intro a z; simp at z; omega) (fun a z => by cases z)
  refine ab_aload_n dL_law_652 rfl ?_
  refine ab_aload_n dL_law_653 rfl ?_
  refine ab_iload_n dL_law_654 rfl ?_
  refine ab_iconst (v := nI 1) dL_law_655 (by decide) ?_
  refine ab_naddR dL_law_656 ?_
  refine ab_eald dL_law_657 rfl (by rw [ee1]; omega) (show _ = (ab_e h 1).2 (i + 1) by rw [ee1]) ?_
  refine ab_callVi [_] dL_law_658 ml_L_75 mk_X12_falls hM1.hs (m_falls (k := 2) (b := 0) (Nat.le_refl _) hM1 hI1.1.2.1) (fun v2 h2 hq2 => ?_)
  replace hq2 := cv_m (by decide) hq2
  have ee2 := (oX_fM hq2 (fun q => q)).trans ee1
  obtain ⟨ev, W2, H2⟩ := both_I H hq1 hq2 (fun x _ q1 q2 => ⟨W, INV_q H q1 (by intro a z; simp at z; omega) q2 (by intro a z; simp at z; omega) rfl⟩)
  refine ab_icmp_eq 1396 dL_law_661 (by decide) (fun c_661 => ?_) (fun c_661 => ?_)
  · skip
    exact ab_less (by omega) (cont W2 h2 H2 ee2)
  · skip
    exact absurd ev c_661
set_option maxRecDepth 100000 in
set_option maxHeartbeats 4000000 in
theorem law_14 {k b i : Nat} {h : ab_H} {W : wS} {post : Value → ab_H → Prop} (hk : 12 ≤ k) (hb9 : 110 ≤ b) (H : INV W h) (hn : (ab_e h 1).1 < 2147483648) (hi : i + 5 ≤ (ab_e h 1).1) (cont : ∀ (W' : wS) (h' : ab_H), INV W' h' → ab_e h' = ab_e h → ab_R k (b - 110) mL_law 1396 [some (.ref 1), some (.ref 5), some (.ref 50), some (.int (nI i))] [] h' post) : ab_R k b mL_law 666 [some (.ref 1), some (.ref 5), some (.ref 50), some (.int (nI i))] [] h post := by
  refine ab_aload_n dL_law_666 rfl ?_
  refine ab_aload_n dL_law_667 rfl ?_
  refine ab_iload_n dL_law_668 rfl ?_
  refine ab_iconst (v := nI 1) dL_law_669 (by decide) ?_
  refine ab_naddR dL_law_670 ?_
  refine ab_eald dL_law_671 rfl (by omega) rfl ?_
  refine ab_aload_n dL_law_672 rfl ?_
  refine ab_iload_n dL_law_673 rfl ?_
  refine ab_iconst (v := nI 2) dL_law_674 (by decide) ?_
  refine ab_naddR dL_law_675 ?_
  refine ab_eald dL_law_676 rfl (by omega) rfl ?_
  refine ab_aload_n dL_law_677 rfl ?_
  refine ab_iload_n dL_law_678 rfl ?_
  refine ab_iconst (v := nI 3) dL_law_679 (by decide) ?_
  refine ab_naddR dL_law_680 ?_
  refine ab_eald dL_law_681 rfl (by omega) rfl ?_
  refine ab_aload_n dL_law_682 rfl ?_
  refine ab_iload_n dL_law_683 rfl ?_
  refine ab_iconst (v := nI 4) dL_law_684 (by decide) ?_
  refine ab_naddR dL_law_685 ?_
  refine ab_eald dL_law_686 rfl (by omega) rfl ?_
  refine ab_callVi [_, _, _, _] dL_law_687 ml_L_76 mk_X11_lots H.2.2.1.hs (c_lots (k := 2) (b := 0) (Nat.le_refl _) H.2.2.1 H.2.2.2.2.1.1.2.1) (fun v1 h1 hq1 => ?_)
  replace hq1 := cv_c hq1
  have g1 := oX_gr (S := []) (T := []) hq1 (fun q => q)
  have ee1 := g1.2.1
  obtain ⟨hM1, hI1⟩ := INV_mid H g1 (by intro a z; simp at z; omega) (fun a z => by cases z)
  refine ab_aload_n dL_law_690 rfl ?_
  refine ab_aload_n dL_law_691 rfl ?_
  refine ab_iload_n dL_law_692 rfl ?_
  refine ab_iconst (v := nI 1) dL_law_693 (by decide) ?_
  refine ab_naddR dL_law_694 ?_
  refine ab_eald dL_law_695 rfl (by rw [ee1]; omega) (show _ = (ab_e h 1).2 (i + 1) by rw [ee1]) ?_
  refine ab_aload_n dL_law_696 rfl ?_
  refine ab_iload_n dL_law_697 rfl ?_
  refine ab_iconst (v := nI 2) dL_law_698 (by decide) ?_
  refine ab_naddR dL_law_699 ?_
  refine ab_eald dL_law_700 rfl (by rw [ee1]; omega) (show _ = (ab_e h 1).2 (i + 2) by rw [ee1]) ?_
  refine ab_aload_n dL_law_701 rfl ?_
  refine ab_iload_n dL_law_702 rfl ?_
  refine ab_iconst (v := nI 3) dL_law_703 (by decide) ?_
  refine ab_naddR dL_law_704 ?_
  refine ab_eald dL_law_705 rfl (by rw [ee1]; omega) (show _ = (ab_e h 1).2 (i + 3) by rw [ee1]) ?_
  refine ab_aload_n dL_law_706 rfl ?_
  refine ab_iload_n dL_law_707 rfl ?_
  refine ab_iconst (v := nI 4) dL_law_708 (by decide) ?_
  refine ab_naddR dL_law_709 ?_
  refine ab_eald dL_law_710 rfl (by rw [ee1]; omega) (show _ = (ab_e h 1).2 (i + 4) by rw [ee1]) ?_
  refine ab_callVi [_, _, _, _] dL_law_711 ml_L_79 mk_X12_lots hM1.hs (m_lots (k := 2) (b := 0) (Nat.le_refl _) hM1 hI1.1.2.1) (fun v2 h2 hq2 => ?_)
  replace hq2 := cv_m (by decide) hq2
  have ee2 := (oX_fM hq2 (fun q => q)).trans ee1
  obtain ⟨ev, W2, H2⟩ := both_I H hq1 hq2 (fun x _ q1 q2 => ⟨W, INV_q H q1 (fun a z => by cases z) q2 (fun a z => by cases z) rfl⟩)
  refine ab_icmp_eq 1396 dL_law_714 (by decide) (fun c_714 => ?_) (fun c_714 => ?_)
  · skip
    exact ab_less (by omega) (cont W2 h2 H2 ee2)
  · skip
    exact absurd ev c_714
set_option maxRecDepth 100000 in
set_option maxHeartbeats 4000000 in
theorem law_16 {k b i : Nat} {h : ab_H} {W : wS} {post : Value → ab_H → Prop} (hk : 12 ≤ k) (hb9 : 110 ≤ b) (H : INV W h) (hn : (ab_e h 1).1 < 2147483648) (hi : i + 5 ≤ (ab_e h 1).1) (cont : ∀ (W' : wS) (h' : ab_H), INV W' h' → ab_e h' = ab_e h → ab_R k (b - 110) mL_law 1396 [some (.ref 1), some (.ref 5), some (.ref 50), some (.int (nI i))] [] h' post) : ab_R k b mL_law 752 [some (.ref 1), some (.ref 5), some (.ref 50), some (.int (nI i))] [] h post := by
  refine ab_aload_n dL_law_752 rfl ?_
  refine ab_aload_n dL_law_753 rfl ?_
  refine ab_iload_n dL_law_754 rfl ?_
  refine ab_iconst (v := nI 1) dL_law_755 (by decide) ?_
  refine ab_naddR dL_law_756 ?_
  refine ab_eald dL_law_757 rfl (by omega) rfl ?_
  refine ab_aload_n dL_law_758 rfl ?_
  refine ab_iload_n dL_law_759 rfl ?_
  refine ab_iconst (v := nI 2) dL_law_760 (by decide) ?_
  refine ab_naddR dL_law_761 ?_
  refine ab_eald dL_law_762 rfl (by omega) rfl ?_
  refine ab_callVi [_, _] dL_law_763 ml_L_84 mk_X11_colour H.2.2.1.hs (c_colour (k := 3) (b := 0) (Nat.le_refl _) H.2.2.1 H.2.2.2.2.1.1.2.2) (fun v1 h1 hq1 => ?_)
  have g1 := oX_gr (S := []) (T := []) hq1 (fun q => q)
  have ee1 := g1.2.1
  obtain ⟨hM1, hI1⟩ := INV_mid H g1 (by intro a z; simp at z; omega) (fun a z => by cases z)
  refine ab_aload_n dL_law_766 rfl ?_
  refine ab_aload_n dL_law_767 rfl ?_
  refine ab_iload_n dL_law_768 rfl ?_
  refine ab_iconst (v := nI 1) dL_law_769 (by decide) ?_
  refine ab_naddR dL_law_770 ?_
  refine ab_eald dL_law_771 rfl (by rw [ee1]; omega) (show _ = (ab_e h 1).2 (i + 1) by rw [ee1]) ?_
  refine ab_aload_n dL_law_772 rfl ?_
  refine ab_iload_n dL_law_773 rfl ?_
  refine ab_iconst (v := nI 2) dL_law_774 (by decide) ?_
  refine ab_naddR dL_law_775 ?_
  refine ab_eald dL_law_776 rfl (by rw [ee1]; omega) (show _ = (ab_e h 1).2 (i + 2) by rw [ee1]) ?_
  refine ab_callVi [_, _] dL_law_777 ml_L_87 mk_X12_colour hM1.hs (m_colour (k := 5) (b := 0) (Nat.le_refl _) hM1 hI1.1.2.2) (fun v2 h2 hq2 => ?_)
  have ee2 := (oX_fM hq2 (fun q => q)).trans ee1
  obtain ⟨ev, W2, H2⟩ := both_I H hq1 hq2 (fun x _ q1 q2 => ⟨W, INV_q H q1 (fun a z => by cases z) q2 (fun a z => by cases z) rfl⟩)
  refine ab_icmp_eq 1396 dL_law_780 (by decide) (fun c_780 => ?_) (fun c_780 => ?_)
  · skip
    exact ab_less (by omega) (cont W2 h2 H2 ee2)
  · skip
    exact absurd ev c_780
set_option maxRecDepth 100000 in
set_option maxHeartbeats 4000000 in
theorem law_18 {k b i : Nat} {h : ab_H} {W : wS} {post : Value → ab_H → Prop} (hk : 12 ≤ k) (hb9 : 110 ≤ b) (H : INV W h) (hn : (ab_e h 1).1 < 2147483648) (hi : i + 5 ≤ (ab_e h 1).1) (cont : ∀ (W' : wS) (h' : ab_H), INV W' h' → ab_e h' = ab_e h → ab_R k (b - 110) mL_law 1396 [some (.ref 1), some (.ref 5), some (.ref 50), some (.int (nI i))] [] h' post) : ab_R k b mL_law 838 [some (.ref 1), some (.ref 5), some (.ref 50), some (.int (nI i))] [] h post := by
  refine ab_aload_n dL_law_838 rfl ?_
  refine ab_aload_n dL_law_839 rfl ?_
  refine ab_iload_n dL_law_840 rfl ?_
  refine ab_iconst (v := nI 1) dL_law_841 (by decide) ?_
  refine ab_naddR dL_law_842 ?_
  refine ab_eald dL_law_843 rfl (by omega) rfl ?_
  refine ab_aload_n dL_law_844 rfl ?_
  refine ab_iload_n dL_law_845 rfl ?_
  refine ab_iconst (v := nI 2) dL_law_846 (by decide) ?_
  refine ab_naddR dL_law_847 ?_
  refine ab_eald dL_law_848 rfl (by omega) rfl ?_
  refine ab_callVi [_, _] dL_law_849 ml_L_92 mk_X11_tri H.2.2.1.hs (c_tri (k := 2) (b := 0) (Nat.le_refl _) H.2.2.1 H.2.2.2.2.1.1.2.2) (fun v1 h1 hq1 => ?_)
  have g1 := oX_gr (S := []) (T := []) hq1 (fun q => q)
  have ee1 := g1.2.1
  obtain ⟨hM1, hI1⟩ := INV_mid H g1 (by intro a z; simp at z; omega) (fun a z => by cases z)
  refine ab_aload_n dL_law_852 rfl ?_
  refine ab_aload_n dL_law_853 rfl ?_
  refine ab_iload_n dL_law_854 rfl ?_
  refine ab_iconst (v := nI 1) dL_law_855 (by decide) ?_
  refine ab_naddR dL_law_856 ?_
  refine ab_eald dL_law_857 rfl (by rw [ee1]; omega) (show _ = (ab_e h 1).2 (i + 1) by rw [ee1]) ?_
  refine ab_aload_n dL_law_858 rfl ?_
  refine ab_iload_n dL_law_859 rfl ?_
  refine ab_iconst (v := nI 2) dL_law_860 (by decide) ?_
  refine ab_naddR dL_law_861 ?_
  refine ab_eald dL_law_862 rfl (by rw [ee1]; omega) (show _ = (ab_e h 1).2 (i + 2) by rw [ee1]) ?_
  refine ab_callVi [_, _] dL_law_863 ml_L_95 mk_X12_tri hM1.hs (m_tri (k := 6) (b := 0) (Nat.le_refl _) hM1 hI1.1.2.2) (fun v2 h2 hq2 => ?_)
  have ee2 := (oX_fM hq2 (fun q => q)).trans ee1
  obtain ⟨ev, W2, H2⟩ := both_I H hq1 hq2 (fun x _ q1 q2 => ⟨W, INV_q H q1 (fun a z => by cases z) q2 (fun a z => by cases z) rfl⟩)
  refine ab_icmp_eq 1396 dL_law_866 (by decide) (fun c_866 => ?_) (fun c_866 => ?_)
  · skip
    exact ab_less (by omega) (cont W2 h2 H2 ee2)
  · skip
    exact absurd ev c_866
set_option maxRecDepth 100000 in
set_option maxHeartbeats 4000000 in
theorem law_21 {k b i : Nat} {h : ab_H} {W : wS} {post : Value → ab_H → Prop} (hk : 12 ≤ k) (hb9 : 110 ≤ b) (H : INV W h) (hn : (ab_e h 1).1 < 2147483648) (hi : i + 5 ≤ (ab_e h 1).1) (cont : ∀ (W' : wS) (h' : ab_H), INV W' h' → ab_e h' = ab_e h → ab_R k (b - 110) mL_law 1396 [some (.ref 1), some (.ref 5), some (.ref 50), some (.int (nI i))] [] h' post) : ab_R k b mL_law 939 [some (.ref 1), some (.ref 5), some (.ref 50), some (.int (nI i))] [] h post := by
  refine ab_aload_n dL_law_939 rfl ?_
  refine ab_aload_n dL_law_940 rfl ?_
  refine ab_iload_n dL_law_941 rfl ?_
  refine ab_iconst (v := nI 1) dL_law_942 (by decide) ?_
  refine ab_naddR dL_law_943 ?_
  refine ab_eald dL_law_944 rfl (by omega) rfl ?_
  refine ab_aload_n dL_law_945 rfl ?_
  refine ab_iload_n dL_law_946 rfl ?_
  refine ab_iconst (v := nI 2) dL_law_947 (by decide) ?_
  refine ab_naddR dL_law_948 ?_
  refine ab_eald dL_law_949 rfl (by omega) rfl ?_
  refine ab_callVi [_, _] dL_law_950 ml_L_104 mk_X11_even H.2.2.1.hs (c_even (k := 3) (b := 0) (Nat.le_refl _) H.2.2.1 H.2.2.2.2.1.1.2.2) (fun v1 h1 hq1 => ?_)
  have g1 := oX_gr (S := []) (T := []) hq1 (fun q => q)
  have ee1 := g1.2.1
  obtain ⟨hM1, hI1⟩ := INV_mid H g1 (by intro a z; simp at z; omega) (fun a z => by cases z)
  refine ab_aload_n dL_law_953 rfl ?_
  refine ab_aload_n dL_law_954 rfl ?_
  refine ab_iload_n dL_law_955 rfl ?_
  refine ab_iconst (v := nI 1) dL_law_956 (by decide) ?_
  refine ab_naddR dL_law_957 ?_
  refine ab_eald dL_law_958 rfl (by rw [ee1]; omega) (show _ = (ab_e h 1).2 (i + 1) by rw [ee1]) ?_
  refine ab_aload_n dL_law_959 rfl ?_
  refine ab_iload_n dL_law_960 rfl ?_
  refine ab_iconst (v := nI 2) dL_law_961 (by decide) ?_
  refine ab_naddR dL_law_962 ?_
  refine ab_eald dL_law_963 rfl (by rw [ee1]; omega) (show _ = (ab_e h 1).2 (i + 2) by rw [ee1]) ?_
  refine ab_callVi [_, _] dL_law_964 ml_L_107 mk_X12_even hM1.hs (m_even (k := 7) (b := 0) (Nat.le_refl _) hM1 hI1.1.2.2) (fun v2 h2 hq2 => ?_)
  have ee2 := (oX_fM hq2 (fun q => q)).trans ee1
  obtain ⟨ev, W2, H2⟩ := both_I H hq1 hq2 (fun x _ q1 q2 => ⟨W, INV_q H q1 (fun a z => by cases z) q2 (fun a z => by cases z) rfl⟩)
  refine ab_icmp_eq 1396 dL_law_967 (by decide) (fun c_967 => ?_) (fun c_967 => ?_)
  · skip
    exact ab_less (by omega) (cont W2 h2 H2 ee2)
  · skip
    exact absurd ev c_967
set_option maxRecDepth 100000 in
set_option maxHeartbeats 4000000 in
theorem law_22 {k b i : Nat} {h : ab_H} {W : wS} {post : Value → ab_H → Prop} (hk : 12 ≤ k) (hb9 : 110 ≤ b) (H : INV W h) (hn : (ab_e h 1).1 < 2147483648) (hi : i + 5 ≤ (ab_e h 1).1) (cont : ∀ (W' : wS) (h' : ab_H), INV W' h' → ab_e h' = ab_e h → ab_R k (b - 110) mL_law 1396 [some (.ref 1), some (.ref 5), some (.ref 50), some (.int (nI i))] [] h' post) : ab_R k b mL_law 972 [some (.ref 1), some (.ref 5), some (.ref 50), some (.int (nI i))] [] h post := by
  refine ab_aload_n dL_law_972 rfl ?_
  refine ab_aload_n dL_law_973 rfl ?_
  refine ab_iload_n dL_law_974 rfl ?_
  refine ab_iconst (v := nI 1) dL_law_975 (by decide) ?_
  refine ab_naddR dL_law_976 ?_
  refine ab_eald dL_law_977 rfl (by omega) rfl ?_
  refine ab_callVi [_] dL_law_978 ml_L_108 mk_X11_bits H.2.2.1.hs (c_bits (k := 1) (b := 0) (Nat.le_refl _) H.2.2.1 H.2.2.2.2.1.1.2.2) (fun v1 h1 hq1 => ?_)
  have g1 := oX_gr (S := []) (T := []) hq1 (fun q => q)
  have ee1 := g1.2.1
  obtain ⟨hM1, hI1⟩ := INV_mid H g1 (by intro a z; simp at z; omega) (fun a z => by cases z)
  refine ab_aload_n dL_law_981 rfl ?_
  refine ab_aload_n dL_law_982 rfl ?_
  refine ab_iload_n dL_law_983 rfl ?_
  refine ab_iconst (v := nI 1) dL_law_984 (by decide) ?_
  refine ab_naddR dL_law_985 ?_
  refine ab_eald dL_law_986 rfl (by rw [ee1]; omega) (show _ = (ab_e h 1).2 (i + 1) by rw [ee1]) ?_
  refine ab_callVi [_] dL_law_987 ml_L_111 mk_X12_bits hM1.hs (m_bits (k := 5) (b := 0) (Nat.le_refl _) hM1 hI1.1.2.2) (fun v2 h2 hq2 => ?_)
  have ee2 := (oX_fM hq2 (fun q => q)).trans ee1
  obtain ⟨ev, W2, H2⟩ := both_I H hq1 hq2 (fun x _ q1 q2 => ⟨W, INV_q H q1 (fun a z => by cases z) q2 (fun a z => by cases z) rfl⟩)
  refine ab_icmp_eq 1396 dL_law_990 (by decide) (fun c_990 => ?_) (fun c_990 => ?_)
  · skip
    exact ab_less (by omega) (cont W2 h2 H2 ee2)
  · skip
    exact absurd ev c_990
set_option maxRecDepth 100000 in
set_option maxHeartbeats 4000000 in
theorem law_23 {k b i : Nat} {h : ab_H} {W : wS} {post : Value → ab_H → Prop} (hk : 12 ≤ k) (hb9 : 110 ≤ b) (H : INV W h) (hn : (ab_e h 1).1 < 2147483648) (hi : i + 5 ≤ (ab_e h 1).1) (cont : ∀ (W' : wS) (h' : ab_H), INV W' h' → ab_e h' = ab_e h → ab_R k (b - 110) mL_law 1396 [some (.ref 1), some (.ref 5), some (.ref 50), some (.int (nI i))] [] h' post) : ab_R k b mL_law 995 [some (.ref 1), some (.ref 5), some (.ref 50), some (.int (nI i))] [] h post := by
  refine ab_aload_n dL_law_995 rfl ?_
  refine ab_aload_n dL_law_996 rfl ?_
  refine ab_iload_n dL_law_997 rfl ?_
  refine ab_iconst (v := nI 1) dL_law_998 (by decide) ?_
  refine ab_naddR dL_law_999 ?_
  refine ab_eald dL_law_1000 rfl (by omega) rfl ?_
  refine ab_aload_n dL_law_1001 rfl ?_
  refine ab_iload_n dL_law_1002 rfl ?_
  refine ab_iconst (v := nI 2) dL_law_1003 (by decide) ?_
  refine ab_naddR dL_law_1004 ?_
  refine ab_eald dL_law_1005 rfl (by omega) rfl ?_
  refine ab_callVi [_, _] dL_law_1006 ml_L_112 mk_X11_bitsOf H.2.2.1.hs (c_bitsOf (k := 2) (b := 0) (Nat.le_refl _) H.2.2.1 H.2.2.2.2.1.1.2.2) (fun v1 h1 hq1 => ?_)
  have g1 := oX_gr (S := []) (T := []) hq1 (fun q => q)
  have ee1 := g1.2.1
  obtain ⟨hM1, hI1⟩ := INV_mid H g1 (by intro a z; simp at z; omega) (fun a z => by cases z)
  refine ab_aload_n dL_law_1009 rfl ?_
  refine ab_aload_n dL_law_1010 rfl ?_
  refine ab_iload_n dL_law_1011 rfl ?_
  refine ab_iconst (v := nI 1) dL_law_1012 (by decide) ?_
  refine ab_naddR dL_law_1013 ?_
  refine ab_eald dL_law_1014 rfl (by rw [ee1]; omega) (show _ = (ab_e h 1).2 (i + 1) by rw [ee1]) ?_
  refine ab_aload_n dL_law_1015 rfl ?_
  refine ab_iload_n dL_law_1016 rfl ?_
  refine ab_iconst (v := nI 2) dL_law_1017 (by decide) ?_
  refine ab_naddR dL_law_1018 ?_
  refine ab_eald dL_law_1019 rfl (by rw [ee1]; omega) (show _ = (ab_e h 1).2 (i + 2) by rw [ee1]) ?_
  refine ab_callVi [_, _] dL_law_1020 ml_L_115 mk_X12_bitsOf hM1.hs (m_bitsOf (k := 5) (b := 0) (Nat.le_refl _) hM1 hI1.1.2.2) (fun v2 h2 hq2 => ?_)
  have ee2 := (oX_fM hq2 (fun q => q)).trans ee1
  obtain ⟨ev, W2, H2⟩ := both_I H hq1 hq2 (fun x _ q1 q2 => ⟨W, INV_q H q1 (fun a z => by cases z) q2 (fun a z => by cases z) rfl⟩)
  refine ab_icmp_eq 1396 dL_law_1023 (by decide) (fun c_1023 => ?_) (fun c_1023 => ?_)
  · skip
    exact ab_less (by omega) (cont W2 h2 H2 ee2)
  · skip
    exact absurd ev c_1023
set_option maxRecDepth 100000 in
set_option maxHeartbeats 4000000 in
theorem law_27 {k b i : Nat} {h : ab_H} {W : wS} {post : Value → ab_H → Prop} (hk : 12 ≤ k) (hb9 : 110 ≤ b) (H : INV W h) (hn : (ab_e h 1).1 < 2147483648) (hi : i + 5 ≤ (ab_e h 1).1) (cont : ∀ (W' : wS) (h' : ab_H), INV W' h' → ab_e h' = ab_e h → ab_R k (b - 110) mL_law 1396 [some (.ref 1), some (.ref 5), some (.ref 50), some (.int (nI i))] [] h' post) : ab_R k b mL_law 1138 [some (.ref 1), some (.ref 5), some (.ref 50), some (.int (nI i))] [] h post := by
  refine ab_aload_n dL_law_1138 rfl ?_
  refine ab_aload_n dL_law_1139 rfl ?_
  refine ab_iload_n dL_law_1140 rfl ?_
  refine ab_iconst (v := nI 1) dL_law_1141 (by decide) ?_
  refine ab_naddR dL_law_1142 ?_
  refine ab_eald dL_law_1143 rfl (by omega) rfl ?_
  refine ab_aload_n dL_law_1144 rfl ?_
  refine ab_iload_n dL_law_1145 rfl ?_
  refine ab_iconst (v := nI 2) dL_law_1146 (by decide) ?_
  refine ab_naddR dL_law_1147 ?_
  refine ab_eald dL_law_1148 rfl (by omega) rfl ?_
  refine ab_aload_n dL_law_1149 rfl ?_
  refine ab_iload_n dL_law_1150 rfl ?_
  refine ab_iconst (v := nI 3) dL_law_1151 (by decide) ?_
  refine ab_naddR dL_law_1152 ?_
  refine ab_eald dL_law_1153 rfl (by omega) rfl ?_
  refine ab_callVi [_, _, _] dL_law_1154 ml_L_129 mk_X11_racked H.2.2.1.hs (c_racked (k := 2) (b := 0) (Nat.le_refl _) H.2.2.1 H.2.2.2.2.1.2.2.2.1) (fun v1 h1 hq1 => ?_)
  have g1 := oX_gr (S := []) (T := []) hq1 (fun q => q)
  have ee1 := g1.2.1
  obtain ⟨hM1, hI1⟩ := INV_mid H g1 (by intro a z; simp at z; omega) (fun a z => by cases z)
  refine ab_aload_n dL_law_1157 rfl ?_
  refine ab_aload_n dL_law_1158 rfl ?_
  refine ab_iload_n dL_law_1159 rfl ?_
  refine ab_iconst (v := nI 1) dL_law_1160 (by decide) ?_
  refine ab_naddR dL_law_1161 ?_
  refine ab_eald dL_law_1162 rfl (by rw [ee1]; omega) (show _ = (ab_e h 1).2 (i + 1) by rw [ee1]) ?_
  refine ab_aload_n dL_law_1163 rfl ?_
  refine ab_iload_n dL_law_1164 rfl ?_
  refine ab_iconst (v := nI 2) dL_law_1165 (by decide) ?_
  refine ab_naddR dL_law_1166 ?_
  refine ab_eald dL_law_1167 rfl (by rw [ee1]; omega) (show _ = (ab_e h 1).2 (i + 2) by rw [ee1]) ?_
  refine ab_aload_n dL_law_1168 rfl ?_
  refine ab_iload_n dL_law_1169 rfl ?_
  refine ab_iconst (v := nI 3) dL_law_1170 (by decide) ?_
  refine ab_naddR dL_law_1171 ?_
  refine ab_eald dL_law_1172 rfl (by rw [ee1]; omega) (show _ = (ab_e h 1).2 (i + 3) by rw [ee1]) ?_
  refine ab_callVi [_, _, _] dL_law_1173 ml_L_132 mk_X12_racked hM1.hs (m_racked (k := 2) (b := 0) (Nat.le_refl _) hM1 hI1.2.2.2.1) (fun v2 h2 hq2 => ?_)
  have ee2 := (oX_fM hq2 (fun q => q)).trans ee1
  obtain ⟨ev, W2, H2⟩ := both_I H hq1 hq2 (fun x _ q1 q2 => ⟨W, INV_q H q1 (fun a z => by cases z) q2 (fun a z => by cases z) rfl⟩)
  refine ab_icmp_eq 1396 dL_law_1176 (by decide) (fun c_1176 => ?_) (fun c_1176 => ?_)
  · skip
    exact ab_less (by omega) (cont W2 h2 H2 ee2)
  · skip
    exact absurd ev c_1176
set_option maxRecDepth 100000 in
set_option maxHeartbeats 4000000 in
theorem law_32 {k b i : Nat} {h : ab_H} {W : wS} {post : Value → ab_H → Prop} (hk : 12 ≤ k) (hb9 : 110 ≤ b) (H : INV W h) (hn : (ab_e h 1).1 < 2147483648) (hi : i + 5 ≤ (ab_e h 1).1) (cont : ∀ (W' : wS) (h' : ab_H), INV W' h' → ab_e h' = ab_e h → ab_R k (b - 110) mL_law 1396 [some (.ref 1), some (.ref 5), some (.ref 50), some (.int (nI i))] [] h' post) : ab_R k b mL_law 1324 [some (.ref 1), some (.ref 5), some (.ref 50), some (.int (nI i))] [] h post := by
  refine ab_aload_n dL_law_1324 rfl ?_
  refine ab_aload_n dL_law_1325 rfl ?_
  refine ab_iload_n dL_law_1326 rfl ?_
  refine ab_iconst (v := nI 1) dL_law_1327 (by decide) ?_
  refine ab_naddR dL_law_1328 ?_
  refine ab_eald dL_law_1329 rfl (by omega) rfl ?_
  refine ab_callVi [_] dL_law_1330 ml_L_149 mk_X11_judge H.2.2.1.hs (c_judge (k := 1) (b := 0) (Nat.le_refl _) H.2.2.1 H.2.2.2.2.1.1.1 H.2.2.2.2.1.2.2.2.2) (fun v1 h1 hq1 => ?_)
  have g1 := oX_gr (S := []) (T := []) hq1 (fun q => q)
  have ee1 := g1.2.1
  obtain ⟨hM1, hI1⟩ := INV_mid H g1 (by intro a z; simp at z; omega) (fun a z => by cases z)
  refine ab_aload_n dL_law_1333 rfl ?_
  refine ab_aload_n dL_law_1334 rfl ?_
  refine ab_iload_n dL_law_1335 rfl ?_
  refine ab_iconst (v := nI 1) dL_law_1336 (by decide) ?_
  refine ab_naddR dL_law_1337 ?_
  refine ab_eald dL_law_1338 rfl (by rw [ee1]; omega) (show _ = (ab_e h 1).2 (i + 1) by rw [ee1]) ?_
  refine ab_callVi [_] dL_law_1339 ml_L_152 mk_X12_judge hM1.hs (m_judge (k := 2) (b := 0) (Nat.le_refl _) hM1 hI1.1.1 hI1.2.2.2.2) (fun v2 h2 hq2 => ?_)
  have ee2 := (oX_fM hq2 (fun q => q)).trans ee1
  obtain ⟨ev, W2, H2⟩ := both_I H hq1 hq2 (fun x _ q1 q2 => ⟨W, INV_q H q1 (fun a z => by cases z) q2 (fun a z => by cases z) rfl⟩)
  refine ab_icmp_eq 1396 dL_law_1342 (by decide) (fun c_1342 => ?_) (fun c_1342 => ?_)
  · skip
    exact ab_less (by omega) (cont W2 h2 H2 ee2)
  · skip
    exact absurd ev c_1342
