/-! ===== the model: lists ===== -/
theorem ab_oX_id {F : Nat} {G K : ab_H → Prop} {o : Nat ⊕ Int32} {v : Int32} {h' : ab_H} (e : o = .inr v) (f : K h') : ab_oX F G K o v h' := ab_oX_ok e f
set_option maxRecDepth 100000 in
set_option maxHeartbeats 4000000 in
theorem m_isList {k b : Nat} {h : ab_H} {x : Int32} (hk : 1 ≤ k) : ab_M k b mX12_isList [.int x] h (ab_pb (fun t h' => h' = h ∧ t = ab_inr 0 2 x)) := by
  refine ab_enter ?_
  refine ab_iload_n dX12_isList_0 rfl ?_
  refine ab_i2l dX12_isList_1 ?_
  refine ab_lconst (v := 0) dX12_isList_2 (by decide) ?_
  refine ab_ldc2 dX12_isList_3 kc_X12_230 ?_
  refine ab_callSb [_, _, _] dX12_isList_6 ml_X12_123 mk_X12_isIn (m_isIn (k := 0) (b := 0) (Int32.toInt_toInt64 _) (lo := 0) (by decide) (hi := 2) (by decide)) (fun t hh hq => ?_)
  obtain ⟨hhe, rfl⟩ := hq
  rw [hhe]
  refine ab_retb dX12_isList_9 ?_
  exact ⟨rfl, rfl⟩
set_option maxRecDepth 100000 in
set_option maxHeartbeats 4000000 in
theorem m_isRack {k b : Nat} {h : ab_H} {x : Int32} (hk : 1 ≤ k) : ab_M k b mX12_isRack [.int x] h (ab_pb (fun t h' => h' = h ∧ t = ab_inr 0 2 x)) := by
  refine ab_enter ?_
  refine ab_iload_n dX12_isRack_0 rfl ?_
  refine ab_i2l dX12_isRack_1 ?_
  refine ab_lconst (v := 0) dX12_isRack_2 (by decide) ?_
  refine ab_ldc2 dX12_isRack_3 kc_X12_230 ?_
  refine ab_callSb [_, _, _] dX12_isRack_6 ml_X12_123 mk_X12_isIn (m_isIn (k := 0) (b := 0) (Int32.toInt_toInt64 _) (lo := 0) (by decide) (hi := 2) (by decide)) (fun t hh hq => ?_)
  obtain ⟨hhe, rfl⟩ := hq
  rw [hhe]
  refine ab_retb dX12_isRack_9 ?_
  exact ⟨rfl, rfl⟩
set_option maxRecDepth 100000 in
set_option maxHeartbeats 4000000 in
theorem lp_mList {k b r : Nat} {h : ab_H} {z : Int32} (hM : at_M (ab_sh h) (ab_r h)) (hr : r < 3) : ∀ (j i : Nat) (h1 : ab_H), i + j = 40 → ab_fM [69, 70] [] h h1 → (∀ t, ab_i h1 69 t = if t = r then z else ab_i h 69 t) → (∀ j, j < i → ab_i h1 70 (40 * r + j) = 0) → (∀ t, (t < 40 * r ∨ 40 * r + 40 ≤ t) → ab_i h1 70 t = ab_i h 70 t) → ab_R k b mX12_list 42 [some (.ref 50), some (.int (nI r)), some (.int z), some (.int (nI i))] [] h1 (ab_pi (fun v h' => v = nI 1 ∧ ab_fM [69, 70] [] h h' ∧ (∀ t, ab_i h' 69 t = if t = r then z else ab_i h 69 t) ∧ (∀ j, j < 40 → ab_i h' 70 (40 * r + j) = 0) ∧ ∀ t, (t < 40 * r ∨ 40 * r + 40 ≤ t) → ab_i h' 70 t = ab_i h 70 t)) := by
  intro j
  induction j with
  | zero =>
    intro i h1 hi f e1 hl e3
    obtain rfl : i = 40 := by omega
    have hM1 := at_M.fM f hM
    refine ab_iload_n dX12_list_42 rfl ?_
    refine ab_bipush (v := nI 40) dX12_list_43 (by decide) ?_
    refine ab_nicmp_ge 66 dX12_list_45 (by decide) (by omega) (by omega) (fun c_45 => ?_) (fun c_45 => ?_)
    · skip
      refine ab_iconst (v := nI 1) dX12_list_66 (by decide) ?_
      refine ab_reti dX12_list_67 ?_
      exact ⟨rfl, f, e1, hl, e3⟩
    · skip
      exact absurd (by omega) c_45
  | succ j ih =>
    intro i h1 hi f e1 hl e3
    have hM1 := at_M.fM f hM
    refine ab_iload_n dX12_list_42 rfl ?_
    refine ab_bipush (v := nI 40) dX12_list_43 (by decide) ?_
    refine ab_nicmp_ge 66 dX12_list_45 (by decide) (by omega) (by omega) (fun c_45 => ?_) (fun c_45 => ?_)
    · skip
      exact absurd c_45 (by omega)
    · skip
      refine ab_aload_n dX12_list_48 rfl ?_
      refine ab_getR dX12_list_49 fl_X12_88 hM1.hs hM1.p50_27 ?_
      refine ab_bipush (v := nI 40) dX12_list_52 (by decide) ?_
      refine ab_iload_n dX12_list_54 rfl ?_
      refine ab_nmulR dX12_list_55 ?_
      refine ab_iload_n dX12_list_56 rfl ?_
      refine ab_naddR dX12_list_57 ?_
      refine ab_iconst (v := nI 0) dX12_list_58 (by decide) ?_
      refine ab_iast dX12_list_59 hM1.s70 rfl (by omega) ?_
      refine ab_nincR (ls' := [_, _, _, _]) dX12_list_60 rfl rfl ?_
      refine ab_goto 42 dX12_list_63 (by decide) ?_
      refine ih (i + 1) _ (by omega) (f.si _ _ (by simp) (by decide)) (fun t => (congrFun (ab_i_off (by decide)) t).trans (e1 t)) (fun j hj => ?_) (fun t ht => ?_)
      · rw [ab_i_si_same]; by_cases c : 40 * r + j = 40 * r + i; · rw [if_pos c]; rfl
        · rw [if_neg c]; exact hl j (by omega)
      · rw [ab_i_si_same, if_neg (by omega)]; exact e3 t ht
set_option maxRecDepth 100000 in
set_option maxHeartbeats 4000000 in
theorem m_list {k b : Nat} {h : ab_H} {l : lS} {x z : Int32} (hk : 2 ≤ k) (hM : at_M (ab_sh h) (ab_r h)) (hL : li_M l h) : ab_M k b mX12_list [.ref 50, .int x, .int z] h (ab_pi (ab_oX 51 (ab_fM [] [] h) (fun h' => ab_fM [69, 70] [] h h' ∧ li_M (nx_list l x z) h') (sp_list x z))) := by
  refine ab_enter ?_
  refine ab_iload_n dX12_list_0 rfl ?_
  refine ab_callSb [_] dX12_list_1 ml_X12_332 mk_X12_isList (m_isList (k := 1) (b := 0) (Nat.le_refl _)) (fun t1 hh0 hq => ?_)
  obtain ⟨hhe, rfl⟩ := hq
  rw [hhe]
  refine ab_bif_ne 13 dX12_list_4 (by decide) (fun c_4 => ?_) (fun c_4 => ?_)
  · skip
    refine ab_iload_n dX12_list_13 rfl ?_
    refine ab_bipush (v := nI 40) dX12_list_14 (by decide) ?_
    refine ab_icmp_le 26 dX12_list_16 (by decide) (fun c_16 => ?_) (fun c_16 => ?_)
    · skip
      refine ab_iload_n dX12_list_26 rfl ?_
      refine ab_if_ge 33 dX12_list_27 (by decide) (fun c_27 => ?_) (fun c_27 => ?_)
      · skip
        have hn0 : 0 ≤ z.toInt := ab_ge0.mp c_27
        have hn40 := (ab_Nle (n := 40) (by omega)).mp c_16
        have c_4k := c_4
        obtain ⟨r, rfl, hr2, hr31⟩ := ab_inr_nat (n := 2) c_4
        have hr : r < 3 := by omega
        obtain ⟨q1, q2⟩ := hL r hr
        refine ab_aload_n dX12_list_33 rfl ?_
        refine ab_getR dX12_list_34 fl_X12_85 hM.hs hM.p50_26 ?_
        refine ab_iload_n dX12_list_37 rfl ?_
        refine ab_iload_n dX12_list_38 rfl ?_
        refine ab_iast dX12_list_39 hM.s69 rfl (by omega) ?_
        refine ab_iconst (v := nI 0) dX12_list_40 (by decide) ?_
        refine ab_sti_n (ls' := [_, _, _, _]) dX12_list_41 (by decide) rfl ?_
        obtain ⟨n, rfl, hn31⟩ := ab_of0 (ab_ge0.mpr hn0)
        rw [nI_toInt hn31] at hn40 hn0
        refine ab_mono ?_ (lp_mList (h := h) (z := nI n) hM hr 40 0 _ rfl ((ab_fM.rf h).si _ _ (by simp) (by decide)) (fun t => ab_i_si_same h 69 r _ t) (fun j hj => absurd hj (Nat.not_lt_zero j)) (fun t _ => congrFun (ab_i_off (by decide)) t))
        rintro v h9 ⟨x9, hx9, rfl, f, e1, e2, e3⟩
        refine ⟨_, hx9, ab_oX_ok (by unfold sp_list; rw [if_pos c_4k, nI_toInt hn31, if_neg (by omega), if_neg (by omega)]; rfl) ⟨f, ?_⟩⟩
        unfold nx_list
        rw [nI_toInt hn31, if_neg (by omega), nI_clamp hr31, nI_clamp hn31]
        exact hL.up hr (by omega) e1 e2 e3
      · skip
        refine ab_bipush (v := -14) dX12_list_30 (by decide) ?_
        refine ab_reti dX12_list_32 ?_
        have hn0 : z.toInt < 0 := by have := mt ab_ge0.mpr c_27; omega
        exact ab_oX_ok (by unfold sp_list; rw [if_pos c_4, if_neg (by have := (ab_Nle (n := 40) (by omega)).mp c_16; omega), if_pos hn0]) ⟨ab_fM.rf h, by unfold nx_list; rw [if_pos hn0]; exact hL⟩
    · skip
      refine ab_aload_n dX12_list_19 rfl ?_
      refine ab_bipush (v := -6) dX12_list_20 (by decide) ?_
      refine ab_callVi [_] dX12_list_22 ml_X12_9 mk_X12_refused hM.hs (m_refused (k := 0) (b := 0) (c := 6) hM (by decide) (by omega) (by omega)) (fun v1 hh1 hq => ?_)
      obtain ⟨hv, hh⟩ := hq
      refine ab_reti dX12_list_25 ?_
      exact ab_oX_no (by unfold sp_list; rw [if_pos c_4, if_pos (by have := mt (ab_Nle (n := 40) (by omega)).mpr c_16; omega)]) (ab_fM.rf h) hv hh
  · skip
    refine ab_aload_n dX12_list_7 rfl ?_
    refine ab_iconst (v := -1) dX12_list_8 (by decide) ?_
    refine ab_callVi [_] dX12_list_9 ml_X12_9 mk_X12_refused hM.hs (m_refused (k := 0) (b := 0) (c := 1) hM (by decide) (by omega) (by omega)) (fun v1 hh1 hq => ?_)
    obtain ⟨hv, hh⟩ := hq
    refine ab_reti dX12_list_12 ?_
    exact ab_oX_no (by unfold sp_list; rw [if_neg (fun q => ab_tf q c_4)]) (ab_fM.rf h) hv hh
set_option maxRecDepth 100000 in
set_option maxHeartbeats 4000000 in
theorem m_put {k b : Nat} {h : ab_H} {l : lS} {x z v : Int32} (hk : 2 ≤ k) (hM : at_M (ab_sh h) (ab_r h)) (hL : li_M l h) : ab_M k b mX12_put [.ref 50, .int x, .int z, .int v] h (ab_pi (ab_oX 51 (ab_fM [] [] h) (fun h' => ab_fM [69, 70] [] h h' ∧ li_M (nx_put l x z v) h') (sp_put l x z))) := by
  refine ab_enter ?_
  refine ab_iload_n dX12_put_0 rfl ?_
  refine ab_callSb [_] dX12_put_1 ml_X12_332 mk_X12_isList (m_isList (k := 1) (b := 0) (Nat.le_refl _)) (fun t1 hh0 hq => ?_)
  obtain ⟨hhe, rfl⟩ := hq
  rw [hhe]
  refine ab_bif_ne 13 dX12_put_4 (by decide) (fun c_4 => ?_) (fun c_4 => ?_)
  · skip
    have c_4k := c_4
    obtain ⟨r, rfl, hr2, hr31⟩ := ab_inr_nat (n := 2) c_4
    have hr : r < 3 := by omega
    obtain ⟨q1, q2⟩ := hL r hr
    cases e : l r with
    | none =>
      have hz9 := q1 e
      refine ab_aload_n dX12_put_13 rfl ?_
      refine ab_getR dX12_put_14 fl_X12_85 hM.hs hM.p50_26 ?_
      refine ab_iload_n dX12_put_17 rfl ?_
      refine ab_iald dX12_put_18 hM.s69 rfl (by omega) hz9 ?_
      refine ab_if_ge 25 dX12_put_19 (by decide) (fun c_19 => ?_) (fun c_19 => ?_)
      · skip
        exact absurd c_19 (by decide)
      · skip
        refine ab_bipush (v := -11) dX12_put_22 (by decide) ?_
        refine ab_reti dX12_put_24 ?_
        exact ab_oX_ok (by unfold sp_put; rw [if_pos c_4k, nI_clamp hr31, e]) ⟨ab_fM.rf h, (by unfold nx_put; rw [nI_clamp hr31, e]; exact hL)⟩
    | some v9 =>
      obtain ⟨n, f⟩ := v9
      obtain ⟨hn40, hz9, hf⟩ := q2 n f e
      refine ab_aload_n dX12_put_13 rfl ?_
      refine ab_getR dX12_put_14 fl_X12_85 hM.hs hM.p50_26 ?_
      refine ab_iload_n dX12_put_17 rfl ?_
      refine ab_iald dX12_put_18 hM.s69 rfl (by omega) hz9 ?_
      refine ab_if_ge 25 dX12_put_19 (by decide) (fun c_19 => ?_) (fun c_19 => ?_)
      · skip
        refine ab_iload_n dX12_put_25 rfl ?_
        refine ab_i2l dX12_put_26 ?_
        refine ab_lconst (v := 0) dX12_put_27 (by decide) ?_
        refine ab_aload_n dX12_put_28 rfl ?_
        refine ab_getR dX12_put_29 fl_X12_85 hM.hs hM.p50_26 ?_
        refine ab_iload_n dX12_put_32 rfl ?_
        refine ab_iald dX12_put_33 hM.s69 rfl (by omega) hz9 ?_
        refine ab_iconst (v := nI 1) dX12_put_34 (by decide) ?_
        refine ab_isub dX12_put_35 ?_
        refine ab_i2l dX12_put_36 ?_
        refine ab_callSb [_, _, _] dX12_put_37 ml_X12_123 mk_X12_isIn (m_isIn (k := 0) (b := 0) (Int32.toInt_toInt64 _) (lo := 0) (by decide) (nI_pred6 (by omega))) (fun t2 hh2 hq => ?_)
        obtain ⟨hhe, rfl⟩ := hq
        rw [hhe]
        refine ab_bif_ne 46 dX12_put_40 (by decide) (fun c_40 => ?_) (fun c_40 => ?_)
        · skip
          replace c_40 : ab_inr 0 ((n : Int) - 1) z = true := c_40
          have c_40k := c_40
          obtain ⟨i, rfl, hi, hi31⟩ := bd_inr_n (by omega) c_40
          refine ab_aload_n dX12_put_46 rfl ?_
          refine ab_getR dX12_put_47 fl_X12_88 hM.hs hM.p50_27 ?_
          refine ab_bipush (v := nI 40) dX12_put_50 (by decide) ?_
          refine ab_iload_n dX12_put_52 rfl ?_
          refine ab_nmulR dX12_put_53 ?_
          refine ab_iload_n dX12_put_54 rfl ?_
          refine ab_naddR dX12_put_55 ?_
          refine ab_iload_n dX12_put_56 rfl ?_
          refine ab_iast dX12_put_57 hM.s70 rfl (by omega) ?_
          refine ab_iconst (v := nI 1) dX12_put_58 (by decide) ?_
          refine ab_reti dX12_put_59 ?_
          refine ab_oX_ok (by unfold sp_put; rw [if_pos c_4k, nI_clamp hr31, e]; simp only; rw [if_pos c_40k]; rfl) ⟨(ab_fM.rf h).si _ _ (by simp) (by decide), ?_⟩
          unfold nx_put
          rw [nI_clamp hr31, e]
          simp only
          rw [if_pos c_40k, nI_clamp hi31]
          refine hL.up hr hn40 (fun t => (congrFun (ab_i_off (by decide)) t).trans ?_) (fun j hj => ?_) (fun t ht => ?_)
          · by_cases c : t = r; · rw [if_pos c, c]; exact hz9
            · rw [if_neg c]
          · rw [ab_i_si_same, ab_up_at]; by_cases c : j = i; · rw [if_pos c, if_pos (by omega)]
            · rw [if_neg c, if_neg (by omega)]; exact hf j hj
          · rw [ab_i_si_same, if_neg (by omega)]
        · skip
          refine ab_bipush (v := -13) dX12_put_43 (by decide) ?_
          refine ab_reti dX12_put_45 ?_
          exact ab_oX_ok (by unfold sp_put; rw [if_pos c_4k, nI_clamp hr31, e]; simp only; rw [if_neg (fun q : ab_inr 0 ((n : Int) - 1) z = true => ab_tf q c_40)]) ⟨ab_fM.rf h, (by unfold nx_put; rw [nI_clamp hr31, e]; simp only; rw [if_neg (fun q : ab_inr 0 ((n : Int) - 1) z = true => ab_tf q c_40)]; exact hL)⟩
      · skip
        exact absurd (Int32.not_le.mp c_19) (nI_ge0 (by omega))
  · skip
    refine ab_aload_n dX12_put_7 rfl ?_
    refine ab_iconst (v := -1) dX12_put_8 (by decide) ?_
    refine ab_callVi [_] dX12_put_9 ml_X12_9 mk_X12_refused hM.hs (m_refused (k := 0) (b := 0) (c := 1) hM (by decide) (by omega) (by omega)) (fun v1 hh1 hq => ?_)
    obtain ⟨hv, hh⟩ := hq
    refine ab_reti dX12_put_12 ?_
    exact ab_oX_no (by unfold sp_put; rw [if_neg (fun q => ab_tf q c_4)]) (ab_fM.rf h) hv hh
set_option maxRecDepth 100000 in
set_option maxHeartbeats 4000000 in
theorem m_look {k b : Nat} {h : ab_H} {l : lS} {x z : Int32} (hk : 2 ≤ k) (hM : at_M (ab_sh h) (ab_r h)) (hL : li_M l h) : ab_M k b mX12_look [.ref 50, .int x, .int z] h (ab_pl (ab_lX 51 (ab_fM [] [] h) (ab_fM [] [] h) (sp_look l x z))) := by
  refine ab_enter ?_
  refine ab_iload_n dX12_look_0 rfl ?_
  refine ab_callSb [_] dX12_look_1 ml_X12_332 mk_X12_isList (m_isList (k := 1) (b := 0) (Nat.le_refl _)) (fun t1 hh0 hq => ?_)
  obtain ⟨hhe, rfl⟩ := hq
  rw [hhe]
  refine ab_bif_ne 13 dX12_look_4 (by decide) (fun c_4 => ?_) (fun c_4 => ?_)
  · skip
    have c_4k := c_4
    obtain ⟨r, rfl, hr2, hr31⟩ := ab_inr_nat (n := 2) c_4
    have hr : r < 3 := by omega
    obtain ⟨q1, q2⟩ := hL r hr
    cases e : l r with
    | none =>
      have hz9 := q1 e
      refine ab_aload_n dX12_look_13 rfl ?_
      refine ab_getR dX12_look_14 fl_X12_85 hM.hs hM.p50_26 ?_
      refine ab_iload_n dX12_look_17 rfl ?_
      refine ab_iald dX12_look_18 hM.s69 rfl (by omega) hz9 ?_
      refine ab_if_ge 26 dX12_look_19 (by decide) (fun c_19 => ?_) (fun c_19 => ?_)
      · skip
        exact absurd c_19 (by decide)
      · skip
        refine ab_ldc2 dX12_look_22 kc_X12_335 ?_
        refine ab_retl dX12_look_25 ?_
        exact ab_lX_ok (by unfold sp_look; rw [if_pos c_4k, nI_clamp hr31, e]) (ab_fM.rf h)
    | some v9 =>
      obtain ⟨n, f⟩ := v9
      obtain ⟨hn40, hz9, hf⟩ := q2 n f e
      refine ab_aload_n dX12_look_13 rfl ?_
      refine ab_getR dX12_look_14 fl_X12_85 hM.hs hM.p50_26 ?_
      refine ab_iload_n dX12_look_17 rfl ?_
      refine ab_iald dX12_look_18 hM.s69 rfl (by omega) hz9 ?_
      refine ab_if_ge 26 dX12_look_19 (by decide) (fun c_19 => ?_) (fun c_19 => ?_)
      · skip
        refine ab_iload_n dX12_look_26 rfl ?_
        refine ab_i2l dX12_look_27 ?_
        refine ab_lconst (v := 0) dX12_look_28 (by decide) ?_
        refine ab_aload_n dX12_look_29 rfl ?_
        refine ab_getR dX12_look_30 fl_X12_85 hM.hs hM.p50_26 ?_
        refine ab_iload_n dX12_look_33 rfl ?_
        refine ab_iald dX12_look_34 hM.s69 rfl (by omega) hz9 ?_
        refine ab_iconst (v := nI 1) dX12_look_35 (by decide) ?_
        refine ab_isub dX12_look_36 ?_
        refine ab_i2l dX12_look_37 ?_
        refine ab_callSb [_, _, _] dX12_look_38 ml_X12_123 mk_X12_isIn (m_isIn (k := 0) (b := 0) (Int32.toInt_toInt64 _) (lo := 0) (by decide) (nI_pred6 (by omega))) (fun t2 hh2 hq => ?_)
        obtain ⟨hhe, rfl⟩ := hq
        rw [hhe]
        refine ab_bif_eq 59 dX12_look_41 (by decide) (fun c_41 => ?_) (fun c_41 => ?_)
        · skip
          refine ab_ldc2 dX12_look_59 kc_X12_337 ?_
          refine ab_retl dX12_look_62 ?_
          first | exact ab_lX_ok (by unfold sp_look; rw [if_pos c_4k, nI_clamp hr31, e]; simp only; rw [if_pos c_41k, nI_clamp hi31]) (ab_fM.rf h) | exact ab_lX_ok (by unfold sp_look; rw [if_pos c_4k, nI_clamp hr31, e]; simp only; rw [if_neg (fun q : ab_inr 0 ((n : Int) - 1) z = true => ab_tf q c_41)]) (ab_fM.rf h)
        · skip
          replace c_41 : ab_inr 0 ((n : Int) - 1) z = true := c_41
          have c_41k := c_41
          obtain ⟨i, rfl, hi, hi31⟩ := bd_inr_n (by omega) c_41
          refine ab_aload_n dX12_look_44 rfl ?_
          refine ab_getR dX12_look_45 fl_X12_88 hM.hs hM.p50_27 ?_
          refine ab_bipush (v := nI 40) dX12_look_48 (by decide) ?_
          refine ab_iload_n dX12_look_50 rfl ?_
          refine ab_nmulR dX12_look_51 ?_
          refine ab_iload_n dX12_look_52 rfl ?_
          refine ab_naddR dX12_look_53 ?_
          refine ab_iald dX12_look_54 hM.s70 rfl (by omega) (hf i (by omega)) ?_
          refine ab_i2l dX12_look_55 ?_
          refine ab_goto 62 dX12_look_56 (by decide) ?_
          refine ab_retl dX12_look_62 ?_
          first | exact ab_lX_ok (by unfold sp_look; rw [if_pos c_4k, nI_clamp hr31, e]; simp only; rw [if_pos c_41k, nI_clamp hi31]) (ab_fM.rf h) | exact ab_lX_ok (by unfold sp_look; rw [if_pos c_4k, nI_clamp hr31, e]; simp only; rw [if_neg (fun q : ab_inr 0 ((n : Int) - 1) z = true => ab_tf q c_41)]) (ab_fM.rf h)
      · skip
        exact absurd (Int32.not_le.mp c_19) (nI_ge0 (by omega))
  · skip
    refine ab_aload_n dX12_look_7 rfl ?_
    refine ab_iconst (v := -1) dX12_look_8 (by decide) ?_
    refine ab_callVl [_] dX12_look_9 ml_X12_178 mk_X12_refusedFar hM.hs (m_refusedFar (k := 1) (b := 0) (c := 1) (Nat.le_refl _) hM (by decide) (by omega) (by omega)) (fun v1 hh1 hq => ?_)
    obtain ⟨hv, hh⟩ := hq
    refine ab_retl dX12_look_12 ?_
    exact ab_lX_no (by unfold sp_look; rw [if_neg (fun q => ab_tf q c_4)]) (ab_fM.rf h) hv hh
set_option maxRecDepth 100000 in
set_option maxHeartbeats 4000000 in
theorem lp_mJudge {k b n0 hx hy r m : Nat} {h : ab_H} {f : Nat → Int32} (hk : 1 ≤ k) (hM : at_M (ab_sh h) (ab_r h)) (hD : bd_Mo n0 hx hy h) (hr : r < 3) (hm : m ≤ 40) (hz9 : ab_i h 69 r = nI m) (hf : ∀ j, j < 40 → ab_i h 70 (40 * r + j) = f j) : ∀ (j i : Nat), i + j = m → jg n0 hx hy f m 0 = jg n0 hx hy f j i → ab_R k b mX12_judge 27 [some (.ref 50), some (.int (nI r)), some (.int (nI i))] [] h (ab_pi (fun v h' => h' = h ∧ v = jg n0 hx hy f m 0)) := by
  intro j
  induction j with
  | zero =>
    intro i hi hv
    have hb85 := bd_n_le n0 hD.n4
    obtain rfl : i = m := by omega
    refine ab_iload_n dX12_judge_27 rfl ?_
    refine ab_aload_n dX12_judge_28 rfl ?_
    refine ab_getR dX12_judge_29 fl_X12_85 hM.hs hM.p50_26 ?_
    refine ab_iload_n dX12_judge_32 rfl ?_
    refine ab_iald dX12_judge_33 hM.s69 rfl (by omega) hz9 ?_
    refine ab_nicmp_ge 73 dX12_judge_34 (by decide) (by omega) (by omega) (fun c_34 => ?_) (fun c_34 => ?_)
    · skip
      refine ab_bipush (v := -9) dX12_judge_73 (by decide) ?_
      refine ab_reti dX12_judge_75 ?_
      exact ⟨rfl, hv.symm⟩
    · skip
      exact absurd (Nat.le_refl _) c_34
  | succ j ih =>
    intro i hi hv
    have hb85 := bd_n_le n0 hD.n4
    refine ab_iload_n dX12_judge_27 rfl ?_
    refine ab_aload_n dX12_judge_28 rfl ?_
    refine ab_getR dX12_judge_29 fl_X12_85 hM.hs hM.p50_26 ?_
    refine ab_iload_n dX12_judge_32 rfl ?_
    refine ab_iald dX12_judge_33 hM.s69 rfl (by omega) hz9 ?_
    refine ab_nicmp_ge 73 dX12_judge_34 (by decide) (by omega) (by omega) (fun c_34 => ?_) (fun c_34 => ?_)
    · skip
      exact absurd c_34 (by omega)
    · skip
      refine ab_iload_n dX12_judge_37 rfl ?_
      refine ab_aload_n dX12_judge_38 rfl ?_
      refine ab_getI dX12_judge_39 fl_X12_133 hM.hs hD.f4 ?_
      refine ab_nicmp_ge 65 dX12_judge_42 (by decide) (by omega) (by omega) (fun c_42 => ?_) (fun c_42 => ?_)
      · skip
        refine ab_iload_n dX12_judge_65 rfl ?_
        refine ab_reti dX12_judge_66 ?_
        first | exact ⟨rfl, (hv.trans (jg_yes (Or.inl (by omega)))).symm⟩ | exact ⟨rfl, (hv.trans (jg_yes (Or.inr c_62))).symm⟩
      · skip
        have hi2 : i < bd_n n0 := by omega
        have hPw := (bd_P_in (hx := hx) (hy := hy) hi2).1
        refine ab_aload_n dX12_judge_45 rfl ?_
        refine ab_getR dX12_judge_46 fl_X12_88 hM.hs hM.p50_27 ?_
        refine ab_bipush (v := nI 40) dX12_judge_49 (by decide) ?_
        refine ab_iload_n dX12_judge_51 rfl ?_
        refine ab_nmulR dX12_judge_52 ?_
        refine ab_iload_n dX12_judge_53 rfl ?_
        refine ab_naddR dX12_judge_54 ?_
        refine ab_iald dX12_judge_55 hM.s70 rfl (by omega) (hf i (by omega)) ?_
        refine ab_aload_n dX12_judge_56 rfl ?_
        refine ab_getR dX12_judge_57 fl_X12_36 hM.hs hM.p50_6 ?_
        refine ab_iload_n dX12_judge_60 rfl ?_
        refine ab_iald dX12_judge_61 hM.s53 rfl (by omega) (hD.way hi2) ?_
        refine ab_icmp_eq 67 dX12_judge_62 (by decide) (fun c_62 => ?_) (fun c_62 => ?_)
        · skip
          refine ab_nincR (ls' := [_, _, _]) dX12_judge_67 rfl rfl ?_
          refine ab_goto 27 dX12_judge_70 (by decide) ?_
          exact ih (i + 1) (by omega) (hv.trans (jg_no hi2 c_62))
        · skip
          refine ab_iload_n dX12_judge_65 rfl ?_
          refine ab_reti dX12_judge_66 ?_
          first | exact ⟨rfl, (hv.trans (jg_yes (Or.inl (by omega)))).symm⟩ | exact ⟨rfl, (hv.trans (jg_yes (Or.inr c_62))).symm⟩
set_option maxRecDepth 100000 in
set_option maxHeartbeats 4000000 in
theorem m_judge {k b n0 hx hy : Nat} {h : ab_H} {l : lS} {x : Int32} (hk : 2 ≤ k) (hM : at_M (ab_sh h) (ab_r h)) (hD : bd_Mo n0 hx hy h) (hL : li_M l h) : ab_M k b mX12_judge [.ref 50, .int x] h (ab_pi (ab_oX 51 (ab_fM [] [] h) (ab_fM [] [] h) (sp_judge n0 hx hy l x))) := by
  refine ab_enter ?_
  refine ab_iload_n dX12_judge_0 rfl ?_
  refine ab_callSb [_] dX12_judge_1 ml_X12_332 mk_X12_isList (m_isList (k := 1) (b := 0) (Nat.le_refl _)) (fun t1 hh0 hq => ?_)
  obtain ⟨hhe, rfl⟩ := hq
  rw [hhe]
  refine ab_bif_ne 13 dX12_judge_4 (by decide) (fun c_4 => ?_) (fun c_4 => ?_)
  · skip
    have c_4k := c_4
    obtain ⟨r, rfl, hr2, hr31⟩ := ab_inr_nat (n := 2) c_4
    have hr : r < 3 := by omega
    obtain ⟨q1, q2⟩ := hL r hr
    cases e : l r with
    | none =>
      have hz9 := q1 e
      refine ab_aload_n dX12_judge_13 rfl ?_
      refine ab_getR dX12_judge_14 fl_X12_85 hM.hs hM.p50_26 ?_
      refine ab_iload_n dX12_judge_17 rfl ?_
      refine ab_iald dX12_judge_18 hM.s69 rfl (by omega) hz9 ?_
      refine ab_if_ge 25 dX12_judge_19 (by decide) (fun c_19 => ?_) (fun c_19 => ?_)
      · skip
        exact absurd c_19 (by decide)
      · skip
        refine ab_bipush (v := -11) dX12_judge_22 (by decide) ?_
        refine ab_reti dX12_judge_24 ?_
        exact ab_oX_ok (by unfold sp_judge; rw [if_pos c_4k, nI_clamp hr31, e]) (ab_fM.rf h)
    | some v9 =>
      obtain ⟨n, f⟩ := v9
      obtain ⟨hn40, hz9, hf⟩ := q2 n f e
      refine ab_aload_n dX12_judge_13 rfl ?_
      refine ab_getR dX12_judge_14 fl_X12_85 hM.hs hM.p50_26 ?_
      refine ab_iload_n dX12_judge_17 rfl ?_
      refine ab_iald dX12_judge_18 hM.s69 rfl (by omega) hz9 ?_
      refine ab_if_ge 25 dX12_judge_19 (by decide) (fun c_19 => ?_) (fun c_19 => ?_)
      · skip
        refine ab_iconst (v := nI 0) dX12_judge_25 (by decide) ?_
        refine ab_sti_n (ls' := [_, _, _]) dX12_judge_26 (by decide) rfl ?_
        refine ab_mono ?_ (lp_mJudge (by omega) hM hD hr hn40 hz9 hf n 0 (by omega) rfl)
        rintro v h9 ⟨x9, hx9, e9, e10⟩
        exact ⟨x9, hx9, ab_oX_ok (by unfold sp_judge; rw [if_pos c_4k, nI_clamp hr31, e, e10]) (by rw [e9]; exact ab_fM.rf h)⟩
      · skip
        exact absurd (Int32.not_le.mp c_19) (nI_ge0 (by omega))
  · skip
    refine ab_aload_n dX12_judge_7 rfl ?_
    refine ab_iconst (v := -1) dX12_judge_8 (by decide) ?_
    refine ab_callVi [_] dX12_judge_9 ml_X12_9 mk_X12_refused hM.hs (m_refused (k := 0) (b := 0) (c := 1) hM (by decide) (by omega) (by omega)) (fun v1 hh1 hq => ?_)
    obtain ⟨hv, hh⟩ := hq
    refine ab_reti dX12_judge_12 ?_
    exact ab_oX_no (by unfold sp_judge; rw [if_neg (fun q => ab_tf q c_4)]) (ab_fM.rf h) hv hh
