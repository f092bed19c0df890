/-! ===== the model: a text ===== -/
theorem nI_neg {w : Nat} (hw : w < 1000) (z : Int32) (hz : z.toInt = -1000 ∨ z.toInt = -2000) : ¬ (0 : Int32) ≤ z - nI w := fun q => by
  have q := ab_ge0.mp q
  rw [Int32.toInt_sub, nI_toInt (by omega), Int.bmod_def] at q
  omega
set_option maxRecDepth 100000 in
set_option maxHeartbeats 4000000 in
theorem lp_mt {k b : Nat} {h : ab_H} {e : eS} {o3 : Option Value} {post : Value → ab_H → Prop} (hk : 2 ≤ k) (hM : at_M (ab_sh h) (ab_r h)) (hE : le_M e h) : ∀ (j t p : Nat) (h1 : ab_H), t + j = 11 → 6 * t ≤ p → p ≤ e.1 → ab_fM [72] [30] h h1 → ab_i h1 50 30 = nI p → tx_rd e 12 0 = (t + (tx_rd e (j + 1) p).1, (tx_rd e (j + 1) p).2) → (∀ (h2 : ab_H) (w K : Nat), ab_fM [72] [30] h h2 → (tx_rd e 12 0).2 = some w → ab_i h2 50 30 = nI w → ab_R k b mX12_text 56 [some (.ref 50), some (.int (nI K)), some (.int (nI 0)), o3] [] h2 post) → (∀ (h2 : ab_H), ab_fM [72] [30] h h2 → (tx_rd e 12 0).2 = none → ab_R k b mX12_text 56 [some (.ref 50), some (.int (nI (tx_rd e 12 0).1)), some (.int (nI 1)), o3] [] h2 post) → ab_R k b mX12_text 28 [some (.ref 50), some (.int (nI t)), some (.int (nI 1)), o3] [] h1 post := by
  intro j
  induction j with
  | zero =>
    intro t p h1 ht hp hpm f hp9 hrd cW cN
    have hM1 := at_M.fM f hM
    have hE1 := hE.fM f (by simp) (by simp)
    have h72 := hE.1
    cases hw : tx_wr e p with
    | some w =>
      refine ab_aload_n dX12_text_28 rfl ?_
      refine ab_callVn [] dX12_text_29 ml_X12_358 mk_X12_statement hM1.hs (m_statement (k := 1) (b := 0) (Nat.le_refl _) hM1 hE1 hp9 hpm) (fun v h2 hq => ?_)
      obtain ⟨f2, q1, q2⟩ := hq
      obtain ⟨rfl, hat⟩ := q1 w hw
      have hM2 := at_M.fM f2 hM1
      have hE2 := hE1.fM f2 (by simp) (by simp)
      refine ab_nif_eq 39 dX12_text_32 (by decide) (by decide) (fun c_32 => ?_) (fun c_32 => ?_)
      · skip
        refine ab_iconst (v := nI 0) dX12_text_39 (by decide) ?_
        refine ab_sti_n (ls' := [_, _, _, _]) dX12_text_40 (by decide) rfl ?_
        refine ab_iload_n dX12_text_41 rfl ?_
        refine ab_iload_n dX12_text_42 rfl ?_
        refine ab_nif_eq 50 dX12_text_43 (by decide) (by decide) (fun c_43 => ?_) (fun c_43 => ?_)
        · skip
          refine ab_iconst (v := nI 0) dX12_text_50 (by decide) ?_
          refine ab_naddR dX12_text_51 ?_
          refine ab_sti_n (ls' := [_, _, _, _]) dX12_text_52 (by decide) rfl ?_
          refine ab_goto 9 dX12_text_53 (by decide) ?_
          refine ab_iload_n dX12_text_9 rfl ?_
          refine ab_nif_eq 56 dX12_text_10 (by decide) (by decide) (fun c_10 => ?_) (fun c_10 => ?_)
          · skip
            rw [tx_rd_some hw] at hrd
            exact cW h2 w (t + 0) (f.trans f2 (by simp) (by simp)) (by rw [hrd]) hat
          · skip
            exact absurd rfl c_10
        · skip
          exact absurd rfl c_43
      · skip
        exact absurd rfl c_32
    | none =>
      obtain ⟨w0, -, w1, w2⟩ := tx_wr_none hw
      have hne : ¬ eL e p = 0 := fun q => w0 (by rw [q]; decide)
      refine ab_aload_n dX12_text_28 rfl ?_
      refine ab_callVn [] dX12_text_29 ml_X12_358 mk_X12_statement hM1.hs (m_statement (k := 1) (b := 0) (Nat.le_refl _) hM1 hE1 hp9 hpm) (fun v h2 hq => ?_)
      obtain ⟨f2, q1, q2⟩ := hq
      obtain ⟨rfl, hat, -⟩ := q2 hw
      have hM2 := at_M.fM f2 hM1
      have hE2 := hE1.fM f2 (by simp) (by simp)
      refine ab_nif_eq 39 dX12_text_32 (by decide) (by have := eL_lt hE.2.1 p; omega) (fun c_32 => ?_) (fun c_32 => ?_)
      · skip
        exact absurd c_32 hne
      · skip
        refine ab_iconst (v := nI 1) dX12_text_35 (by decide) ?_
        refine ab_goto 40 dX12_text_36 (by decide) ?_
        refine ab_sti_n (ls' := [_, _, _, _]) dX12_text_40 (by decide) rfl ?_
        refine ab_iload_n dX12_text_41 rfl ?_
        refine ab_iload_n dX12_text_42 rfl ?_
        refine ab_nif_eq 50 dX12_text_43 (by decide) (by decide) (fun c_43 => ?_) (fun c_43 => ?_)
        · skip
          exact absurd c_43 (by decide)
        · skip
          refine ab_iconst (v := nI 1) dX12_text_46 (by decide) ?_
          refine ab_goto 51 dX12_text_47 (by decide) ?_
          refine ab_naddR dX12_text_51 ?_
          refine ab_sti_n (ls' := [_, _, _, _]) dX12_text_52 (by decide) rfl ?_
          refine ab_goto 9 dX12_text_53 (by decide) ?_
          refine ab_iload_n dX12_text_9 rfl ?_
          refine ab_nif_eq 56 dX12_text_10 (by decide) (by decide) (fun c_10 => ?_) (fun c_10 => ?_)
          · skip
            exact absurd c_10 (by decide)
          · skip
            refine ab_aload_n dX12_text_13 rfl ?_
            refine ab_getI dX12_text_14 fl_X12_342 hM2.hs hat ?_
            refine ab_aload_n dX12_text_17 rfl ?_
            refine ab_getI dX12_text_18 fl_X12_339 hM2.hs hE2.2.2.1 ?_
            refine ab_nicmp_lt 28 dX12_text_21 (by decide) (by omega) (by omega) (fun c_21 => ?_) (fun c_21 => ?_)
            · skip
              exact absurd c_21 (by omega)
            · skip
              refine ab_iload_n dX12_text_24 rfl ?_
              refine ab_nif_ne 56 dX12_text_25 (by decide) (by omega) (fun c_25 => ?_) (fun c_25 => ?_)
              · skip
                rw [tx_rd_end hw (by omega)] at hrd
                have hK : (tx_rd e 12 0).1 = t + 1 := by rw [hrd]
                have q9 := cN h2 (f.trans f2 (by simp) (by simp)) (by rw [hrd])
                rw [hK] at q9
                exact q9
              · skip
                exact absurd c_25 (by omega)
  | succ j ih =>
    intro t p h1 ht hp hpm f hp9 hrd cW cN
    have hM1 := at_M.fM f hM
    have hE1 := hE.fM f (by simp) (by simp)
    have h72 := hE.1
    cases hw : tx_wr e p with
    | some w =>
      refine ab_aload_n dX12_text_28 rfl ?_
      refine ab_callVn [] dX12_text_29 ml_X12_358 mk_X12_statement hM1.hs (m_statement (k := 1) (b := 0) (Nat.le_refl _) hM1 hE1 hp9 hpm) (fun v h2 hq => ?_)
      obtain ⟨f2, q1, q2⟩ := hq
      obtain ⟨rfl, hat⟩ := q1 w hw
      have hM2 := at_M.fM f2 hM1
      have hE2 := hE1.fM f2 (by simp) (by simp)
      refine ab_nif_eq 39 dX12_text_32 (by decide) (by decide) (fun c_32 => ?_) (fun c_32 => ?_)
      · skip
        refine ab_iconst (v := nI 0) dX12_text_39 (by decide) ?_
        refine ab_sti_n (ls' := [_, _, _, _]) dX12_text_40 (by decide) rfl ?_
        refine ab_iload_n dX12_text_41 rfl ?_
        refine ab_iload_n dX12_text_42 rfl ?_
        refine ab_nif_eq 50 dX12_text_43 (by decide) (by decide) (fun c_43 => ?_) (fun c_43 => ?_)
        · skip
          refine ab_iconst (v := nI 0) dX12_text_50 (by decide) ?_
          refine ab_naddR dX12_text_51 ?_
          refine ab_sti_n (ls' := [_, _, _, _]) dX12_text_52 (by decide) rfl ?_
          refine ab_goto 9 dX12_text_53 (by decide) ?_
          refine ab_iload_n dX12_text_9 rfl ?_
          refine ab_nif_eq 56 dX12_text_10 (by decide) (by decide) (fun c_10 => ?_) (fun c_10 => ?_)
          · skip
            rw [tx_rd_some hw] at hrd
            exact cW h2 w (t + 0) (f.trans f2 (by simp) (by simp)) (by rw [hrd]) hat
          · skip
            exact absurd rfl c_10
        · skip
          exact absurd rfl c_43
      · skip
        exact absurd rfl c_32
    | none =>
      obtain ⟨w0, -, w1, w2⟩ := tx_wr_none hw
      have hne : ¬ eL e p = 0 := fun q => w0 (by rw [q]; decide)
      refine ab_aload_n dX12_text_28 rfl ?_
      refine ab_callVn [] dX12_text_29 ml_X12_358 mk_X12_statement hM1.hs (m_statement (k := 1) (b := 0) (Nat.le_refl _) hM1 hE1 hp9 hpm) (fun v h2 hq => ?_)
      obtain ⟨f2, q1, q2⟩ := hq
      obtain ⟨rfl, hat, -⟩ := q2 hw
      have hM2 := at_M.fM f2 hM1
      have hE2 := hE1.fM f2 (by simp) (by simp)
      refine ab_nif_eq 39 dX12_text_32 (by decide) (by have := eL_lt hE.2.1 p; omega) (fun c_32 => ?_) (fun c_32 => ?_)
      · skip
        exact absurd c_32 hne
      · skip
        refine ab_iconst (v := nI 1) dX12_text_35 (by decide) ?_
        refine ab_goto 40 dX12_text_36 (by decide) ?_
        refine ab_sti_n (ls' := [_, _, _, _]) dX12_text_40 (by decide) rfl ?_
        refine ab_iload_n dX12_text_41 rfl ?_
        refine ab_iload_n dX12_text_42 rfl ?_
        refine ab_nif_eq 50 dX12_text_43 (by decide) (by decide) (fun c_43 => ?_) (fun c_43 => ?_)
        · skip
          exact absurd c_43 (by decide)
        · skip
          refine ab_iconst (v := nI 1) dX12_text_46 (by decide) ?_
          refine ab_goto 51 dX12_text_47 (by decide) ?_
          refine ab_naddR dX12_text_51 ?_
          refine ab_sti_n (ls' := [_, _, _, _]) dX12_text_52 (by decide) rfl ?_
          refine ab_goto 9 dX12_text_53 (by decide) ?_
          refine ab_iload_n dX12_text_9 rfl ?_
          refine ab_nif_eq 56 dX12_text_10 (by decide) (by decide) (fun c_10 => ?_) (fun c_10 => ?_)
          · skip
            exact absurd c_10 (by decide)
          · skip
            refine ab_aload_n dX12_text_13 rfl ?_
            refine ab_getI dX12_text_14 fl_X12_342 hM2.hs hat ?_
            refine ab_aload_n dX12_text_17 rfl ?_
            refine ab_getI dX12_text_18 fl_X12_339 hM2.hs hE2.2.2.1 ?_
            refine ab_nicmp_lt 28 dX12_text_21 (by decide) (by omega) (by omega) (fun c_21 => ?_) (fun c_21 => ?_)
            · skip
              rw [tx_rd_go hw c_21] at hrd
              exact ih (t + 1) (tx_nx e p) h2 (by omega) (by omega) w1 (f.trans f2 (by simp) (by simp)) hat (by rw [hrd]; show (_, _) = (_, _); congr 1; omega) cW cN
            · skip
              refine ab_iload_n dX12_text_24 rfl ?_
              refine ab_nif_ne 56 dX12_text_25 (by decide) (by omega) (fun c_25 => ?_) (fun c_25 => ?_)
              · skip
                rw [tx_rd_end hw (by omega)] at hrd
                have hK : (tx_rd e 12 0).1 = t + 1 := by rw [hrd]
                have q9 := cN h2 (f.trans f2 (by simp) (by simp)) (by rw [hrd])
                rw [hK] at q9
                exact q9
              · skip
                exact absurd c_25 (by omega)
set_option maxRecDepth 100000 in
set_option maxHeartbeats 4000000 in
theorem m_text {k b : Nat} {h : ab_H} {e : eS} {X : xS} (hk : 8 ≤ k) (hM : at_M (ab_sh h) (ab_r h)) (hE : le_M e h) (hG : gp_M X h) : ab_M k b mX12_text [.ref 50] h (ab_pi (fun v h' => v = (sp_text e X).2 ∧ ab_fM [52, 53, 54, 55, 56, 57, 62, 63, 64, 72, 73] [1, 2, 3, 4, 15, 17, 29, 30] h h' ∧ gp_M (sp_text e X).1 h' ∧ le_M (0, e.2) h')) := by
  have h72 := hE.1
  refine ab_enter ?_
  refine ab_aload_n dX12_text_0 rfl ?_
  refine ab_iconst (v := nI 0) dX12_text_1 (by decide) ?_
  refine ab_putI dX12_text_2 fl_X12_342 hM.hs ?_
  refine ab_iconst (v := nI 0) dX12_text_5 (by decide) ?_
  refine ab_sti_n (ls' := [_, _, _, _]) dX12_text_6 (by decide) rfl ?_
  refine ab_iconst (v := nI 1) dX12_text_7 (by decide) ?_
  refine ab_sti_n (ls' := [_, _, _, _]) dX12_text_8 (by decide) rfl ?_
  refine ab_iload_n dX12_text_9 rfl ?_
  refine ab_nif_eq 56 dX12_text_10 (by decide) (by decide) (fun c_10 => ?_) (fun c_10 => ?_)
  · skip
    exact absurd c_10 (by decide)
  · skip
    refine ab_aload_n dX12_text_13 rfl ?_
    refine ab_getI dX12_text_14 fl_X12_342 hM.hs (show _ = nI 0 by rw [ab_i_at, ab_up_self]) ?_
    refine ab_aload_n dX12_text_17 rfl ?_
    refine ab_getI dX12_text_18 fl_X12_339 hM.hs (show _ = nI e.1 by rw [ab_i_at, ab_up_ne _ _ (by decide)]; exact hE.2.2.1) ?_
    refine ab_nicmp_lt 28 dX12_text_21 (by decide) (by decide) (by omega) (fun c_21 => ?_) (fun c_21 => ?_)
    · skip
      refine lp_mt (by omega) hM hE 11 0 0 _ rfl (Nat.zero_le _) (Nat.zero_le _) ((ab_fM.rf h).s50 _ (by simp)) (by rw [ab_i_at, ab_up_self]) (by rw [Nat.zero_add]) (fun h2 w K9 f2 hw hat => ?_) (fun h2 f2 hw => ?_)
      · have hM2 := at_M.fM f2 hM
        rw [sp_text_w hw]
        refine ab_iload_n dX12_text_56 rfl ?_
        refine ab_nif_eq 64 dX12_text_57 (by decide) (by decide) (fun c_57 => ?_) (fun c_57 => ?_)
        · skip
          refine ab_sipush (v := -1000) dX12_text_64 (by decide) ?_
          refine ab_aload_n dX12_text_67 rfl ?_
          refine ab_getI dX12_text_68 fl_X12_342 hM2.hs hat ?_
          refine ab_isub dX12_text_71 ?_
          refine ab_sti_n (ls' := [_, _, _, _]) dX12_text_72 (by decide) rfl ?_
          refine ab_iload_n dX12_text_73 rfl ?_
          refine ab_nif_eq 83 dX12_text_74 (by decide) (by decide) (fun c_74 => ?_) (fun c_74 => ?_)
          · skip
            refine ab_aload_n dX12_text_83 rfl ?_
            refine ab_iconst (v := nI 0) dX12_text_84 (by decide) ?_
            refine ab_putI dX12_text_85 fl_X12_339 hM2.hs ?_
            refine ab_iload_n dX12_text_88 rfl ?_
            refine ab_if_ge 96 dX12_text_89 (by decide) (fun c_89 => ?_) (fun c_89 => ?_)
            · skip
              exact absurd c_89 (nI_neg (by have := tx_rd_w 12 0 w hw; omega) _ (Or.inl (by decide)))
            · skip
              refine ab_iload_n dX12_text_92 rfl ?_
              refine ab_goto 97 dX12_text_93 (by decide) ?_
              refine ab_reti dX12_text_97 ?_
              exact ⟨rfl, (f2.mono (by simp) (by simp)).s50 _ (by simp), hG.fM ((f2.mono (S := [72]) (K := [29, 30]) (by simp) (by simp)).s50 _ (by simp)) (by intro a q; simp at q; omega) (by intro a q; simp at q; omega), ⟨Nat.zero_le _, fun j hj => absurd hj (Nat.not_lt_zero j), by rw [ab_i_at, ab_up_self], fun j hj => absurd hj (Nat.not_lt_zero j)⟩⟩
          · skip
            exact absurd rfl c_74
        · skip
          exact absurd rfl c_57
      · obtain ⟨k1, k2⟩ := tx_rd_ok (e := e) 12 0
        have hM2 := at_M.fM f2 hM
        have hE2 := hE.fM f2 (by simp) (by simp)
        have hG2 := hG.fM f2 (by intro a q; simp at q; omega) (by intro a q; simp at q; omega)
        cases hg : (tx_go e (tx_rd e 12 0).1 0 X).2 with
        | some p =>
          have hp9 := tx_go_b hg
          rw [sp_text_p hw hg]
          refine ab_iload_n dX12_text_56 rfl ?_
          refine ab_nif_eq 64 dX12_text_57 (by decide) (by decide) (fun c_57 => ?_) (fun c_57 => ?_)
          · skip
            exact absurd c_57 (by decide)
          · skip
            refine ab_iconst (v := nI 0) dX12_text_60 (by decide) ?_
            refine ab_goto 72 dX12_text_61 (by decide) ?_
            refine ab_sti_n (ls' := [_, _, _, _]) dX12_text_72 (by decide) rfl ?_
            refine ab_iload_n dX12_text_73 rfl ?_
            refine ab_nif_eq 83 dX12_text_74 (by decide) (by decide) (fun c_74 => ?_) (fun c_74 => ?_)
            · skip
              exact absurd c_74 (by decide)
            · skip
              refine ab_aload_n dX12_text_77 rfl ?_
              refine ab_iload_n dX12_text_78 rfl ?_
              refine ab_callVi [_] dX12_text_79 ml_X12_361 mk_X12_done hM2.hs (m_done (k := 7) (b := 0) (Nat.le_refl _) hM2 hE2 k1 k2 hG2) (fun x h3 hq => ?_)
              obtain ⟨hx, f3, g1, g2⟩ := hq
              have hM3 := at_M.fM f3 hM2
              rw [hg] at hx
              have hx : x = -2000 - nI p := hx
              rw [hx]
              refine ab_sti_n (ls' := [_, _, _, _]) dX12_text_82 (by decide) rfl ?_
              refine ab_aload_n dX12_text_83 rfl ?_
              refine ab_iconst (v := nI 0) dX12_text_84 (by decide) ?_
              refine ab_putI dX12_text_85 fl_X12_339 hM3.hs ?_
              refine ab_iload_n dX12_text_88 rfl ?_
              refine ab_if_ge 96 dX12_text_89 (by decide) (fun c_89 => ?_) (fun c_89 => ?_)
              · skip
                exact absurd c_89 (nI_neg hp9 _ (Or.inr (by decide)))
              · skip
                refine ab_iload_n dX12_text_92 rfl ?_
                refine ab_goto 97 dX12_text_93 (by decide) ?_
                refine ab_reti dX12_text_97 ?_
                exact ⟨rfl, ((f2.mono (by simp) (by simp)).trans f3 (by simp) (by simp)).s50 _ (by simp), gp_M.fM ((ab_fM.rf (S := []) (K := [29]) h3).s50 _ (by simp)) (by intro a q; cases q) (by intro a q; simp at q; omega) (g2 (by rw [hg]; simp)), ⟨Nat.zero_le _, fun j hj => absurd hj (Nat.not_lt_zero j), by rw [ab_i_at, ab_up_self], fun j hj => absurd hj (Nat.not_lt_zero j)⟩⟩
        | none =>
          rw [sp_text_ok hw hg]
          refine ab_iload_n dX12_text_56 rfl ?_
          refine ab_nif_eq 64 dX12_text_57 (by decide) (by decide) (fun c_57 => ?_) (fun c_57 => ?_)
          · skip
            exact absurd c_57 (by decide)
          · skip
            refine ab_iconst (v := nI 0) dX12_text_60 (by decide) ?_
            refine ab_goto 72 dX12_text_61 (by decide) ?_
            refine ab_sti_n (ls' := [_, _, _, _]) dX12_text_72 (by decide) rfl ?_
            refine ab_iload_n dX12_text_73 rfl ?_
            refine ab_nif_eq 83 dX12_text_74 (by decide) (by decide) (fun c_74 => ?_) (fun c_74 => ?_)
            · skip
              exact absurd c_74 (by decide)
            · skip
              refine ab_aload_n dX12_text_77 rfl ?_
              refine ab_iload_n dX12_text_78 rfl ?_
              refine ab_callVi [_] dX12_text_79 ml_X12_361 mk_X12_done hM2.hs (m_done (k := 7) (b := 0) (Nat.le_refl _) hM2 hE2 k1 k2 hG2) (fun x h3 hq => ?_)
              obtain ⟨hx, f3, g1, g2⟩ := hq
              have hM3 := at_M.fM f3 hM2
              rw [hg] at hx
              have hx : x = nI 0 := hx
              rw [hx]
              refine ab_sti_n (ls' := [_, _, _, _]) dX12_text_82 (by decide) rfl ?_
              refine ab_aload_n dX12_text_83 rfl ?_
              refine ab_iconst (v := nI 0) dX12_text_84 (by decide) ?_
              refine ab_putI dX12_text_85 fl_X12_339 hM3.hs ?_
              refine ab_iload_n dX12_text_88 rfl ?_
              refine ab_if_ge 96 dX12_text_89 (by decide) (fun c_89 => ?_) (fun c_89 => ?_)
              · skip
                refine ab_iload_n dX12_text_96 rfl ?_
                refine ab_reti dX12_text_97 ?_
                exact ⟨rfl, ((f2.mono (by simp) (by simp)).trans f3 (by simp) (by simp)).s50 _ (by simp), gp_M.fM ((ab_fM.rf (S := []) (K := [29]) h3).s50 _ (by simp)) (by intro a q; cases q) (by intro a q; simp at q; omega) (g1 hg), ⟨Nat.zero_le _, fun j hj => absurd hj (Nat.not_lt_zero j), by rw [ab_i_at, ab_up_self], fun j hj => absurd hj (Nat.not_lt_zero j)⟩⟩
              · skip
                exact absurd (by decide) c_89
    · skip
      refine ab_iload_n dX12_text_24 rfl ?_
      refine ab_nif_ne 56 dX12_text_25 (by decide) (by decide) (fun c_25 => ?_) (fun c_25 => ?_)
      · skip
        exact absurd rfl c_25
      · skip
        refine lp_mt (by omega) hM hE 11 0 0 _ rfl (Nat.zero_le _) (Nat.zero_le _) ((ab_fM.rf h).s50 _ (by simp)) (by rw [ab_i_at, ab_up_self]) (by rw [Nat.zero_add]) (fun h2 w K9 f2 hw hat => ?_) (fun h2 f2 hw => ?_)
        · have hM2 := at_M.fM f2 hM
          rw [sp_text_w hw]
          refine ab_iload_n dX12_text_56 rfl ?_
          refine ab_nif_eq 64 dX12_text_57 (by decide) (by decide) (fun c_57 => ?_) (fun c_57 => ?_)
          · skip
            refine ab_sipush (v := -1000) dX12_text_64 (by decide) ?_
            refine ab_aload_n dX12_text_67 rfl ?_
            refine ab_getI dX12_text_68 fl_X12_342 hM2.hs hat ?_
            refine ab_isub dX12_text_71 ?_
            refine ab_sti_n (ls' := [_, _, _, _]) dX12_text_72 (by decide) rfl ?_
            refine ab_iload_n dX12_text_73 rfl ?_
            refine ab_nif_eq 83 dX12_text_74 (by decide) (by decide) (fun c_74 => ?_) (fun c_74 => ?_)
            · skip
              refine ab_aload_n dX12_text_83 rfl ?_
              refine ab_iconst (v := nI 0) dX12_text_84 (by decide) ?_
              refine ab_putI dX12_text_85 fl_X12_339 hM2.hs ?_
              refine ab_iload_n dX12_text_88 rfl ?_
              refine ab_if_ge 96 dX12_text_89 (by decide) (fun c_89 => ?_) (fun c_89 => ?_)
              · skip
                exact absurd c_89 (nI_neg (by have := tx_rd_w 12 0 w hw; omega) _ (Or.inl (by decide)))
              · skip
                refine ab_iload_n dX12_text_92 rfl ?_
                refine ab_goto 97 dX12_text_93 (by decide) ?_
                refine ab_reti dX12_text_97 ?_
                exact ⟨rfl, (f2.mono (by simp) (by simp)).s50 _ (by simp), hG.fM ((f2.mono (S := [72]) (K := [29, 30]) (by simp) (by simp)).s50 _ (by simp)) (by intro a q; simp at q; omega) (by intro a q; simp at q; omega), ⟨Nat.zero_le _, fun j hj => absurd hj (Nat.not_lt_zero j), by rw [ab_i_at, ab_up_self], fun j hj => absurd hj (Nat.not_lt_zero j)⟩⟩
            · skip
              exact absurd rfl c_74
          · skip
            exact absurd rfl c_57
        · obtain ⟨k1, k2⟩ := tx_rd_ok (e := e) 12 0
          have hM2 := at_M.fM f2 hM
          have hE2 := hE.fM f2 (by simp) (by simp)
          have hG2 := hG.fM f2 (by intro a q; simp at q; omega) (by intro a q; simp at q; omega)
          cases hg : (tx_go e (tx_rd e 12 0).1 0 X).2 with
          | some p =>
            have hp9 := tx_go_b hg
            rw [sp_text_p hw hg]
            refine ab_iload_n dX12_text_56 rfl ?_
            refine ab_nif_eq 64 dX12_text_57 (by decide) (by decide) (fun c_57 => ?_) (fun c_57 => ?_)
            · skip
              exact absurd c_57 (by decide)
            · skip
              refine ab_iconst (v := nI 0) dX12_text_60 (by decide) ?_
              refine ab_goto 72 dX12_text_61 (by decide) ?_
              refine ab_sti_n (ls' := [_, _, _, _]) dX12_text_72 (by decide) rfl ?_
              refine ab_iload_n dX12_text_73 rfl ?_
              refine ab_nif_eq 83 dX12_text_74 (by decide) (by decide) (fun c_74 => ?_) (fun c_74 => ?_)
              · skip
                exact absurd c_74 (by decide)
              · skip
                refine ab_aload_n dX12_text_77 rfl ?_
                refine ab_iload_n dX12_text_78 rfl ?_
                refine ab_callVi [_] dX12_text_79 ml_X12_361 mk_X12_done hM2.hs (m_done (k := 7) (b := 0) (Nat.le_refl _) hM2 hE2 k1 k2 hG2) (fun x h3 hq => ?_)
                obtain ⟨hx, f3, g1, g2⟩ := hq
                have hM3 := at_M.fM f3 hM2
                rw [hg] at hx
                have hx : x = -2000 - nI p := hx
                rw [hx]
                refine ab_sti_n (ls' := [_, _, _, _]) dX12_text_82 (by decide) rfl ?_
                refine ab_aload_n dX12_text_83 rfl ?_
                refine ab_iconst (v := nI 0) dX12_text_84 (by decide) ?_
                refine ab_putI dX12_text_85 fl_X12_339 hM3.hs ?_
                refine ab_iload_n dX12_text_88 rfl ?_
                refine ab_if_ge 96 dX12_text_89 (by decide) (fun c_89 => ?_) (fun c_89 => ?_)
                · skip
                  exact absurd c_89 (nI_neg hp9 _ (Or.inr (by decide)))
                · skip
                  refine ab_iload_n dX12_text_92 rfl ?_
                  refine ab_goto 97 dX12_text_93 (by decide) ?_
                  refine ab_reti dX12_text_97 ?_
                  exact ⟨rfl, ((f2.mono (by simp) (by simp)).trans f3 (by simp) (by simp)).s50 _ (by simp), gp_M.fM ((ab_fM.rf (S := []) (K := [29]) h3).s50 _ (by simp)) (by intro a q; cases q) (by intro a q; simp at q; omega) (g2 (by rw [hg]; simp)), ⟨Nat.zero_le _, fun j hj => absurd hj (Nat.not_lt_zero j), by rw [ab_i_at, ab_up_self], fun j hj => absurd hj (Nat.not_lt_zero j)⟩⟩
          | none =>
            rw [sp_text_ok hw hg]
            refine ab_iload_n dX12_text_56 rfl ?_
            refine ab_nif_eq 64 dX12_text_57 (by decide) (by decide) (fun c_57 => ?_) (fun c_57 => ?_)
            · skip
              exact absurd c_57 (by decide)
            · skip
              refine ab_iconst (v := nI 0) dX12_text_60 (by decide) ?_
              refine ab_goto 72 dX12_text_61 (by decide) ?_
              refine ab_sti_n (ls' := [_, _, _, _]) dX12_text_72 (by decide) rfl ?_
              refine ab_iload_n dX12_text_73 rfl ?_
              refine ab_nif_eq 83 dX12_text_74 (by decide) (by decide) (fun c_74 => ?_) (fun c_74 => ?_)
              · skip
                exact absurd c_74 (by decide)
              · skip
                refine ab_aload_n dX12_text_77 rfl ?_
                refine ab_iload_n dX12_text_78 rfl ?_
                refine ab_callVi [_] dX12_text_79 ml_X12_361 mk_X12_done hM2.hs (m_done (k := 7) (b := 0) (Nat.le_refl _) hM2 hE2 k1 k2 hG2) (fun x h3 hq => ?_)
                obtain ⟨hx, f3, g1, g2⟩ := hq
                have hM3 := at_M.fM f3 hM2
                rw [hg] at hx
                have hx : x = nI 0 := hx
                rw [hx]
                refine ab_sti_n (ls' := [_, _, _, _]) dX12_text_82 (by decide) rfl ?_
                refine ab_aload_n dX12_text_83 rfl ?_
                refine ab_iconst (v := nI 0) dX12_text_84 (by decide) ?_
                refine ab_putI dX12_text_85 fl_X12_339 hM3.hs ?_
                refine ab_iload_n dX12_text_88 rfl ?_
                refine ab_if_ge 96 dX12_text_89 (by decide) (fun c_89 => ?_) (fun c_89 => ?_)
                · skip
                  refine ab_iload_n dX12_text_96 rfl ?_
                  refine ab_reti dX12_text_97 ?_
                  exact ⟨rfl, ((f2.mono (by simp) (by simp)).trans f3 (by simp) (by simp)).s50 _ (by simp), gp_M.fM ((ab_fM.rf (S := []) (K := [29]) h3).s50 _ (by simp)) (by intro a q; cases q) (by intro a q; simp at q; omega) (g1 hg), ⟨Nat.zero_le _, fun j hj => absurd hj (Nat.not_lt_zero j), by rw [ab_i_at, ab_up_self], fun j hj => absurd hj (Nat.not_lt_zero j)⟩⟩
                · skip
                  exact absurd (by decide) c_89
