/-! ===== the model's board: laid, touching ===== -/
theorem ab_i_at (h : ab_H) (a k : Nat) (v : Int32) : ab_i (ab_si h a k v) a = ab_up (ab_i h a) k v := (ab_i_si h a k v a).trans (if_pos rfl)
theorem ab_i_off {h : ab_H} {a k c : Nat} {v : Int32} (hc : c ≠ a) : ab_i (ab_si h a k v) c = ab_i h c := (ab_i_si h a k v c).trans (if_neg hc)
def bd_Mo (n hx hy : Nat) (h : ab_H) : Prop := n ≤ 4 ∧ hx < 2 ^ n ∧ hy < 2 ^ n ∧ ab_i h 50 1 = nI n ∧ ab_i h 50 2 = nI hx ∧ ab_i h 50 3 = nI hy ∧ ab_i h 50 4 = nI (bd_n n) ∧ (∀ X Y, X < 2 ^ n → Y < 2 ^ n → ab_i h 52 (16 * Y + X) = bd_v n hx hy X Y) ∧ (∀ i, i < bd_n n → ab_i h 53 i = nI (bd_P n hx hy i).1) ∧ (∀ i, i < bd_n n → ab_i h 54 i = nI (bd_P n hx hy i).2.1) ∧ (∀ i, i < bd_n n → ab_i h 55 i = nI (bd_cx (bd_P n hx hy i))) ∧ ∀ i, i < bd_n n → ab_i h 56 i = nI (bd_cy (bd_P n hx hy i))
theorem bd_Mo.n4 {n hx hy : Nat} {h : ab_H} (H : bd_Mo n hx hy h) : n ≤ 4 := H.1
theorem bd_Mo.hx {n hx hy : Nat} {h : ab_H} (H : bd_Mo n hx hy h) : hx < 2 ^ n := H.2.1
theorem bd_Mo.hy {n hx hy : Nat} {h : ab_H} (H : bd_Mo n hx hy h) : hy < 2 ^ n := H.2.2.1
theorem bd_Mo.f1 {n hx hy : Nat} {h : ab_H} (H : bd_Mo n hx hy h) : ab_i h 50 1 = nI n := H.2.2.2.1
theorem bd_Mo.f2 {n hx hy : Nat} {h : ab_H} (H : bd_Mo n hx hy h) : ab_i h 50 2 = nI hx := H.2.2.2.2.1
theorem bd_Mo.f3 {n hx hy : Nat} {h : ab_H} (H : bd_Mo n hx hy h) : ab_i h 50 3 = nI hy := H.2.2.2.2.2.1
theorem bd_Mo.f4 {n hx hy : Nat} {h : ab_H} (H : bd_Mo n hx hy h) : ab_i h 50 4 = nI (bd_n n) := H.2.2.2.2.2.2.1
theorem bd_Mo.cells {n hx hy : Nat} {h : ab_H} (H : bd_Mo n hx hy h) {X Y : Nat} (hX : X < 2 ^ n) (hY : Y < 2 ^ n) : ab_i h 52 (16 * Y + X) = bd_v n hx hy X Y := H.2.2.2.2.2.2.2.1 X Y hX hY
theorem bd_Mo.way {n hx hy i : Nat} {h : ab_H} (H : bd_Mo n hx hy h) (hi : i < bd_n n) : ab_i h 53 i = nI (bd_P n hx hy i).1 := H.2.2.2.2.2.2.2.2.1 i hi
theorem bd_Mo.size {n hx hy i : Nat} {h : ab_H} (H : bd_Mo n hx hy h) (hi : i < bd_n n) : ab_i h 54 i = nI (bd_P n hx hy i).2.1 := H.2.2.2.2.2.2.2.2.2.1 i hi
theorem bd_Mo.cx {n hx hy i : Nat} {h : ab_H} (H : bd_Mo n hx hy h) (hi : i < bd_n n) : ab_i h 55 i = nI (bd_cx (bd_P n hx hy i)) := H.2.2.2.2.2.2.2.2.2.2.1 i hi
theorem bd_Mo.cy {n hx hy i : Nat} {h : ab_H} (H : bd_Mo n hx hy h) (hi : i < bd_n n) : ab_i h 56 i = nI (bd_cy (bd_P n hx hy i)) := H.2.2.2.2.2.2.2.2.2.2.2 i hi
theorem bd_Mo.fr {S : List Nat} {n hx hy : Nat} {h h1 : ab_H} (f : ab_fr S h h1) (H : bd_Mo n hx hy h) (hS : ∀ a, 50 ≤ a → a ≤ 56 → a ≠ 51 → a ∉ S) : bd_Mo n hx hy h1 := by
  unfold bd_Mo
  rw [ab_i_fr f (hS 50 (by omega) (by omega) (by omega)), ab_i_fr f (hS 52 (by omega) (by omega) (by omega)), ab_i_fr f (hS 53 (by omega) (by omega) (by omega)), ab_i_fr f (hS 54 (by omega) (by omega) (by omega)), ab_i_fr f (hS 55 (by omega) (by omega) (by omega)), ab_i_fr f (hS 56 (by omega) (by omega) (by omega))]
  exact H
theorem bd_Mo_cut {n hx hy : Nat} {h h1 : ab_H} (hn : n ≤ 4) (hX : hx < 2 ^ n) (hY : hy < 2 ^ n) (g1 : ab_i h 50 1 = nI n) (g2 : ab_i h 50 2 = nI hx) (g3 : ab_i h 50 3 = nI hy) (hl : ab_i h 52 (16 * hy + hx) = -9) (H : bd_cutM n 0 0 hx hy 0 h h1) : bd_Mo n hx hy h1 := by
  obtain ⟨f, a0, a1, a2, a3, a4, a5, a6⟩ := H
  have hpw := bd_pow4 hn
  refine ⟨hn, hX, hY, (a0 1 (by decide)).trans g1, (a0 2 (by decide)).trans g2, (a0 3 (by decide)).trans g3, by rw [a1, Nat.zero_add], fun X Y hX1 hY1 => ?_, fun i hi => ?_, fun i hi => ?_, fun i hi => ?_, fun i hi => ?_⟩
  · unfold bd_v
    rw [Nat.mul_comm]
    by_cases e : X = hx ∧ Y = hy
    · rw [if_pos e, a2.2 X Y (by omega) (by omega) (fun q => by omega), e.1, e.2, Nat.mul_comm]
      exact hl
    · rw [if_neg e]
      exact a2.1 X Y (by omega) (by omega) ⟨by omega, by omega, by omega, by omega⟩ (by omega)
  · have q := a3.1 i hi; rw [Nat.zero_add] at q; exact q
  · have q := a4.1 i hi; rw [Nat.zero_add] at q; exact q
  · have q := a5.1 i hi; rw [Nat.zero_add] at q; exact q
  · have q := a6.1 i hi; rw [Nat.zero_add] at q; exact q
set_option maxRecDepth 100000 in
set_option maxHeartbeats 4000000 in
theorem m_lays {k b n hx hy : Nat} {h : ab_H} (hk : 5 ≤ k) (hM : at_M (ab_sh h) (ab_r h)) (hn : n ≤ 4) (hX : hx < 2 ^ n) (hY : hy < 2 ^ n) : ab_M k b mX12_lays [.ref 50, .int (nI n), .int (nI hx), .int (nI hy)] h (ab_pv (fun h' => ab_fr [50, 52, 53, 54, 55, 56] h h' ∧ bd_Mo n hx hy h')) := by
  have hpw := bd_pow4 hn
  refine ab_enter ?_
  refine ab_aload_n dX12_lays_0 rfl ?_
  refine ab_iload_n dX12_lays_1 rfl ?_
  refine ab_putI dX12_lays_2 fl_X12_29 hM.hs ?_
  refine ab_aload_n dX12_lays_5 rfl ?_
  refine ab_iload_n dX12_lays_6 rfl ?_
  refine ab_putI dX12_lays_7 fl_X12_127 hM.hs ?_
  refine ab_aload_n dX12_lays_10 rfl ?_
  refine ab_iload_n dX12_lays_11 rfl ?_
  refine ab_putI dX12_lays_12 fl_X12_130 hM.hs ?_
  refine ab_aload_n dX12_lays_15 rfl ?_
  refine ab_iconst (v := nI 0) dX12_lays_16 (by decide) ?_
  refine ab_putI dX12_lays_17 fl_X12_133 hM.hs ?_
  refine ab_aload_n dX12_lays_20 rfl ?_
  refine ab_getR dX12_lays_21 fl_X12_33 hM.hs hM.p50_5 ?_
  refine ab_bipush (v := nI 16) dX12_lays_24 (by decide) ?_
  refine ab_iload_n dX12_lays_26 rfl ?_
  refine ab_nmulR dX12_lays_27 ?_
  refine ab_iload_n dX12_lays_28 rfl ?_
  refine ab_naddR dX12_lays_29 ?_
  refine ab_bipush (v := -9) dX12_lays_30 (by decide) ?_
  refine ab_iast dX12_lays_32 hM.s52 rfl (by omega) ?_
  obtain ⟨h5, e5, f5, g1, g2, g3, g4, g5⟩ : ∃ h5, h5 = ab_si (ab_si (ab_si (ab_si (ab_si h 50 1 (nI n)) 50 2 (nI hx)) 50 3 (nI hy)) 50 4 (nI 0)) 52 (16 * hy + hx) (-9) ∧ ab_fr [50, 52, 53, 54, 55, 56] h h5 ∧ ab_i h5 50 1 = nI n ∧ ab_i h5 50 2 = nI hx ∧ ab_i h5 50 3 = nI hy ∧ ab_i h5 50 4 = nI 0 ∧ ab_i h5 52 (16 * hy + hx) = -9 := ⟨_, rfl, (((((ab_fr.rf h).si _ _ _ (by simp)).si _ _ _ (by simp)).si _ _ _ (by simp)).si _ _ _ (by simp)).si _ _ _ (by simp), by rw [ab_i_off (by decide), ab_i_at, ab_up_ne _ _ (by decide), ab_i_at, ab_up_ne _ _ (by decide), ab_i_at, ab_up_ne _ _ (by decide), ab_i_at, ab_up_self], by rw [ab_i_off (by decide), ab_i_at, ab_up_ne _ _ (by decide), ab_i_at, ab_up_ne _ _ (by decide), ab_i_at, ab_up_self], by rw [ab_i_off (by decide), ab_i_at, ab_up_ne _ _ (by decide), ab_i_at, ab_up_self], by rw [ab_i_off (by decide), ab_i_at, ab_up_self], by rw [ab_i_at, ab_up_self]⟩
  rw [← e5]
  have hM1 := at_M.fr f5 hM
  refine ab_aload_n dX12_lays_33 rfl ?_
  refine ab_iconst (v := nI 0) dX12_lays_34 (by decide) ?_
  refine ab_iconst (v := nI 0) dX12_lays_35 (by decide) ?_
  refine ab_aload_n dX12_lays_36 rfl ?_
  refine ab_callVn [] dX12_lays_37 ml_X12_119 mk_X12_side hM1.hs (m_side (k := 0) (b := 0) hM1 g1 hn) (fun x h1 hq => ?_)
  obtain ⟨hhe, rfl⟩ := hq
  rw [hhe]
  refine ab_iload_n dX12_lays_40 rfl ?_
  refine ab_iload_n dX12_lays_41 rfl ?_
  refine ab_callVv [_, _, _, _, _] dX12_lays_42 ml_X12_136 mk_X12_cuts hM1.hs (m_cuts n (k := n) (b := 0) (x := 0) (y := 0) (mx := hx) (my := hy) (p := 0) (Nat.le_refl _) hM1 g4 hn (by omega) (by omega) ⟨by omega, by omega, by omega, by omega⟩ (by have := bd_n_le n hn; omega)) (fun h2 hq => ?_)
  refine ab_retv dX12_lays_45 ?_
  exact ⟨f5.trans hq.1 (fun _ q => q), bd_Mo_cut hn hX hY g1 g2 g3 g5 hq⟩
set_option maxRecDepth 100000 in
set_option maxHeartbeats 4000000 in
theorem m_cell {k b n hx hy X Y : Nat} {h : ab_H} (hM : at_M (ab_sh h) (ab_r h)) (hD : bd_Mo n hx hy h) (hX : X < 2 ^ n) (hY : Y < 2 ^ n) : ab_M k b mX12_cell [.ref 50, .int (nI X), .int (nI Y)] h (ab_pi (fun v h' => h' = h ∧ v = bd_v n hx hy X Y)) := by
  have hpw := bd_pow4 hD.n4
  refine ab_enter ?_
  refine ab_aload_n dX12_cell_0 rfl ?_
  refine ab_getR dX12_cell_1 fl_X12_33 hM.hs hM.p50_5 ?_
  refine ab_bipush (v := nI 16) dX12_cell_4 (by decide) ?_
  refine ab_iload_n dX12_cell_6 rfl ?_
  refine ab_nmulR dX12_cell_7 ?_
  refine ab_iload_n dX12_cell_8 rfl ?_
  refine ab_naddR dX12_cell_9 ?_
  refine ab_iald dX12_cell_10 hM.s52 rfl (by omega) (hD.cells hX hY) ?_
  refine ab_reti dX12_cell_11 ?_
  exact ⟨rfl, rfl⟩
set_option maxRecDepth 100000 in
set_option maxHeartbeats 4000000 in
theorem m_areBeside {k b n hx hy X Y X2 Y2 a c : Nat} {h : ab_H} (hk : 2 ≤ k) (hM : at_M (ab_sh h) (ab_r h)) (hD : bd_Mo n hx hy h) (hX : X < 2 ^ n) (hY : Y < 2 ^ n) (hX2 : X2 < 2147483648) (hY2 : Y2 < 2147483648) : ab_M k b mX12_areBeside [.ref 50, .int (nI X), .int (nI Y), .int (nI X2), .int (nI Y2), .int (nI a), .int (nI c)] h (ab_pb (fun t h' => h' = h ∧ (t = true ↔ bd_side n hx hy a c X Y X2 Y2))) := by
  have hpw := bd_pow4 hD.n4
  refine ab_enter ?_
  refine ab_aload_n dX12_areBeside_0 rfl ?_
  refine ab_iload_n dX12_areBeside_1 rfl ?_
  refine ab_iload dX12_areBeside_2 rfl ?_
  refine ab_callVb [_, _] dX12_areBeside_4 ml_X12_140 mk_X12_isCell hM.hs (m_isCell (k := 1) (b := 0) (by omega) hM hD.f1 hD.n4) (fun t1 hh1 hq => ?_)
  obtain ⟨hhe, hte⟩ := hq
  rw [hhe]
  rw [bd_isc_nI hX2 hY2] at hte
  refine ab_bif_eq 37 dX12_areBeside_7 (by decide) (fun c_7 => ?_) (fun c_7 => ?_)
  · skip
    refine ab_iconst (v := nI 0) dX12_areBeside_37 (by decide) ?_
    refine ab_retb (x := false) dX12_areBeside_38 ?_
    exact ⟨rfl, iff_of_false Bool.false_ne_true (fun q => absurd (hte.symm.trans c_7) (by rw [decide_eq_true (show X2 < 2 ^ n ∧ Y2 < 2 ^ n from ⟨q.1, q.2.1⟩)]; decide))⟩
  · have hin := of_decide_eq_true (hte.symm.trans c_7)
    refine ab_aload_n dX12_areBeside_10 rfl ?_
    refine ab_iload_n dX12_areBeside_11 rfl ?_
    refine ab_iload_n dX12_areBeside_12 rfl ?_
    refine ab_callVi [_, _] dX12_areBeside_13 ml_X12_144 mk_X12_cell hM.hs (m_cell (k := 0) (b := 0) hM hD hX hY) (fun x h1 hq => ?_)
    obtain ⟨hhe, rfl⟩ := hq
    rw [hhe]
    refine ab_iload dX12_areBeside_16 rfl ?_
    refine ab_icmp_ne 37 dX12_areBeside_18 (by decide) (fun c_18 => ?_) (fun c_18 => ?_)
    · skip
      refine ab_iconst (v := nI 0) dX12_areBeside_37 (by decide) ?_
      refine ab_retb (x := false) dX12_areBeside_38 ?_
      exact ⟨rfl, iff_of_false Bool.false_ne_true (fun q => c_18 q.2.2.1)⟩
    · skip
      refine ab_aload_n dX12_areBeside_21 rfl ?_
      refine ab_iload_n dX12_areBeside_22 rfl ?_
      refine ab_iload dX12_areBeside_23 rfl ?_
      refine ab_callVi [_, _] dX12_areBeside_25 ml_X12_144 mk_X12_cell hM.hs (m_cell (k := 0) (b := 0) hM hD hin.1 hin.2) (fun x h1 hq => ?_)
      obtain ⟨hhe, rfl⟩ := hq
      rw [hhe]
      refine ab_iload dX12_areBeside_28 rfl ?_
      refine ab_icmp_ne 37 dX12_areBeside_30 (by decide) (fun c_30 => ?_) (fun c_30 => ?_)
      · skip
        refine ab_iconst (v := nI 0) dX12_areBeside_37 (by decide) ?_
        refine ab_retb (x := false) dX12_areBeside_38 ?_
        exact ⟨rfl, iff_of_false Bool.false_ne_true (fun q => c_30 q.2.2.2)⟩
      · skip
        refine ab_iconst (v := nI 1) dX12_areBeside_33 (by decide) ?_
        refine ab_goto 38 dX12_areBeside_34 (by decide) ?_
        refine ab_retb (x := true) dX12_areBeside_38 ?_
        exact ⟨rfl, iff_of_true rfl ⟨hin.1, hin.2, c_18, c_30⟩⟩
set_option maxRecDepth 100000 in
set_option maxHeartbeats 4000000 in
theorem lp_mTouchIn {k b n hx hy i c X : Nat} {h : ab_H} (hk : 3 ≤ k) (hM : at_M (ab_sh h) (ab_r h)) (hD : bd_Mo n hx hy h) (hX : X < 2 ^ n) (cont : ∀ (a5 : Option Value), (∀ Y, Y < 2 ^ n → ¬ bd_adjAt n hx hy i c X Y) → ab_R k b mX12_isTouching 110 [some (.ref 50), some (.int (nI i)), some (.int (nI c)), some (.int (nI X)), some (.int (nI (2 ^ n))), a5] [] h (ab_pb (fun t h' => h' = h ∧ (t = true ↔ bd_adj n hx hy i c)))) : ∀ (j Y : Nat) (a5 : Option Value), Y + j = 2 ^ n → (∀ Y2, Y2 < Y → ¬ bd_adjAt n hx hy i c X Y2) → ab_R k b mX12_isTouching 13 [some (.ref 50), some (.int (nI i)), some (.int (nI c)), some (.int (nI X)), some (.int (nI Y)), a5] [] h (ab_pb (fun t h' => h' = h ∧ (t = true ↔ bd_adj n hx hy i c))) := by
  intro j
  induction j with
  | zero =>
    intro Y a5 hY hno
    have hb85 := bd_n_le n hD.n4
    have hpw := bd_pow4 hD.n4
    have hpo := bd_pos n
    obtain rfl : Y = 2 ^ n := by omega
    refine ab_iload dX12_isTouching_13 rfl ?_
    refine ab_aload_n dX12_isTouching_15 rfl ?_
    refine ab_callVn [] dX12_isTouching_16 ml_X12_119 mk_X12_side hM.hs (m_side (k := 0) (b := 0) hM hD.f1 hD.n4) (fun x h1 hq => ?_)
    obtain ⟨hhe, rfl⟩ := hq
    rw [hhe]
    refine ab_nicmp_ge 110 dX12_isTouching_19 (by decide) (by omega) (by omega) (fun c_19 => ?_) (fun c_19 => ?_)
    · skip
      exact cont a5 hno
    · skip
      exact absurd (Nat.le_refl _) c_19
  | succ j ih =>
    intro Y a5 hYj hno
    have hb85 := bd_n_le n hD.n4
    have hpw := bd_pow4 hD.n4
    have hpo := bd_pos n
    have hY : Y < 2 ^ n := by omega
    refine ab_iload dX12_isTouching_13 rfl ?_
    refine ab_aload_n dX12_isTouching_15 rfl ?_
    refine ab_callVn [] dX12_isTouching_16 ml_X12_119 mk_X12_side hM.hs (m_side (k := 0) (b := 0) hM hD.f1 hD.n4) (fun x h1 hq => ?_)
    obtain ⟨hhe, rfl⟩ := hq
    rw [hhe]
    refine ab_nicmp_ge 110 dX12_isTouching_19 (by decide) (by omega) (by omega) (fun c_19 => ?_) (fun c_19 => ?_)
    · skip
      exact absurd c_19 (by omega)
    · skip
      refine ab_aload_n dX12_isTouching_22 rfl ?_
      refine ab_iload_n dX12_isTouching_23 rfl ?_
      refine ab_iload dX12_isTouching_24 rfl ?_
      refine ab_iload_n dX12_isTouching_26 rfl ?_
      refine ab_iconst (v := nI 1) dX12_isTouching_27 (by decide) ?_
      refine ab_naddR dX12_isTouching_28 ?_
      refine ab_iload dX12_isTouching_29 rfl ?_
      refine ab_iload_n dX12_isTouching_31 rfl ?_
      refine ab_iload_n dX12_isTouching_32 rfl ?_
      refine ab_callVb [_, _, _, _, _, _] dX12_isTouching_33 ml_X12_148 mk_X12_areBeside hM.hs (m_areBeside (k := 2) (b := 0) (by omega) hM hD hX hY (by omega) (by omega)) (fun t1 hh_t1 hq_t1 => ?_)
      obtain ⟨hhe_t1, ht_t1⟩ := hq_t1
      rw [hhe_t1]
      refine ab_bif_ne 90 dX12_isTouching_36 (by decide) (fun c_36 => ?_) (fun c_36 => ?_)
      · skip
        refine ab_iconst (v := nI 1) dX12_isTouching_90 (by decide) ?_
        refine ab_goto 95 dX12_isTouching_91 (by decide) ?_
        refine ab_sti (ls' := [_, _, _, _, _, _]) dX12_isTouching_95 (by decide) rfl ?_
        refine ab_iload dX12_isTouching_97 rfl ?_
        refine ab_nif_eq 104 dX12_isTouching_99 (by decide) (by omega) (fun c_99 => ?_) (fun c_99 => ?_)
        · skip
          refine ab_nincR (ls' := [_, _, _, _, _, _]) dX12_isTouching_104 rfl rfl ?_
          refine ab_goto 13 dX12_isTouching_107 (by decide) ?_
          first | exact absurd c_99 (by decide) | exact ih (Y + 1) _ (by omega) (fun Y2 h2 q => by
                  by_cases e : Y2 = Y
                  · subst e; exact q.elim (fun q => ab_tf (ht_t1.mpr q) c_36) (fun q => q.elim (fun q => ab_tf (ht_t2.mpr q) c_53) (fun q => q.elim (fun q => ab_tf (ht_t3.mpr q) c_70) (fun q => ab_tf (ht_t4.mpr q) c_87)))
                  · exact hno Y2 (by omega) q)
        · skip
          refine ab_iconst (v := nI 1) dX12_isTouching_102 (by decide) ?_
          refine ab_retb (x := true) dX12_isTouching_103 ?_
          first | exact absurd rfl c_99 | exact ⟨rfl, iff_of_true rfl ⟨X, Y, hX, hY, by first | exact Or.inl (ht_t1.mp c_36) | exact Or.inr (Or.inl (ht_t2.mp c_53)) | exact Or.inr (Or.inr (Or.inl (ht_t3.mp c_70))) | exact Or.inr (Or.inr (Or.inr (ht_t4.mp c_87)))⟩⟩
      · skip
        refine ab_aload_n dX12_isTouching_39 rfl ?_
        refine ab_iload_n dX12_isTouching_40 rfl ?_
        refine ab_iload dX12_isTouching_41 rfl ?_
        refine ab_iload_n dX12_isTouching_43 rfl ?_
        refine ab_iload dX12_isTouching_44 rfl ?_
        refine ab_iconst (v := nI 1) dX12_isTouching_46 (by decide) ?_
        refine ab_naddR dX12_isTouching_47 ?_
        refine ab_iload_n dX12_isTouching_48 rfl ?_
        refine ab_iload_n dX12_isTouching_49 rfl ?_
        refine ab_callVb [_, _, _, _, _, _] dX12_isTouching_50 ml_X12_148 mk_X12_areBeside hM.hs (m_areBeside (k := 2) (b := 0) (by omega) hM hD hX hY (by omega) (by omega)) (fun t2 hh_t2 hq_t2 => ?_)
        obtain ⟨hhe_t2, ht_t2⟩ := hq_t2
        rw [hhe_t2]
        refine ab_bif_ne 90 dX12_isTouching_53 (by decide) (fun c_53 => ?_) (fun c_53 => ?_)
        · skip
          refine ab_iconst (v := nI 1) dX12_isTouching_90 (by decide) ?_
          refine ab_goto 95 dX12_isTouching_91 (by decide) ?_
          refine ab_sti (ls' := [_, _, _, _, _, _]) dX12_isTouching_95 (by decide) rfl ?_
          refine ab_iload dX12_isTouching_97 rfl ?_
          refine ab_nif_eq 104 dX12_isTouching_99 (by decide) (by omega) (fun c_99 => ?_) (fun c_99 => ?_)
          · skip
            refine ab_nincR (ls' := [_, _, _, _, _, _]) dX12_isTouching_104 rfl rfl ?_
            refine ab_goto 13 dX12_isTouching_107 (by decide) ?_
            first | exact absurd c_99 (by decide) | exact ih (Y + 1) _ (by omega) (fun Y2 h2 q => by
                  by_cases e : Y2 = Y
                  · subst e; exact q.elim (fun q => ab_tf (ht_t1.mpr q) c_36) (fun q => q.elim (fun q => ab_tf (ht_t2.mpr q) c_53) (fun q => q.elim (fun q => ab_tf (ht_t3.mpr q) c_70) (fun q => ab_tf (ht_t4.mpr q) c_87)))
                  · exact hno Y2 (by omega) q)
          · skip
            refine ab_iconst (v := nI 1) dX12_isTouching_102 (by decide) ?_
            refine ab_retb (x := true) dX12_isTouching_103 ?_
            first | exact absurd rfl c_99 | exact ⟨rfl, iff_of_true rfl ⟨X, Y, hX, hY, by first | exact Or.inl (ht_t1.mp c_36) | exact Or.inr (Or.inl (ht_t2.mp c_53)) | exact Or.inr (Or.inr (Or.inl (ht_t3.mp c_70))) | exact Or.inr (Or.inr (Or.inr (ht_t4.mp c_87)))⟩⟩
        · skip
          refine ab_aload_n dX12_isTouching_56 rfl ?_
          refine ab_iload_n dX12_isTouching_57 rfl ?_
          refine ab_iload dX12_isTouching_58 rfl ?_
          refine ab_iload_n dX12_isTouching_60 rfl ?_
          refine ab_iconst (v := nI 1) dX12_isTouching_61 (by decide) ?_
          refine ab_naddR dX12_isTouching_62 ?_
          refine ab_iload dX12_isTouching_63 rfl ?_
          refine ab_iload_n dX12_isTouching_65 rfl ?_
          refine ab_iload_n dX12_isTouching_66 rfl ?_
          refine ab_callVb [_, _, _, _, _, _] dX12_isTouching_67 ml_X12_148 mk_X12_areBeside hM.hs (m_areBeside (k := 2) (b := 0) (by omega) hM hD hX hY (by omega) (by omega)) (fun t3 hh_t3 hq_t3 => ?_)
          obtain ⟨hhe_t3, ht_t3⟩ := hq_t3
          rw [hhe_t3]
          refine ab_bif_ne 90 dX12_isTouching_70 (by decide) (fun c_70 => ?_) (fun c_70 => ?_)
          · skip
            refine ab_iconst (v := nI 1) dX12_isTouching_90 (by decide) ?_
            refine ab_goto 95 dX12_isTouching_91 (by decide) ?_
            refine ab_sti (ls' := [_, _, _, _, _, _]) dX12_isTouching_95 (by decide) rfl ?_
            refine ab_iload dX12_isTouching_97 rfl ?_
            refine ab_nif_eq 104 dX12_isTouching_99 (by decide) (by omega) (fun c_99 => ?_) (fun c_99 => ?_)
            · skip
              refine ab_nincR (ls' := [_, _, _, _, _, _]) dX12_isTouching_104 rfl rfl ?_
              refine ab_goto 13 dX12_isTouching_107 (by decide) ?_
              first | exact absurd c_99 (by decide) | exact ih (Y + 1) _ (by omega) (fun Y2 h2 q => by
                  by_cases e : Y2 = Y
                  · subst e; exact q.elim (fun q => ab_tf (ht_t1.mpr q) c_36) (fun q => q.elim (fun q => ab_tf (ht_t2.mpr q) c_53) (fun q => q.elim (fun q => ab_tf (ht_t3.mpr q) c_70) (fun q => ab_tf (ht_t4.mpr q) c_87)))
                  · exact hno Y2 (by omega) q)
            · skip
              refine ab_iconst (v := nI 1) dX12_isTouching_102 (by decide) ?_
              refine ab_retb (x := true) dX12_isTouching_103 ?_
              first | exact absurd rfl c_99 | exact ⟨rfl, iff_of_true rfl ⟨X, Y, hX, hY, by first | exact Or.inl (ht_t1.mp c_36) | exact Or.inr (Or.inl (ht_t2.mp c_53)) | exact Or.inr (Or.inr (Or.inl (ht_t3.mp c_70))) | exact Or.inr (Or.inr (Or.inr (ht_t4.mp c_87)))⟩⟩
          · skip
            refine ab_aload_n dX12_isTouching_73 rfl ?_
            refine ab_iload_n dX12_isTouching_74 rfl ?_
            refine ab_iload dX12_isTouching_75 rfl ?_
            refine ab_iload_n dX12_isTouching_77 rfl ?_
            refine ab_iload dX12_isTouching_78 rfl ?_
            refine ab_iconst (v := nI 1) dX12_isTouching_80 (by decide) ?_
            refine ab_naddR dX12_isTouching_81 ?_
            refine ab_iload_n dX12_isTouching_82 rfl ?_
            refine ab_iload_n dX12_isTouching_83 rfl ?_
            refine ab_callVb [_, _, _, _, _, _] dX12_isTouching_84 ml_X12_148 mk_X12_areBeside hM.hs (m_areBeside (k := 2) (b := 0) (by omega) hM hD hX hY (by omega) (by omega)) (fun t4 hh_t4 hq_t4 => ?_)
            obtain ⟨hhe_t4, ht_t4⟩ := hq_t4
            rw [hhe_t4]
            refine ab_bif_eq 94 dX12_isTouching_87 (by decide) (fun c_87 => ?_) (fun c_87 => ?_)
            · skip
              refine ab_iconst (v := nI 0) dX12_isTouching_94 (by decide) ?_
              refine ab_sti (ls' := [_, _, _, _, _, _]) dX12_isTouching_95 (by decide) rfl ?_
              refine ab_iload dX12_isTouching_97 rfl ?_
              refine ab_nif_eq 104 dX12_isTouching_99 (by decide) (by omega) (fun c_99 => ?_) (fun c_99 => ?_)
              · skip
                refine ab_nincR (ls' := [_, _, _, _, _, _]) dX12_isTouching_104 rfl rfl ?_
                refine ab_goto 13 dX12_isTouching_107 (by decide) ?_
                first | exact absurd c_99 (by decide) | exact ih (Y + 1) _ (by omega) (fun Y2 h2 q => by
                  by_cases e : Y2 = Y
                  · subst e; exact q.elim (fun q => ab_tf (ht_t1.mpr q) c_36) (fun q => q.elim (fun q => ab_tf (ht_t2.mpr q) c_53) (fun q => q.elim (fun q => ab_tf (ht_t3.mpr q) c_70) (fun q => ab_tf (ht_t4.mpr q) c_87)))
                  · exact hno Y2 (by omega) q)
              · skip
                refine ab_iconst (v := nI 1) dX12_isTouching_102 (by decide) ?_
                refine ab_retb (x := true) dX12_isTouching_103 ?_
                first | exact absurd rfl c_99 | exact ⟨rfl, iff_of_true rfl ⟨X, Y, hX, hY, by first | exact Or.inl (ht_t1.mp c_36) | exact Or.inr (Or.inl (ht_t2.mp c_53)) | exact Or.inr (Or.inr (Or.inl (ht_t3.mp c_70))) | exact Or.inr (Or.inr (Or.inr (ht_t4.mp c_87)))⟩⟩
            · skip
              refine ab_iconst (v := nI 1) dX12_isTouching_90 (by decide) ?_
              refine ab_goto 95 dX12_isTouching_91 (by decide) ?_
              refine ab_sti (ls' := [_, _, _, _, _, _]) dX12_isTouching_95 (by decide) rfl ?_
              refine ab_iload dX12_isTouching_97 rfl ?_
              refine ab_nif_eq 104 dX12_isTouching_99 (by decide) (by omega) (fun c_99 => ?_) (fun c_99 => ?_)
              · skip
                refine ab_nincR (ls' := [_, _, _, _, _, _]) dX12_isTouching_104 rfl rfl ?_
                refine ab_goto 13 dX12_isTouching_107 (by decide) ?_
                first | exact absurd c_99 (by decide) | exact ih (Y + 1) _ (by omega) (fun Y2 h2 q => by
                  by_cases e : Y2 = Y
                  · subst e; exact q.elim (fun q => ab_tf (ht_t1.mpr q) c_36) (fun q => q.elim (fun q => ab_tf (ht_t2.mpr q) c_53) (fun q => q.elim (fun q => ab_tf (ht_t3.mpr q) c_70) (fun q => ab_tf (ht_t4.mpr q) c_87)))
                  · exact hno Y2 (by omega) q)
              · skip
                refine ab_iconst (v := nI 1) dX12_isTouching_102 (by decide) ?_
                refine ab_retb (x := true) dX12_isTouching_103 ?_
                first | exact absurd rfl c_99 | exact ⟨rfl, iff_of_true rfl ⟨X, Y, hX, hY, by first | exact Or.inl (ht_t1.mp c_36) | exact Or.inr (Or.inl (ht_t2.mp c_53)) | exact Or.inr (Or.inr (Or.inl (ht_t3.mp c_70))) | exact Or.inr (Or.inr (Or.inr (ht_t4.mp c_87)))⟩⟩
set_option maxRecDepth 100000 in
set_option maxHeartbeats 4000000 in
theorem lp_mTouchOut {k b n hx hy i c : Nat} {h : ab_H} (hk : 3 ≤ k) (hM : at_M (ab_sh h) (ab_r h)) (hD : bd_Mo n hx hy h) : ∀ (j X : Nat) (a4 a5 : Option Value), X + j = 2 ^ n → (∀ X2, X2 < X → ∀ Y, Y < 2 ^ n → ¬ bd_adjAt n hx hy i c X2 Y) → ab_R k b mX12_isTouching 2 [some (.ref 50), some (.int (nI i)), some (.int (nI c)), some (.int (nI X)), a4, a5] [] h (ab_pb (fun t h' => h' = h ∧ (t = true ↔ bd_adj n hx hy i c))) := by
  intro j
  induction j with
  | zero =>
    intro X a4 a5 hX hno
    have hb85 := bd_n_le n hD.n4
    have hpw := bd_pow4 hD.n4
    have hpo := bd_pos n
    obtain rfl : X = 2 ^ n := by omega
    refine ab_iload_n dX12_isTouching_2 rfl ?_
    refine ab_aload_n dX12_isTouching_3 rfl ?_
    refine ab_callVn [] dX12_isTouching_4 ml_X12_119 mk_X12_side hM.hs (m_side (k := 0) (b := 0) hM hD.f1 hD.n4) (fun x h1 hq => ?_)
    obtain ⟨hhe, rfl⟩ := hq
    rw [hhe]
    refine ab_nicmp_ge 116 dX12_isTouching_7 (by decide) (by omega) (by omega) (fun c_7 => ?_) (fun c_7 => ?_)
    · skip
      refine ab_iconst (v := nI 0) dX12_isTouching_116 (by decide) ?_
      refine ab_retb (x := false) dX12_isTouching_117 ?_
      exact ⟨rfl, iff_of_false Bool.false_ne_true (fun ⟨X, Y, hX, hY, q⟩ => hno X hX Y hY q)⟩
    · skip
      exact absurd (Nat.le_refl _) c_7
  | succ j ih =>
    intro X a4 a5 hXj hno
    have hb85 := bd_n_le n hD.n4
    have hpw := bd_pow4 hD.n4
    have hpo := bd_pos n
    have hX : X < 2 ^ n := by omega
    refine ab_iload_n dX12_isTouching_2 rfl ?_
    refine ab_aload_n dX12_isTouching_3 rfl ?_
    refine ab_callVn [] dX12_isTouching_4 ml_X12_119 mk_X12_side hM.hs (m_side (k := 0) (b := 0) hM hD.f1 hD.n4) (fun x h1 hq => ?_)
    obtain ⟨hhe, rfl⟩ := hq
    rw [hhe]
    refine ab_nicmp_ge 116 dX12_isTouching_7 (by decide) (by omega) (by omega) (fun c_7 => ?_) (fun c_7 => ?_)
    · skip
      exact absurd c_7 (by omega)
    · skip
      refine ab_iconst (v := nI 0) dX12_isTouching_10 (by decide) ?_
      refine ab_sti (ls' := [_, _, _, _, _, _]) dX12_isTouching_11 (by decide) rfl ?_
      refine lp_mTouchIn hk hM hD hX (fun b5 hno2 => ?_) (2 ^ n) 0 a5 (by omega) (fun Y h2 => absurd h2 (Nat.not_lt_zero Y))
      refine ab_nincR (ls' := [_, _, _, _, _, _]) dX12_isTouching_110 rfl rfl ?_
      refine ab_goto 2 dX12_isTouching_113 (by decide) ?_
      exact ih (X + 1) _ _ (by omega) (fun X2 h2 Y hY q => by
        by_cases e : X2 = X
        · subst e; exact hno2 Y hY q
        · exact hno X2 (by omega) Y hY q)
set_option maxRecDepth 100000 in
set_option maxHeartbeats 4000000 in
theorem m_isTouching {k b n hx hy i c : Nat} {h : ab_H} (hk : 3 ≤ k) (hM : at_M (ab_sh h) (ab_r h)) (hD : bd_Mo n hx hy h) : ab_M k b mX12_isTouching [.ref 50, .int (nI i), .int (nI c)] h (ab_pb (fun t h' => h' = h ∧ (t = true ↔ bd_adj n hx hy i c))) := by
  refine ab_enter ?_
  refine ab_iconst (v := nI 0) dX12_isTouching_0 (by decide) ?_
  refine ab_sti_n (ls' := [_, _, _, _, _, _]) dX12_isTouching_1 (by decide) rfl ?_
  exact lp_mTouchOut hk hM hD (2 ^ n) 0 none none (by omega) (fun X h2 => absurd h2 (Nat.not_lt_zero X))
