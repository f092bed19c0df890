/-! ===== the model: what stays ===== -/
def ab_fM (S K : List Nat) (h h' : ab_H) : Prop := ab_n h' = ab_n h ∧ ab_sh h' = ab_sh h ∧ ab_r h' = ab_r h ∧ ab_e h' = ab_e h ∧ (∀ a, a ≠ 50 → a ∉ S → ab_i h' a = ab_i h a ∧ ab_l h' a = ab_l h a) ∧ ∀ k, k ∉ K → ab_i h' 50 k = ab_i h 50 k
theorem ab_fM.rf {S K : List Nat} (h : ab_H) : ab_fM S K h h := ⟨rfl, rfl, rfl, rfl, fun _ _ _ => ⟨rfl, rfl⟩, fun _ _ => rfl⟩
theorem ab_fM.trans {S K S' K' : List Nat} {h h1 h2 : ab_H} (f : ab_fM S K h h1) (g : ab_fM S' K' h1 h2) (hs : ∀ a, a ∈ S' → a ∈ S) (hk : ∀ a, a ∈ K' → a ∈ K) : ab_fM S K h h2 :=
  ⟨g.1.trans f.1, g.2.1.trans f.2.1, g.2.2.1.trans f.2.2.1, g.2.2.2.1.trans f.2.2.2.1, fun a h0 ha => ⟨(g.2.2.2.2.1 a h0 (fun q => ha (hs a q))).1.trans (f.2.2.2.2.1 a h0 ha).1, (g.2.2.2.2.1 a h0 (fun q => ha (hs a q))).2.trans (f.2.2.2.2.1 a h0 ha).2⟩, fun k hq => (g.2.2.2.2.2 k (fun q => hq (hk k q))).trans (f.2.2.2.2.2 k hq)⟩
theorem ab_fM.mono {S K S' K' : List Nat} {h h1 : ab_H} (f : ab_fM S' K' h h1) (hs : ∀ a, a ∈ S' → a ∈ S) (hk : ∀ a, a ∈ K' → a ∈ K) : ab_fM S K h h1 := (ab_fM.rf h).trans f hs hk
theorem ab_fM.of {S K : List Nat} {h h1 : ab_H} (f : ab_fr S h h1) (h50 : 50 ∉ S) : ab_fM S K h h1 := ⟨f.1, f.2.1, f.2.2.1, f.2.2.2.1, fun a _ ha => f.2.2.2.2 a ha, fun k _ => congrFun (f.2.2.2.2 50 h50).1 k⟩
theorem ab_fM.ofL {S K : List Nat} {h h1 : ab_H} (f : ab_fL h h1) : ab_fM S K h h1 := ⟨f.1, f.2.1, f.2.2.2.1, f.2.2.2.2.1, fun a h0 _ => ⟨by rw [f.2.2.1], f.2.2.2.2.2 a h0⟩, fun k _ => by rw [f.2.2.1]⟩
theorem ab_fM.si {S K : List Nat} {h h1 : ab_H} (f : ab_fM S K h h1) {a : Nat} (k : Nat) (v : Int32) (ha : a ∈ S) (h50 : a ≠ 50) : ab_fM S K h (ab_si h1 a k v) := ⟨f.1, f.2.1, f.2.2.1, f.2.2.2.1, fun c h0 hc => ⟨(ab_i_off (fun q => hc (by rw [q]; exact ha))).trans (f.2.2.2.2.1 c h0 hc).1, (f.2.2.2.2.1 c h0 hc).2⟩, fun j hj => (congrFun (ab_i_off (fun q => h50 q.symm)) j).trans (f.2.2.2.2.2 j hj)⟩
theorem ab_fM.s50 {S K : List Nat} {h h1 : ab_H} (f : ab_fM S K h h1) {k : Nat} (v : Int32) (hk : k ∈ K) : ab_fM S K h (ab_si h1 50 k v) := ⟨f.1, f.2.1, f.2.2.1, f.2.2.2.1, fun c h0 hc => ⟨(ab_i_off h0).trans (f.2.2.2.2.1 c h0 hc).1, (f.2.2.2.2.1 c h0 hc).2⟩, fun j hj => (congrFun (ab_i_at h1 50 k v) j).trans ((ab_up_ne _ _ (fun q => hj (by rw [q]; exact hk))).trans (f.2.2.2.2.2 j hj))⟩
theorem at_M.fM {S K : List Nat} {h h1 : ab_H} (f : ab_fM S K h h1) (H : at_M (ab_sh h) (ab_r h)) : at_M (ab_sh h1) (ab_r h1) := by rw [f.2.1, f.2.2.1]; exact H
theorem bd_Mo.fM {S K : List Nat} {n hx hy : Nat} {h h1 : ab_H} (f : ab_fM S K h h1) (hS : ∀ a, 52 ≤ a → a ≤ 56 → a ∉ S) (hK : ∀ k, 1 ≤ k → k ≤ 4 → k ∉ K) (H : bd_Mo n hx hy h) : bd_Mo n hx hy h1 := by
  have e : ∀ a, 52 ≤ a → a ≤ 56 → ab_i h1 a = ab_i h a := fun a h1 h2 => (f.2.2.2.2.1 a (by omega) (hS a h1 h2)).1
  unfold bd_Mo
  rw [e 52 (by omega) (by omega), e 53 (by omega) (by omega), e 54 (by omega) (by omega), e 55 (by omega) (by omega), e 56 (by omega) (by omega), f.2.2.2.2.2 1 (hK 1 (by omega) (by omega)), f.2.2.2.2.2 2 (hK 2 (by omega) (by omega)), f.2.2.2.2.2 3 (hK 3 (by omega) (by omega)), f.2.2.2.2.2 4 (hK 4 (by omega) (by omega))]
  exact H
theorem sh_M.fM {S K : List Nat} {s : sS} {h h1 : ab_H} (f : ab_fM S K h h1) (hS : ∀ a, 62 ≤ a → a ≤ 64 → a ∉ S) (h15 : 15 ∉ K) (h17 : 17 ∉ K) (H : sh_M s h) : sh_M s h1 := by
  have e : ∀ a, 62 ≤ a → a ≤ 64 → ab_i h1 a = ab_i h a := fun a h1 h2 => (f.2.2.2.2.1 a (by omega) (hS a h1 h2)).1
  unfold sh_M
  rw [e 62 (by omega) (by omega), e 63 (by omega) (by omega), e 64 (by omega) (by omega), f.2.2.2.2.2 15 h15, f.2.2.2.2.2 17 h17]
  exact H
/-! ===== the model: laying anew, as it leaves the rest ===== -/
set_option maxRecDepth 100000 in
set_option maxHeartbeats 4000000 in
theorem m_lays2 {k b n hx hy : Nat} {h : ab_H} (hk : 5 ≤ k) (hM : at_M (ab_sh h) (ab_r h)) (hn : n ≤ 4) (hX : hx < 2 ^ n) (hY : hy < 2 ^ n) : ab_M k b mX12_lays [.ref 50, .int (nI n), .int (nI hx), .int (nI hy)] h (ab_pv (fun h' => ab_fM [52, 53, 54, 55, 56] [1, 2, 3, 4] h h' ∧ bd_Mo n hx hy h')) := by
  have hpw := bd_pow4 hn
  refine ab_enter ?_
  refine ab_aload_n dX12_lays_0 rfl ?_
  refine ab_iload_n dX12_lays_1 rfl ?_
  refine ab_putI dX12_lays_2 fl_X12_29 hM.hs ?_
  refine ab_aload_n dX12_lays_5 rfl ?_
  refine ab_iload_n dX12_lays_6 rfl ?_
  refine ab_putI dX12_lays_7 fl_X12_127 hM.hs ?_
  refine ab_aload_n dX12_lays_10 rfl ?_
  refine ab_iload_n dX12_lays_11 rfl ?_
  refine ab_putI dX12_lays_12 fl_X12_130 hM.hs ?_
  refine ab_aload_n dX12_lays_15 rfl ?_
  refine ab_iconst (v := nI 0) dX12_lays_16 (by decide) ?_
  refine ab_putI dX12_lays_17 fl_X12_133 hM.hs ?_
  refine ab_aload_n dX12_lays_20 rfl ?_
  refine ab_getR dX12_lays_21 fl_X12_33 hM.hs hM.p50_5 ?_
  refine ab_bipush (v := nI 16) dX12_lays_24 (by decide) ?_
  refine ab_iload_n dX12_lays_26 rfl ?_
  refine ab_nmulR dX12_lays_27 ?_
  refine ab_iload_n dX12_lays_28 rfl ?_
  refine ab_naddR dX12_lays_29 ?_
  refine ab_bipush (v := -9) dX12_lays_30 (by decide) ?_
  refine ab_iast dX12_lays_32 hM.s52 rfl (by omega) ?_
  obtain ⟨h5, e5, f5, g1, g2, g3, g4, g5, g6⟩ : ∃ h5, h5 = ab_si (ab_si (ab_si (ab_si (ab_si h 50 1 (nI n)) 50 2 (nI hx)) 50 3 (nI hy)) 50 4 (nI 0)) 52 (16 * hy + hx) (-9) ∧ ab_fM [52, 53, 54, 55, 56] [1, 2, 3, 4] h h5 ∧ ab_i h5 50 1 = nI n ∧ ab_i h5 50 2 = nI hx ∧ ab_i h5 50 3 = nI hy ∧ ab_i h5 50 4 = nI 0 ∧ ab_i h5 52 (16 * hy + hx) = -9 ∧ ab_fr [50, 52, 53, 54, 55, 56] h h5 := ⟨_, rfl, (((((ab_fM.rf h).s50 _ (by simp)).s50 _ (by simp)).s50 _ (by simp)).s50 _ (by simp)).si _ _ (by simp) (by decide), by rw [ab_i_off (by decide), ab_i_at, ab_up_ne _ _ (by decide), ab_i_at, ab_up_ne _ _ (by decide), ab_i_at, ab_up_ne _ _ (by decide), ab_i_at, ab_up_self], by rw [ab_i_off (by decide), ab_i_at, ab_up_ne _ _ (by decide), ab_i_at, ab_up_ne _ _ (by decide), ab_i_at, ab_up_self], by rw [ab_i_off (by decide), ab_i_at, ab_up_ne _ _ (by decide), ab_i_at, ab_up_self], by rw [ab_i_off (by decide), ab_i_at, ab_up_self], by rw [ab_i_at, ab_up_self], (((((ab_fr.rf h).si _ _ _ (by simp)).si _ _ _ (by simp)).si _ _ _ (by simp)).si _ _ _ (by simp)).si _ _ _ (by simp)⟩
  rw [← e5]
  have hM1 := at_M.fM f5 hM
  refine ab_aload_n dX12_lays_33 rfl ?_
  refine ab_iconst (v := nI 0) dX12_lays_34 (by decide) ?_
  refine ab_iconst (v := nI 0) dX12_lays_35 (by decide) ?_
  refine ab_aload_n dX12_lays_36 rfl ?_
  refine ab_callVn [] dX12_lays_37 ml_X12_119 mk_X12_side hM1.hs (m_side (k := 0) (b := 0) hM1 g1 hn) (fun x h1 hq => ?_)
  obtain ⟨hhe, rfl⟩ := hq
  rw [hhe]
  refine ab_iload_n dX12_lays_40 rfl ?_
  refine ab_iload_n dX12_lays_41 rfl ?_
  refine ab_callVv [_, _, _, _, _] dX12_lays_42 ml_X12_136 mk_X12_cuts hM1.hs (m_cuts n (k := n) (b := 0) (x := 0) (y := 0) (mx := hx) (my := hy) (p := 0) (Nat.le_refl _) hM1 g4 hn (by omega) (by omega) ⟨by omega, by omega, by omega, by omega⟩ (by have := bd_n_le n hn; omega)) (fun h2 hq => ?_)
  refine ab_retv dX12_lays_45 ?_
  refine ⟨f5.trans ⟨hq.1.1, hq.1.2.1, hq.1.2.2.1, hq.1.2.2.2.1, fun a h0 ha => hq.1.2.2.2.2 a (fun q => (List.mem_cons.mp q).elim h0 ha), fun k hk9 => hq.2.1 k (fun q => hk9 (by rw [q]; simp))⟩ (fun _ q => q) (fun _ q => q), bd_Mo_cut hn hX hY g1 g2 g3 g5 hq⟩
set_option maxRecDepth 100000 in
set_option maxHeartbeats 4000000 in
theorem m_board2 {k b : Nat} {h : ab_H} {p x y : Int32} (hk : 6 ≤ k) (hM : at_M (ab_sh h) (ab_r h)) : ab_M k b mX12_board [.ref 50, .int p, .int x, .int y] h (ab_pi (ab_oK 51 (fun h' => ab_fM [52, 53, 54, 55, 56] [1, 2, 3, 4] h h' ∧ bd_Mo p.toNatClampNeg x.toNatClampNeg y.toNatClampNeg h') h (sp_board p x y))) := by
  refine ab_enter ?_
  refine ab_iload_n dX12_board_0 rfl ?_
  refine ab_if_ge 11 dX12_board_1 (by decide) (fun c_1 => ?_) (fun c_1 => ?_)
  · skip
    refine ab_iload_n dX12_board_11 rfl ?_
    refine ab_iconst (v := nI 4) dX12_board_12 (by decide) ?_
    refine ab_icmp_le 23 dX12_board_13 (by decide) (fun c_13 => ?_) (fun c_13 => ?_)
    · skip
      obtain ⟨n, rfl, hn31⟩ := ab_of0 c_1
      have hn : n ≤ 4 := by have q := (ab_Nle (n := 4) (by omega)).mp c_13; rw [nI_toInt hn31] at q; omega
      have hpw := bd_pow4 hn
      refine ab_iload_n dX12_board_23 rfl ?_
      refine ab_i2l dX12_board_24 ?_
      refine ab_lconst (v := 0) dX12_board_25 (by decide) ?_
      refine ab_iconst (v := nI 1) dX12_board_26 (by decide) ?_
      refine ab_iload_n dX12_board_27 rfl ?_
      refine ab_nshlR dX12_board_28 (by omega) ?_
      rw [ab_1shl]
      refine ab_iconst (v := nI 1) dX12_board_29 (by decide) ?_
      refine ab_nsubR dX12_board_30 (bd_pos n) ?_
      refine ab_i2l dX12_board_31 ?_
      refine ab_callSb [_, _, _] dX12_board_32 ml_X12_123 mk_X12_isIn (m_isIn (k := 0) (b := 0) (Int32.toInt_toInt64 _) (lo := 0) (by decide) (bd_side64 n hn)) (fun t1 hh_t1 hq_t1 => ?_)
      obtain ⟨hhe_t1, rfl⟩ := hq_t1
      rw [hhe_t1]
      refine ab_bif_eq 53 dX12_board_35 (by decide) (fun c_35 => ?_) (fun c_35 => ?_)
      · skip
        refine ab_aload_n dX12_board_53 rfl ?_
        refine ab_iconst (v := -1) dX12_board_54 (by decide) ?_
        refine ab_callVi [_] dX12_board_55 ml_X12_9 mk_X12_refused hM.hs (m_refused (k := 0) (b := 0) (c := 1) hM (by decide) (by omega) (by omega)) (fun v1 hh1 hq => ?_)
        obtain ⟨hv, hh⟩ := hq
        refine ab_reti dX12_board_58 ?_
        exact ab_oK_no (by unfold sp_board; rw [if_neg (by rw [nI_toInt hn31]; omega), if_neg (by rw [nI_toInt hn31]; omega), nI_clamp hn31]; rw [if_neg (fun q => by unfold bd_isc ab_inr at q; rw [Bool.and_eq_true] at q; first | exact ab_tf q.1 c_35 | exact ab_tf q.2 c_50)]) hv hh
      · skip
        refine ab_iload_n dX12_board_38 rfl ?_
        refine ab_i2l dX12_board_39 ?_
        refine ab_lconst (v := 0) dX12_board_40 (by decide) ?_
        refine ab_iconst (v := nI 1) dX12_board_41 (by decide) ?_
        refine ab_iload_n dX12_board_42 rfl ?_
        refine ab_nshlR dX12_board_43 (by omega) ?_
        rw [ab_1shl]
        refine ab_iconst (v := nI 1) dX12_board_44 (by decide) ?_
        refine ab_nsubR dX12_board_45 (bd_pos n) ?_
        refine ab_i2l dX12_board_46 ?_
        refine ab_callSb [_, _, _] dX12_board_47 ml_X12_123 mk_X12_isIn (m_isIn (k := 0) (b := 0) (Int32.toInt_toInt64 _) (lo := 0) (by decide) (bd_side64 n hn)) (fun t2 hh_t2 hq_t2 => ?_)
        obtain ⟨hhe_t2, rfl⟩ := hq_t2
        rw [hhe_t2]
        refine ab_bif_ne 59 dX12_board_50 (by decide) (fun c_50 => ?_) (fun c_50 => ?_)
        · skip
          have hin : bd_isc n x y = true := by unfold bd_isc ab_inr; rw [Bool.and_eq_true]; exact ⟨c_35, c_50⟩
          clear c_35 c_50
          obtain ⟨X, Y, rfl, rfl, hX, hY, hX1, hY1⟩ := bd_isc_nat hin
          refine ab_aload_n dX12_board_59 rfl ?_
          refine ab_iload_n dX12_board_60 rfl ?_
          refine ab_iload_n dX12_board_61 rfl ?_
          refine ab_iload_n dX12_board_62 rfl ?_
          refine ab_callVv [_, _, _] dX12_board_63 ml_X12_112 mk_X12_lays hM.hs (m_lays2 (k := 5) (b := 0) (Nat.le_refl _) hM hn hX hY) (fun h1 hq => ?_)
          have hM1 := at_M.fM hq.1 hM
          refine ab_aload_n dX12_board_66 rfl ?_
          refine ab_getI dX12_board_67 fl_X12_133 hM1.hs hq.2.f4 ?_
          refine ab_reti dX12_board_70 ?_
          exact ab_oK_ok (by unfold sp_board; rw [if_neg (by rw [nI_toInt hn31]; omega), if_neg (by rw [nI_toInt hn31]; omega), nI_clamp hn31]; rw [if_pos hin]) (by rw [nI_clamp hn31, nI_clamp hX1, nI_clamp hY1]; exact hq)
        · skip
          refine ab_aload_n dX12_board_53 rfl ?_
          refine ab_iconst (v := -1) dX12_board_54 (by decide) ?_
          refine ab_callVi [_] dX12_board_55 ml_X12_9 mk_X12_refused hM.hs (m_refused (k := 0) (b := 0) (c := 1) hM (by decide) (by omega) (by omega)) (fun v1 hh1 hq => ?_)
          obtain ⟨hv, hh⟩ := hq
          refine ab_reti dX12_board_58 ?_
          exact ab_oK_no (by unfold sp_board; rw [if_neg (by rw [nI_toInt hn31]; omega), if_neg (by rw [nI_toInt hn31]; omega), nI_clamp hn31]; rw [if_neg (fun q => by unfold bd_isc ab_inr at q; rw [Bool.and_eq_true] at q; first | exact ab_tf q.1 c_35 | exact ab_tf q.2 c_50)]) hv hh
    · skip
      refine ab_aload_n dX12_board_16 rfl ?_
      refine ab_bipush (v := -6) dX12_board_17 (by decide) ?_
      refine ab_callVi [_] dX12_board_19 ml_X12_9 mk_X12_refused hM.hs (m_refused (k := 0) (b := 0) (c := 6) hM (by decide) (by omega) (by omega)) (fun v1 hh1 hq => ?_)
      obtain ⟨hv, hh⟩ := hq
      refine ab_reti dX12_board_22 ?_
      exact ab_oK_no (by unfold sp_board; rw [if_neg (by have := ab_ge0.mp c_1; omega), if_pos (by have := mt (ab_Nle (n := 4) (by omega)).mpr c_13; omega)]) hv hh
  · skip
    refine ab_aload_n dX12_board_4 rfl ?_
    refine ab_bipush (v := -4) dX12_board_5 (by decide) ?_
    refine ab_callVi [_] dX12_board_7 ml_X12_9 mk_X12_refused hM.hs (m_refused (k := 0) (b := 0) (c := 4) hM (by decide) (by omega) (by omega)) (fun v1 hh1 hq => ?_)
    obtain ⟨hv, hh⟩ := hq
    refine ab_reti dX12_board_10 ?_
    exact ab_oK_no (by unfold sp_board; rw [if_pos (by have := mt ab_ge0.mpr c_1; omega)]) hv hh
/-! ===== the model: a point, a triangle comes ===== -/
theorem ab_4 (h : ab_H) (a j0 : Nat) (v0 v1 v2 v3 : Int32) (j : Nat) : ab_i (ab_si (ab_si (ab_si (ab_si h a j0 v0) a (j0 + 1) v1) a (j0 + 2) v2) a (j0 + 3) v3) a j = if j = j0 + 3 then v3 else if j = j0 + 2 then v2 else if j = j0 + 1 then v1 else if j = j0 then v0 else ab_i h a j := by rw [ab_i_si_same, ab_i_si_same, ab_i_si_same, ab_i_si_same]
theorem ab_3 (h : ab_H) (a j0 : Nat) (v0 v1 v2 : Int32) (j : Nat) : ab_i (ab_si (ab_si (ab_si h a j0 v0) a (j0 + 1) v1) a (j0 + 2) v2) a j = if j = j0 + 2 then v2 else if j = j0 + 1 then v1 else if j = j0 then v0 else ab_i h a j := by rw [ab_i_si_same, ab_i_si_same, ab_i_si_same]
theorem sh_M.addP {s : sS} {X Y : Nat} {h : ab_H} (H : sh_M s h) (h10 : s.1 < 10) (hX : X < 10000 ∧ X % 100 ≠ 0) (hY : Y < 10000 ∧ Y % 100 ≠ 0) : sh_M (sP s X Y) (ab_si (ab_si (ab_si (ab_si (ab_si h 62 (4 * s.1) (nI (X / 100))) 62 (4 * s.1 + 1) (nI (X % 100))) 62 (4 * s.1 + 2) (nI (Y / 100))) 62 (4 * s.1 + 3) (nI (Y % 100))) 50 15 (nI (s.1 + 1))) := by
  have a0 : ∀ a k v (h9 : ab_H), a ≠ 62 → ab_i (ab_si h9 62 k v) a = ab_i h9 a := fun a k v h9 q => ab_i_off q
  refine ⟨sP_W H.W h10 hX hY, ?_, ?_, ?_, ?_⟩
  · rw [ab_i_at, ab_up_self]; rfl
  · rw [ab_i_at, ab_up_ne _ _ (by decide), a0 _ _ _ _ (by decide), a0 _ _ _ _ (by decide), a0 _ _ _ _ (by decide), a0 _ _ _ _ (by decide)]; exact H.nt
  · intro i e hi he
    have hi : i < s.1 + 1 := hi
    rw [ab_i_off (by decide), ab_4, ab_4]
    show _ = nI (cX (ab_up s.2.1 s.1 (X, Y) i) e / 100) ∧ _ = nI (cX (ab_up s.2.1 s.1 (X, Y) i) e % 100)
    by_cases c : i = s.1
    · rw [c, ab_up_self]
      rcases (show e = 0 ∨ e = 1 by omega) with rfl | rfl
      · exact ⟨by rw [if_neg (by omega), if_neg (by omega), if_neg (by omega), if_pos (by omega)]; rfl, by rw [if_neg (by omega), if_neg (by omega), if_pos (by omega)]; rfl⟩
      · exact ⟨by rw [if_neg (by omega), if_pos (by omega)]; rfl, by rw [if_pos (by omega)]; rfl⟩
    · rw [ab_up_ne _ _ c]
      exact ⟨by rw [if_neg (by omega), if_neg (by omega), if_neg (by omega), if_neg (by omega)]; exact (H.nu (by omega) he).1, by rw [if_neg (by omega), if_neg (by omega), if_neg (by omega), if_neg (by omega)]; exact (H.nu (by omega) he).2⟩
  · intro i hi
    have hi : i < s.2.2.1 := hi
    have q := H.tr hi
    have r : ∀ a, a ≠ 50 → a ≠ 62 → ab_i (ab_si (ab_si (ab_si (ab_si (ab_si h 62 (4 * s.1) (nI (X / 100))) 62 (4 * s.1 + 1) (nI (X % 100))) 62 (4 * s.1 + 2) (nI (Y / 100))) 62 (4 * s.1 + 3) (nI (Y % 100))) 50 15 (nI (s.1 + 1))) a = ab_i h a := fun a q1 q2 => by rw [ab_i_off q1, ab_i_off q2, ab_i_off q2, ab_i_off q2, ab_i_off q2]
    rw [r 63 (by decide) (by decide), r 64 (by decide) (by decide)]
    exact q
theorem sh_M.addT {s : sS} {k a b c : Nat} {h : ab_H} (H : sh_M s h) (h10 : s.2.2.1 < 10) (hk : k < 6) (ha : a < s.1) (hb : b < s.1) (hc : c < s.1) : sh_M (sT s k a b c) (ab_si (ab_si (ab_si (ab_si (ab_si h 63 s.2.2.1 (nI k)) 64 (3 * s.2.2.1) (nI a)) 64 (3 * s.2.2.1 + 1) (nI b)) 64 (3 * s.2.2.1 + 2) (nI c)) 50 17 (nI (s.2.2.1 + 1))) := by
  have a0 : ∀ a k v (h9 : ab_H), a ≠ 64 → ab_i (ab_si h9 64 k v) a = ab_i h9 a := fun a k v h9 q => ab_i_off q
  have a1 : ∀ a k v (h9 : ab_H), a ≠ 63 → ab_i (ab_si h9 63 k v) a = ab_i h9 a := fun a k v h9 q => ab_i_off q
  refine ⟨sT_W H.W h10 hk ha hb hc, ?_, ?_, ?_, ?_⟩
  · rw [ab_i_at, ab_up_ne _ _ (by decide), a0 _ _ _ _ (by decide), a0 _ _ _ _ (by decide), a0 _ _ _ _ (by decide), a1 _ _ _ _ (by decide)]; exact H.np
  · rw [ab_i_at, ab_up_self]; rfl
  · intro i e hi he
    have q := H.nu (i := i) hi he
    rw [ab_i_off (by decide), a0 _ _ _ _ (by decide), a0 _ _ _ _ (by decide), a0 _ _ _ _ (by decide), a1 _ _ _ _ (by decide)]
    exact q
  · intro i hi
    have hi : i < s.2.2.1 + 1 := hi
    show _ = nI (ab_up s.2.2.2 s.2.2.1 (k, a, b, c) i).1 ∧ _ = nI (ab_up s.2.2.2 s.2.2.1 (k, a, b, c) i).2.1 ∧ _ = nI (ab_up s.2.2.2 s.2.2.1 (k, a, b, c) i).2.2.1 ∧ _ = nI (ab_up s.2.2.2 s.2.2.1 (k, a, b, c) i).2.2.2
    have r63 : ab_i (ab_si (ab_si (ab_si (ab_si (ab_si h 63 s.2.2.1 (nI k)) 64 (3 * s.2.2.1) (nI a)) 64 (3 * s.2.2.1 + 1) (nI b)) 64 (3 * s.2.2.1 + 2) (nI c)) 50 17 (nI (s.2.2.1 + 1))) 63 = ab_up (ab_i h 63) s.2.2.1 (nI k) := by
      rw [ab_i_off (by decide), a0 _ _ _ _ (by decide), a0 _ _ _ _ (by decide), a0 _ _ _ _ (by decide), ab_i_at]
    have r64 : ∀ j, ab_i (ab_si (ab_si (ab_si (ab_si (ab_si h 63 s.2.2.1 (nI k)) 64 (3 * s.2.2.1) (nI a)) 64 (3 * s.2.2.1 + 1) (nI b)) 64 (3 * s.2.2.1 + 2) (nI c)) 50 17 (nI (s.2.2.1 + 1))) 64 j = if j = 3 * s.2.2.1 + 2 then nI c else if j = 3 * s.2.2.1 + 1 then nI b else if j = 3 * s.2.2.1 then nI a else ab_i h 64 j := fun j => by
      rw [ab_i_off (by decide), ab_3, a1 _ _ _ _ (by decide)]
    rw [r63, r64, r64, r64]
    by_cases e : i = s.2.2.1
    · rw [e, ab_up_self, ab_up_self]
      exact ⟨rfl, by rw [if_neg (by omega), if_neg (by omega), if_pos rfl], by rw [if_neg (by omega), if_pos rfl], by rw [if_pos rfl]⟩
    · rw [ab_up_ne _ _ e, ab_up_ne _ _ e]
      obtain ⟨q1, q2, q3, q4⟩ := H.tr (i := i) (by omega)
      exact ⟨q1, by rw [if_neg (by omega), if_neg (by omega), if_neg (by omega)]; exact q2, by rw [if_neg (by omega), if_neg (by omega), if_neg (by omega)]; exact q3, by rw [if_neg (by omega), if_neg (by omega), if_neg (by omega)]; exact q4⟩
set_option maxRecDepth 100000 in
set_option maxHeartbeats 4000000 in
theorem m_comesPoint {k b X Y : Nat} {h : ab_H} {s : sS} (hM : at_M (ab_sh h) (ab_r h)) (hD : sh_M s h) (h10 : s.1 < 10) (hX : X < 10000 ∧ X % 100 ≠ 0) (hY : Y < 10000 ∧ Y % 100 ≠ 0) : ab_M k b mX12_comesPoint [.ref 50, .int (nI (X / 100)), .int (nI (X % 100)), .int (nI (Y / 100)), .int (nI (Y % 100))] h (ab_pv (fun h' => ab_fM [62] [15] h h' ∧ sh_M (sP s X Y) h')) := by
  refine ab_enter ?_
  refine ab_aload_n dX12_comesPoint_0 rfl ?_
  refine ab_getR dX12_comesPoint_1 fl_X12_64 hM.hs hM.p50_16 ?_
  refine ab_iconst (v := nI 4) dX12_comesPoint_4 (by decide) ?_
  refine ab_aload_n dX12_comesPoint_5 rfl ?_
  refine ab_getI dX12_comesPoint_6 fl_X12_207 hM.hs (show _ = nI s.1 by first | exact hD.np | ((repeat rw [ab_i_off (by decide)]); exact hD.np)) ?_
  refine ab_nmulR dX12_comesPoint_9 ?_
  refine ab_iload_n dX12_comesPoint_10 rfl ?_
  refine ab_iast dX12_comesPoint_11 hM.s62 rfl (by omega) ?_
  refine ab_aload_n dX12_comesPoint_12 rfl ?_
  refine ab_getR dX12_comesPoint_13 fl_X12_64 hM.hs hM.p50_16 ?_
  refine ab_iconst (v := nI 4) dX12_comesPoint_16 (by decide) ?_
  refine ab_aload_n dX12_comesPoint_17 rfl ?_
  refine ab_getI dX12_comesPoint_18 fl_X12_207 hM.hs (show _ = nI s.1 by first | exact hD.np | ((repeat rw [ab_i_off (by decide)]); exact hD.np)) ?_
  refine ab_nmulR dX12_comesPoint_21 ?_
  refine ab_iconst (v := nI 1) dX12_comesPoint_22 (by decide) ?_
  refine ab_naddR dX12_comesPoint_23 ?_
  refine ab_iload_n dX12_comesPoint_24 rfl ?_
  refine ab_iast dX12_comesPoint_25 hM.s62 rfl (by omega) ?_
  refine ab_aload_n dX12_comesPoint_26 rfl ?_
  refine ab_getR dX12_comesPoint_27 fl_X12_64 hM.hs hM.p50_16 ?_
  refine ab_iconst (v := nI 4) dX12_comesPoint_30 (by decide) ?_
  refine ab_aload_n dX12_comesPoint_31 rfl ?_
  refine ab_getI dX12_comesPoint_32 fl_X12_207 hM.hs (show _ = nI s.1 by first | exact hD.np | ((repeat rw [ab_i_off (by decide)]); exact hD.np)) ?_
  refine ab_nmulR dX12_comesPoint_35 ?_
  refine ab_iconst (v := nI 2) dX12_comesPoint_36 (by decide) ?_
  refine ab_naddR dX12_comesPoint_37 ?_
  refine ab_iload_n dX12_comesPoint_38 rfl ?_
  refine ab_iast dX12_comesPoint_39 hM.s62 rfl (by omega) ?_
  refine ab_aload_n dX12_comesPoint_40 rfl ?_
  refine ab_getR dX12_comesPoint_41 fl_X12_64 hM.hs hM.p50_16 ?_
  refine ab_iconst (v := nI 4) dX12_comesPoint_44 (by decide) ?_
  refine ab_aload_n dX12_comesPoint_45 rfl ?_
  refine ab_getI dX12_comesPoint_46 fl_X12_207 hM.hs (show _ = nI s.1 by first | exact hD.np | ((repeat rw [ab_i_off (by decide)]); exact hD.np)) ?_
  refine ab_nmulR dX12_comesPoint_49 ?_
  refine ab_iconst (v := nI 3) dX12_comesPoint_50 (by decide) ?_
  refine ab_naddR dX12_comesPoint_51 ?_
  refine ab_iload dX12_comesPoint_52 rfl ?_
  refine ab_iast dX12_comesPoint_54 hM.s62 rfl (by omega) ?_
  refine ab_aload_n dX12_comesPoint_55 rfl ?_
  refine ab_dup dX12_comesPoint_56 rfl ?_
  refine ab_getI dX12_comesPoint_57 fl_X12_207 hM.hs (show _ = nI s.1 by first | exact hD.np | ((repeat rw [ab_i_off (by decide)]); exact hD.np)) ?_
  refine ab_iconst (v := nI 1) dX12_comesPoint_60 (by decide) ?_
  refine ab_naddR dX12_comesPoint_61 ?_
  refine ab_putI dX12_comesPoint_62 fl_X12_207 hM.hs ?_
  refine ab_retv dX12_comesPoint_65 ?_
  exact ⟨((((ab_fM.rf h).si _ _ (by simp) (by decide)).si _ _ (by simp) (by decide)).si _ _ (by simp) (by decide)).si _ _ (by simp) (by decide) |>.s50 _ (by simp), hD.addP h10 hX hY⟩
set_option maxRecDepth 100000 in
set_option maxHeartbeats 4000000 in
theorem m_comesTriangle {k b kd ia ib ic : Nat} {h : ab_H} {s : sS} (hM : at_M (ab_sh h) (ab_r h)) (hD : sh_M s h) (h10 : s.2.2.1 < 10) (hk6 : kd < 6) (ha : ia < s.1) (hb : ib < s.1) (hc : ic < s.1) : ab_M k b mX12_comesTriangle [.ref 50, .int (nI kd), .int (nI ia), .int (nI ib), .int (nI ic)] h (ab_pv (fun h' => ab_fM [63, 64] [17] h h' ∧ sh_M (sT s kd ia ib ic) h')) := by
  refine ab_enter ?_
  refine ab_aload_n dX12_comesTriangle_0 rfl ?_
  refine ab_getR dX12_comesTriangle_1 fl_X12_67 hM.hs hM.p50_18 ?_
  refine ab_aload_n dX12_comesTriangle_4 rfl ?_
  refine ab_getI dX12_comesTriangle_5 fl_X12_238 hM.hs (show _ = nI s.2.2.1 by first | exact hD.nt | ((repeat rw [ab_i_off (by decide)]); exact hD.nt)) ?_
  refine ab_iload_n dX12_comesTriangle_8 rfl ?_
  refine ab_iast dX12_comesTriangle_9 hM.s63 rfl (by omega) ?_
  refine ab_aload_n dX12_comesTriangle_10 rfl ?_
  refine ab_getR dX12_comesTriangle_11 fl_X12_70 hM.hs hM.p50_19 ?_
  refine ab_iconst (v := nI 3) dX12_comesTriangle_14 (by decide) ?_
  refine ab_aload_n dX12_comesTriangle_15 rfl ?_
  refine ab_getI dX12_comesTriangle_16 fl_X12_238 hM.hs (show _ = nI s.2.2.1 by first | exact hD.nt | ((repeat rw [ab_i_off (by decide)]); exact hD.nt)) ?_
  refine ab_nmulR dX12_comesTriangle_19 ?_
  refine ab_iload_n dX12_comesTriangle_20 rfl ?_
  refine ab_iast dX12_comesTriangle_21 hM.s64 rfl (by omega) ?_
  refine ab_aload_n dX12_comesTriangle_22 rfl ?_
  refine ab_getR dX12_comesTriangle_23 fl_X12_70 hM.hs hM.p50_19 ?_
  refine ab_iconst (v := nI 3) dX12_comesTriangle_26 (by decide) ?_
  refine ab_aload_n dX12_comesTriangle_27 rfl ?_
  refine ab_getI dX12_comesTriangle_28 fl_X12_238 hM.hs (show _ = nI s.2.2.1 by first | exact hD.nt | ((repeat rw [ab_i_off (by decide)]); exact hD.nt)) ?_
  refine ab_nmulR dX12_comesTriangle_31 ?_
  refine ab_iconst (v := nI 1) dX12_comesTriangle_32 (by decide) ?_
  refine ab_naddR dX12_comesTriangle_33 ?_
  refine ab_iload_n dX12_comesTriangle_34 rfl ?_
  refine ab_iast dX12_comesTriangle_35 hM.s64 rfl (by omega) ?_
  refine ab_aload_n dX12_comesTriangle_36 rfl ?_
  refine ab_getR dX12_comesTriangle_37 fl_X12_70 hM.hs hM.p50_19 ?_
  refine ab_iconst (v := nI 3) dX12_comesTriangle_40 (by decide) ?_
  refine ab_aload_n dX12_comesTriangle_41 rfl ?_
  refine ab_getI dX12_comesTriangle_42 fl_X12_238 hM.hs (show _ = nI s.2.2.1 by first | exact hD.nt | ((repeat rw [ab_i_off (by decide)]); exact hD.nt)) ?_
  refine ab_nmulR dX12_comesTriangle_45 ?_
  refine ab_iconst (v := nI 2) dX12_comesTriangle_46 (by decide) ?_
  refine ab_naddR dX12_comesTriangle_47 ?_
  refine ab_iload dX12_comesTriangle_48 rfl ?_
  refine ab_iast dX12_comesTriangle_50 hM.s64 rfl (by omega) ?_
  refine ab_aload_n dX12_comesTriangle_51 rfl ?_
  refine ab_dup dX12_comesTriangle_52 rfl ?_
  refine ab_getI dX12_comesTriangle_53 fl_X12_238 hM.hs (show _ = nI s.2.2.1 by first | exact hD.nt | ((repeat rw [ab_i_off (by decide)]); exact hD.nt)) ?_
  refine ab_iconst (v := nI 1) dX12_comesTriangle_56 (by decide) ?_
  refine ab_naddR dX12_comesTriangle_57 ?_
  refine ab_putI dX12_comesTriangle_58 fl_X12_238 hM.hs ?_
  refine ab_retv dX12_comesTriangle_61 ?_
  exact ⟨((((ab_fM.rf h).si _ _ (by simp) (by decide)).si _ _ (by simp) (by decide)).si _ _ (by simp) (by decide)).si _ _ (by simp) (by decide) |>.s50 _ (by simp), hD.addT h10 hk6 ha hb hc⟩
