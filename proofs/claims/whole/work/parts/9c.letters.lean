/-! ===== letters, counts ===== -/
abbrev eS : Type := Nat × (Nat → Nat)
def le_C (e : eS) (h : ab_H) : Prop := e.1 ≤ 72 ∧ (∀ j, j < e.1 → e.2 j < 256) ∧ ab_i h 22 0 = nI e.1 ∧ ∀ j, j < e.1 → ab_i h 24 j = nI (e.2 j)
def le_M (e : eS) (h : ab_H) : Prop := e.1 ≤ 72 ∧ (∀ j, j < e.1 → e.2 j < 256) ∧ ab_i h 50 29 = nI e.1 ∧ ∀ j, j < e.1 → ab_i h 71 j = nI (e.2 j)
theorem le_C.gr {S T : List Nat} {e : eS} {h h1 : ab_H} (f : ab_gr S T h h1) (hb : ab_bs h) (n1 : 22 ∉ S) (n2 : 24 ∉ S) (H : le_C e h) : le_C e h1 := by
  unfold ab_bs at hb
  unfold le_C
  rw [((f.2.2 22 (by omega)).2.1 n1).1, ((f.2.2 24 (by omega)).2.1 n2).1]
  exact H
theorem le_M.fM {S K : List Nat} {e : eS} {h h1 : ab_H} (f : ab_fM S K h h1) (n1 : 29 ∉ K) (n2 : 71 ∉ S) (H : le_M e h) : le_M e h1 := by
  unfold le_M
  rw [f.2.2.2.2.2 29 n1, (f.2.2.2.2.1 71 (by decide) n2).1]
  exact H
def eU (e : eS) (c : Nat) : eS := (e.1 + 1, ab_up e.2 e.1 c)
def sp_letter (e : eS) (c : Int32) : Nat ⊕ Int32 := if c.toInt < 0 then .inl 4 else if 255 < c.toInt ∨ e.1 = 72 then .inl 6 else .inr (nI (e.1 + 1))
def sp_count (w : Int32) (rf : Nat → Int32) (n hx hy m : Nat) (s : sS) : Int32 := if ab_inr 11 16 w = true then rf (w.toNatClampNeg - 10) else if w = nI 0 then nI n else if w = nI 1 then nI s.1 else if w = nI 2 then nI s.2.2.1 else if w = nI 3 then nI m else if w = nI 4 then nI hx else if w = nI 5 then nI hy else -9
theorem eU_b {e : eS} {c : Nat} (hc : c < 256) (H : ∀ j, j < e.1 → e.2 j < 256) : ∀ j, j < e.1 + 1 → (eU e c).2 j < 256 := by
  intro j hj
  show ab_up e.2 e.1 c j < 256
  by_cases q : j = e.1
  · rw [q, ab_up_self]; exact hc
  · rw [ab_up_ne _ _ q]; exact H j (by omega)
theorem eU_r {e : eS} {c : Nat} {f g : Nat → Int32} (H : ∀ j, j < e.1 → f j = nI (e.2 j)) (G : ∀ j, g j = if j = e.1 then nI c else f j) : ∀ j, j < e.1 + 1 → g j = nI ((eU e c).2 j) := by
  intro j hj
  show g j = nI (ab_up e.2 e.1 c j)
  rw [G]
  by_cases q : j = e.1
  · rw [if_pos q, q, ab_up_self]
  · rw [if_neg q, ab_up_ne _ _ q]; exact H j (by omega)
theorem i2c_nI {c : Nat} (hc : c < 65536) : ((nI c).toUInt32 % 65536).toInt32 = nI c := by
  have q : (nI c).toUInt32 = UInt32.ofNat c := rfl
  rw [q]
  have q2 : UInt32.ofNat c % 65536 = UInt32.ofNat c := by
    apply UInt32.toNat_inj.mp
    rw [UInt32.toNat_mod, UInt32.toNat_ofNat', Nat.mod_eq_of_lt (a := c) (by omega)]
    exact Nat.mod_eq_of_lt (by simpa using hc)
  rw [q2]
  rfl
theorem nrw_nI {c : Nat} (hc : c < 65536) : narrow .char (.int (nI c)) = .int (nI c) := by
  show Value.int (((nI c).toUInt32 % 65536).toInt32) = _
  rw [i2c_nI hc]
set_option maxRecDepth 100000 in
set_option maxHeartbeats 4000000 in
theorem c_isFull {k b : Nat} {h : ab_H} {e : eS} (hL : at_Letters (ab_sh h) (ab_r h) 22) (hE : le_C e h) : ab_M k b mX4_isFull [.ref 22] h (ab_pb (fun t h' => h' = h ∧ (t = true ↔ e.1 = 72))) := by
  have h72 := hE.1
  refine ab_enter ?_
  refine ab_aload_n dX4_isFull_0 rfl ?_
  refine ab_getI dX4_isFull_1 fl_X4_19 hL.1 hE.2.2.1 ?_
  refine ab_bipush (v := nI 72) dX4_isFull_4 (by decide) ?_
  refine ab_nicmp_lt 13 dX4_isFull_6 (by decide) (by omega) (by omega) (fun c_6 => ?_) (fun c_6 => ?_)
  · skip
    refine ab_iconst (v := nI 0) dX4_isFull_13 (by decide) ?_
    refine ab_retb (x := false) dX4_isFull_14 ?_
    first | exact ⟨rfl, fun _ => by omega, fun _ => rfl⟩ | exact ⟨rfl, fun q => absurd q (by decide), fun q => absurd q (by omega)⟩
  · skip
    refine ab_iconst (v := nI 1) dX4_isFull_9 (by decide) ?_
    refine ab_goto 14 dX4_isFull_10 (by decide) ?_
    refine ab_retb (x := true) dX4_isFull_14 ?_
    first | exact ⟨rfl, fun _ => by omega, fun _ => rfl⟩ | exact ⟨rfl, fun q => absurd q (by decide), fun q => absurd q (by omega)⟩
set_option maxRecDepth 100000 in
set_option maxHeartbeats 4000000 in
theorem c_append {k b c : Nat} {h : ab_H} {e : eS} (hL : at_Letters (ab_sh h) (ab_r h) 22) (hE : le_C e h) (h7 : e.1 < 72) (hc : c < 256) : ab_M k b mX4_append [.ref 22, .int (nI c)] h (ab_pv (fun h' => ab_fr [22, 24] h h' ∧ le_C (eU e c) h')) := by
  have h72 := hE.1
  refine ab_enter ?_
  refine ab_aload_n dX4_append_0 rfl ?_
  refine ab_getI dX4_append_1 fl_X4_19 hL.1 hE.2.2.1 ?_
  refine ab_bipush (v := nI 72) dX4_append_4 (by decide) ?_
  refine ab_nicmp_ge 30 dX4_append_6 (by decide) (by omega) (by omega) (fun c_6 => ?_) (fun c_6 => ?_)
  · skip
    exact absurd c_6 (by omega)
  · skip
    refine ab_aload_n dX4_append_9 rfl ?_
    refine ab_getR dX4_append_10 fl_X4_15 hL.1 hL.2.2.2.1 ?_
    refine ab_aload_n dX4_append_13 rfl ?_
    refine ab_getI dX4_append_14 fl_X4_19 hL.1 hE.2.2.1 ?_
    refine ab_iload_n dX4_append_17 rfl ?_
    refine ab_i2c dX4_append_18 ?_
    rw [i2c_nI (by omega)]
    refine ab_cast dX4_append_19 hL.2.2.2.2 rfl (by omega) ?_ (by decide) (nrw_nI (by omega))
    refine ab_aload_n dX4_append_20 rfl ?_
    refine ab_dup dX4_append_21 rfl ?_
    refine ab_getI dX4_append_22 fl_X4_19 hL.1 (show _ = nI e.1 by rw [ab_i_off (by decide)]; exact hE.2.2.1) ?_
    refine ab_iconst (v := nI 1) dX4_append_25 (by decide) ?_
    refine ab_naddR dX4_append_26 ?_
    refine ab_putI dX4_append_27 fl_X4_19 hL.1 ?_
    refine ab_retv dX4_append_30 ?_
    refine ⟨((ab_fr.rf h).si _ _ _ (by simp)).si _ _ _ (by simp), ?_⟩
    refine ⟨by show e.1 + 1 ≤ 72; omega, eU_b hc hE.2.1, by rw [ab_i_si_same, if_pos rfl]; rfl, eU_r hE.2.2.2 (fun j => ?_)⟩
    rw [ab_i_off (by decide), ab_i_si_same]
set_option maxRecDepth 100000 in
set_option maxHeartbeats 4000000 in
theorem c_letter {k b : Nat} {h : ab_H} {e : eS} {c : Int32} (hk : 1 ≤ k) (hC : at_C (ab_sh h) (ab_r h)) (hE : le_C e h) : ab_M k b mX11_letter [.ref 5, .int c] h (ab_pi (ab_oX 37 (ab_gr [] [] h) (fun h' => ab_fr [22, 24] h h' ∧ le_C (eU e c.toNatClampNeg) h') (sp_letter e c))) := by
  refine ab_enter ?_
  refine ab_iload_n dX11_letter_0 rfl ?_
  refine ab_if_ge 11 dX11_letter_1 (by decide) (fun c_1 => ?_) (fun c_1 => ?_)
  · skip
    refine ab_iload_n dX11_letter_11 rfl ?_
    refine ab_sipush (v := nI 255) dX11_letter_12 (by decide) ?_
    refine ab_icmp_gt 28 dX11_letter_15 (by decide) (fun c_15 => ?_) (fun c_15 => ?_)
    · skip
      refine ab_aload_n dX11_letter_28 rfl ?_
      refine ab_bipush (v := -6) dX11_letter_29 (by decide) ?_
      refine ab_callVi [_] dX11_letter_31 ml_X11_66 mk_X11_refuse hC.hs (c_refuse (k := 0) (b := 0) (c := 6) hC (by decide) (by omega) (by omega)) (fun v1 hh1 hq => ?_)
      obtain ⟨hv, hh⟩ := hq
      refine ab_reti dX11_letter_34 ?_
      exact ab_oX_no (by unfold sp_letter; rw [if_neg (by have := ab_ge0.mp c_1; omega), if_pos (by first | exact Or.inl ((ab_ltN (n := 255) (by omega)).mp c_15) | exact Or.inr (ht.mp c_25))]) (ab_gr.rf h) hv hh
    · skip
      refine ab_aload_n dX11_letter_18 rfl ?_
      refine ab_getR dX11_letter_19 fl_X11_33 hC.hs hC.p5_3 ?_
      refine ab_callVb [] dX11_letter_22 ml_X11_70 mk_X4_isFull hC.letters.1 (c_isFull (k := 0) (b := 0) hC.letters hE) (fun t hh hq => ?_)
      obtain ⟨hhe, ht⟩ := hq
      rw [hhe]
      refine ab_bif_eq 35 dX11_letter_25 (by decide) (fun c_25 => ?_) (fun c_25 => ?_)
      · skip
        obtain ⟨d, rfl, hd31⟩ := ab_of0 c_1
        have hd := mt (ab_ltN (n := 255) (by omega)).mpr c_15
        rw [nI_toInt hd31] at hd
        have h7 : e.1 ≠ 72 := fun q => ab_tf (ht.mpr q) c_25
        have h72 := hE.1
        refine ab_aload_n dX11_letter_35 rfl ?_
        refine ab_getR dX11_letter_36 fl_X11_33 hC.hs hC.p5_3 ?_
        refine ab_iload_n dX11_letter_39 rfl ?_
        refine ab_callVv [_] dX11_letter_40 ml_X11_74 mk_X4_append hC.letters.1 (c_append (k := 0) (b := 0) hC.letters hE (by omega) (by omega)) (fun h1 hq => ?_)
        have hC1 := hC.fr hq.1
        refine ab_aload_n dX11_letter_43 rfl ?_
        refine ab_getR dX11_letter_44 fl_X11_33 hC1.hs hC1.p5_3 ?_
        refine ab_getI dX11_letter_47 fl_X11_78 hC1.letters.1 hq.2.2.2.1 ?_
        refine ab_reti dX11_letter_50 ?_
        exact ab_oX_ok (by unfold sp_letter; rw [if_neg (by rw [nI_toInt hd31]; omega), if_neg (by rw [nI_toInt hd31]; omega)]; rfl) (by rw [nI_clamp hd31]; exact hq)
      · skip
        refine ab_aload_n dX11_letter_28 rfl ?_
        refine ab_bipush (v := -6) dX11_letter_29 (by decide) ?_
        refine ab_callVi [_] dX11_letter_31 ml_X11_66 mk_X11_refuse hC.hs (c_refuse (k := 0) (b := 0) (c := 6) hC (by decide) (by omega) (by omega)) (fun v1 hh1 hq => ?_)
        obtain ⟨hv, hh⟩ := hq
        refine ab_reti dX11_letter_34 ?_
        exact ab_oX_no (by unfold sp_letter; rw [if_neg (by have := ab_ge0.mp c_1; omega), if_pos (by first | exact Or.inl ((ab_ltN (n := 255) (by omega)).mp c_15) | exact Or.inr (ht.mp c_25))]) (ab_gr.rf h) hv hh
  · skip
    refine ab_aload_n dX11_letter_4 rfl ?_
    refine ab_bipush (v := -4) dX11_letter_5 (by decide) ?_
    refine ab_callVi [_] dX11_letter_7 ml_X11_66 mk_X11_refuse hC.hs (c_refuse (k := 0) (b := 0) (c := 4) hC (by decide) (by omega) (by omega)) (fun v1 hh1 hq => ?_)
    obtain ⟨hv, hh⟩ := hq
    refine ab_reti dX11_letter_10 ?_
    exact ab_oX_no (by unfold sp_letter; rw [if_pos (by have := mt ab_ge0.mpr c_1; omega)]) (ab_gr.rf h) hv hh
set_option maxRecDepth 100000 in
set_option maxHeartbeats 4000000 in
theorem m_letter {k b : Nat} {h : ab_H} {e : eS} {c : Int32} (hk : 1 ≤ k) (hM : at_M (ab_sh h) (ab_r h)) (hE : le_M e h) : ab_M k b mX12_letter [.ref 50, .int c] h (ab_pi (ab_oX 51 (ab_fM [] [] h) (fun h' => ab_fM [71] [29] h h' ∧ le_M (eU e c.toNatClampNeg) h') (sp_letter e c))) := by
  have h72 := hE.1
  refine ab_enter ?_
  refine ab_iload_n dX12_letter_0 rfl ?_
  refine ab_if_ge 11 dX12_letter_1 (by decide) (fun c_1 => ?_) (fun c_1 => ?_)
  · skip
    refine ab_iload_n dX12_letter_11 rfl ?_
    refine ab_sipush (v := nI 255) dX12_letter_12 (by decide) ?_
    refine ab_icmp_gt 27 dX12_letter_15 (by decide) (fun c_15 => ?_) (fun c_15 => ?_)
    · skip
      refine ab_aload_n dX12_letter_27 rfl ?_
      refine ab_bipush (v := -6) dX12_letter_28 (by decide) ?_
      refine ab_callVi [_] dX12_letter_30 ml_X12_9 mk_X12_refused hM.hs (m_refused (k := 0) (b := 0) (c := 6) hM (by decide) (by omega) (by omega)) (fun v1 hh1 hq => ?_)
      obtain ⟨hv, hh⟩ := hq
      refine ab_reti dX12_letter_33 ?_
      exact ab_oX_no (by unfold sp_letter; rw [if_neg (by have := ab_ge0.mp c_1; omega), if_pos (by first | exact Or.inl ((ab_ltN (n := 255) (by omega)).mp c_15) | exact Or.inr (by omega))]) (ab_fM.rf h) hv hh
    · skip
      refine ab_aload_n dX12_letter_18 rfl ?_
      refine ab_getI dX12_letter_19 fl_X12_339 hM.hs hE.2.2.1 ?_
      refine ab_bipush (v := nI 72) dX12_letter_22 (by decide) ?_
      refine ab_nicmp_ne 34 dX12_letter_24 (by decide) (by omega) (by omega) (fun c_24 => ?_) (fun c_24 => ?_)
      · skip
        obtain ⟨d, rfl, hd31⟩ := ab_of0 c_1
        have hd := mt (ab_ltN (n := 255) (by omega)).mpr c_15
        rw [nI_toInt hd31] at hd
        refine ab_aload_n dX12_letter_34 rfl ?_
        refine ab_getR dX12_letter_35 fl_X12_91 hM.hs hM.p50_28 ?_
        refine ab_aload_n dX12_letter_38 rfl ?_
        refine ab_getI dX12_letter_39 fl_X12_339 hM.hs hE.2.2.1 ?_
        refine ab_iload_n dX12_letter_42 rfl ?_
        refine ab_iast dX12_letter_43 hM.s71 rfl (by omega) ?_
        refine ab_aload_n dX12_letter_44 rfl ?_
        refine ab_dup dX12_letter_45 rfl ?_
        refine ab_getI dX12_letter_46 fl_X12_339 hM.hs (show _ = nI e.1 by rw [ab_i_off (by decide)]; exact hE.2.2.1) ?_
        refine ab_iconst (v := nI 1) dX12_letter_49 (by decide) ?_
        refine ab_naddR dX12_letter_50 ?_
        refine ab_putI dX12_letter_51 fl_X12_339 hM.hs ?_
        refine ab_aload_n dX12_letter_54 rfl ?_
        refine ab_getI dX12_letter_55 fl_X12_339 hM.hs (show _ = nI (e.1 + 1) by rw [ab_i_at, ab_up_self]) ?_
        refine ab_reti dX12_letter_58 ?_
        refine ab_oX_ok (by unfold sp_letter; rw [if_neg (by rw [nI_toInt hd31]; omega), if_neg (by rw [nI_toInt hd31]; omega)]) ⟨((ab_fM.rf h).si _ _ (by simp) (by decide)).s50 _ (by decide), ?_⟩
        rw [nI_clamp hd31]
        refine ⟨by show e.1 + 1 ≤ 72; omega, eU_b (by omega) hE.2.1, by rw [ab_i_at, ab_up_self]; rfl, eU_r hE.2.2.2 (fun j => ?_)⟩
        rw [ab_i_off (by decide), ab_i_si_same]
      · skip
        refine ab_aload_n dX12_letter_27 rfl ?_
        refine ab_bipush (v := -6) dX12_letter_28 (by decide) ?_
        refine ab_callVi [_] dX12_letter_30 ml_X12_9 mk_X12_refused hM.hs (m_refused (k := 0) (b := 0) (c := 6) hM (by decide) (by omega) (by omega)) (fun v1 hh1 hq => ?_)
        obtain ⟨hv, hh⟩ := hq
        refine ab_reti dX12_letter_33 ?_
        exact ab_oX_no (by unfold sp_letter; rw [if_neg (by have := ab_ge0.mp c_1; omega), if_pos (by first | exact Or.inl ((ab_ltN (n := 255) (by omega)).mp c_15) | exact Or.inr (by omega))]) (ab_fM.rf h) hv hh
  · skip
    refine ab_aload_n dX12_letter_4 rfl ?_
    refine ab_bipush (v := -4) dX12_letter_5 (by decide) ?_
    refine ab_callVi [_] dX12_letter_7 ml_X12_9 mk_X12_refused hM.hs (m_refused (k := 0) (b := 0) (c := 4) hM (by decide) (by omega) (by omega)) (fun v1 hh1 hq => ?_)
    obtain ⟨hv, hh⟩ := hq
    refine ab_reti dX12_letter_10 ?_
    exact ab_oX_no (by unfold sp_letter; rw [if_pos (by have := mt ab_ge0.mpr c_1; omega)]) (ab_fM.rf h) hv hh
set_option maxRecDepth 100000 in
set_option maxHeartbeats 4000000 in
theorem c_count {k b n hx hy : Nat} {h : ab_H} {e : eS} {s : sS} {rf : Nat → Int32} {w : Int32} (hC : at_C (ab_sh h) (ab_r h)) (hB : bd_C n hx hy 6 h) (hS : sh_C 19 s h) (hE : le_C e h) (hR : ∀ c, 1 ≤ c → c < 7 → ab_i h 37 c = rf c) : ab_M k b mX11_count [.ref 5, .int w] h (ab_pi (fun v h' => v = sp_count w rf n hx hy e.1 s ∧ h' = h)) := by
  refine ab_enter ?_
  refine ab_iload_n dX11_count_0 rfl ?_
  refine ab_bipush (v := nI 11) dX11_count_1 (by decide) ?_
  refine ab_icmp_lt 22 dX11_count_3 (by decide) (fun c_3 => ?_) (fun c_3 => ?_)
  · skip
    have hno : ¬ ab_inr 11 16 w = true := fun q => by have q := of_decide_eq_true q; first | exact c_3 ((ab_leN (n := 11) (by omega)).mpr q.1) | exact absurd ((ab_Nlt (n := 11) (by omega)).mp c_3) (by omega) | exact absurd (mt (ab_Nle (n := 16) (by omega)).mpr c_9) (by omega) | exact absurd ((ab_ltN (n := 16) (by omega)).mp c_9) (by omega)
    refine ab_iload_n dX11_count_22 rfl ?_
    rcases ab_swc 5 w with hsw | ⟨jsw, hjsw, rfl⟩
    · refine ab_tableOut 108 dX11_count_23 hsw (by decide) ?_
      refine ab_bipush (v := -9) dX11_count_108 (by decide) ?_
      refine ab_reti dX11_count_110 ?_
      exact ⟨by unfold sp_count; rw [if_neg (fun q => hno q), if_neg (fun q => by rw [q] at hsw; revert hsw; decide), if_neg (fun q => by rw [q] at hsw; revert hsw; decide), if_neg (fun q => by rw [q] at hsw; revert hsw; decide), if_neg (fun q => by rw [q] at hsw; revert hsw; decide), if_neg (fun q => by rw [q] at hsw; revert hsw; decide), if_neg (fun q => by rw [q] at hsw; revert hsw; decide)], rfl⟩
    · match jsw, hjsw with
      | 0, _ =>
        refine ab_tableIn (off := 37) 60 dX11_count_23 (by decide) (by decide) (by decide) (by decide) ?_
        refine ab_aload_n dX11_count_60 rfl ?_
        refine ab_getR dX11_count_61 fl_X11_10 hC.hs hC.p5_0 ?_
        refine ab_getI dX11_count_64 fl_X11_348 hC.board.1 hB.f0 ?_
        refine ab_reti dX11_count_67 ?_
        exact ⟨by unfold sp_count; rw [if_neg (fun q => hno q), if_pos rfl], rfl⟩
      | 1, _ =>
        refine ab_tableIn (off := 45) 68 dX11_count_23 (by decide) (by decide) (by decide) (by decide) ?_
        refine ab_aload_n dX11_count_68 rfl ?_
        refine ab_getR dX11_count_69 fl_X11_26 hC.hs hC.p5_2 ?_
        refine ab_getI dX11_count_72 fl_X11_189 hC.shapes.1 hS.np ?_
        refine ab_reti dX11_count_75 ?_
        exact ⟨by unfold sp_count; rw [if_neg (fun q => hno q), if_neg (by decide), if_pos rfl], rfl⟩
      | 2, _ =>
        refine ab_tableIn (off := 53) 76 dX11_count_23 (by decide) (by decide) (by decide) (by decide) ?_
        refine ab_aload_n dX11_count_76 rfl ?_
        refine ab_getR dX11_count_77 fl_X11_26 hC.hs hC.p5_2 ?_
        refine ab_getI dX11_count_80 fl_X11_228 hC.shapes.1 hS.nt ?_
        refine ab_reti dX11_count_83 ?_
        exact ⟨by unfold sp_count; rw [if_neg (fun q => hno q), if_neg (by decide), if_neg (by decide), if_pos rfl], rfl⟩
      | 3, _ =>
        refine ab_tableIn (off := 61) 84 dX11_count_23 (by decide) (by decide) (by decide) (by decide) ?_
        refine ab_aload_n dX11_count_84 rfl ?_
        refine ab_getR dX11_count_85 fl_X11_33 hC.hs hC.p5_3 ?_
        refine ab_getI dX11_count_88 fl_X11_78 hC.letters.1 hE.2.2.1 ?_
        refine ab_reti dX11_count_91 ?_
        exact ⟨by unfold sp_count; rw [if_neg (fun q => hno q), if_neg (by decide), if_neg (by decide), if_neg (by decide), if_pos rfl], rfl⟩
      | 4, _ =>
        refine ab_tableIn (off := 69) 92 dX11_count_23 (by decide) (by decide) (by decide) (by decide) ?_
        refine ab_aload_n dX11_count_92 rfl ?_
        refine ab_getR dX11_count_93 fl_X11_10 hC.hs hC.p5_0 ?_
        refine ab_getI dX11_count_96 fl_X11_351 hC.board.1 hB.f1 ?_
        refine ab_reti dX11_count_99 ?_
        exact ⟨by unfold sp_count; rw [if_neg (fun q => hno q), if_neg (by decide), if_neg (by decide), if_neg (by decide), if_neg (by decide), if_pos rfl], rfl⟩
      | 5, _ =>
        refine ab_tableIn (off := 77) 100 dX11_count_23 (by decide) (by decide) (by decide) (by decide) ?_
        refine ab_aload_n dX11_count_100 rfl ?_
        refine ab_getR dX11_count_101 fl_X11_10 hC.hs hC.p5_0 ?_
        refine ab_getI dX11_count_104 fl_X11_354 hC.board.1 hB.f2 ?_
        refine ab_reti dX11_count_107 ?_
        exact ⟨by unfold sp_count; rw [if_neg (fun q => hno q), if_neg (by decide), if_neg (by decide), if_neg (by decide), if_neg (by decide), if_neg (by decide), if_pos rfl], rfl⟩
      | jj + 6, hq => exact absurd hq (by omega)
  · skip
    refine ab_iload_n dX11_count_6 rfl ?_
    refine ab_bipush (v := nI 16) dX11_count_7 (by decide) ?_
    refine ab_icmp_gt 22 dX11_count_9 (by decide) (fun c_9 => ?_) (fun c_9 => ?_)
    · skip
      have hno : ¬ ab_inr 11 16 w = true := fun q => by have q := of_decide_eq_true q; first | exact c_3 ((ab_leN (n := 11) (by omega)).mpr q.1) | exact absurd ((ab_Nlt (n := 11) (by omega)).mp c_3) (by omega) | exact absurd (mt (ab_Nle (n := 16) (by omega)).mpr c_9) (by omega) | exact absurd ((ab_ltN (n := 16) (by omega)).mp c_9) (by omega)
      refine ab_iload_n dX11_count_22 rfl ?_
      rcases ab_swc 5 w with hsw | ⟨jsw, hjsw, rfl⟩
      · refine ab_tableOut 108 dX11_count_23 hsw (by decide) ?_
        refine ab_bipush (v := -9) dX11_count_108 (by decide) ?_
        refine ab_reti dX11_count_110 ?_
        exact ⟨by unfold sp_count; rw [if_neg (fun q => hno q), if_neg (fun q => by rw [q] at hsw; revert hsw; decide), if_neg (fun q => by rw [q] at hsw; revert hsw; decide), if_neg (fun q => by rw [q] at hsw; revert hsw; decide), if_neg (fun q => by rw [q] at hsw; revert hsw; decide), if_neg (fun q => by rw [q] at hsw; revert hsw; decide), if_neg (fun q => by rw [q] at hsw; revert hsw; decide)], rfl⟩
      · match jsw, hjsw with
        | 0, _ =>
          refine ab_tableIn (off := 37) 60 dX11_count_23 (by decide) (by decide) (by decide) (by decide) ?_
          refine ab_aload_n dX11_count_60 rfl ?_
          refine ab_getR dX11_count_61 fl_X11_10 hC.hs hC.p5_0 ?_
          refine ab_getI dX11_count_64 fl_X11_348 hC.board.1 hB.f0 ?_
          refine ab_reti dX11_count_67 ?_
          exact ⟨by unfold sp_count; rw [if_neg (fun q => hno q), if_pos rfl], rfl⟩
        | 1, _ =>
          refine ab_tableIn (off := 45) 68 dX11_count_23 (by decide) (by decide) (by decide) (by decide) ?_
          refine ab_aload_n dX11_count_68 rfl ?_
          refine ab_getR dX11_count_69 fl_X11_26 hC.hs hC.p5_2 ?_
          refine ab_getI dX11_count_72 fl_X11_189 hC.shapes.1 hS.np ?_
          refine ab_reti dX11_count_75 ?_
          exact ⟨by unfold sp_count; rw [if_neg (fun q => hno q), if_neg (by decide), if_pos rfl], rfl⟩
        | 2, _ =>
          refine ab_tableIn (off := 53) 76 dX11_count_23 (by decide) (by decide) (by decide) (by decide) ?_
          refine ab_aload_n dX11_count_76 rfl ?_
          refine ab_getR dX11_count_77 fl_X11_26 hC.hs hC.p5_2 ?_
          refine ab_getI dX11_count_80 fl_X11_228 hC.shapes.1 hS.nt ?_
          refine ab_reti dX11_count_83 ?_
          exact ⟨by unfold sp_count; rw [if_neg (fun q => hno q), if_neg (by decide), if_neg (by decide), if_pos rfl], rfl⟩
        | 3, _ =>
          refine ab_tableIn (off := 61) 84 dX11_count_23 (by decide) (by decide) (by decide) (by decide) ?_
          refine ab_aload_n dX11_count_84 rfl ?_
          refine ab_getR dX11_count_85 fl_X11_33 hC.hs hC.p5_3 ?_
          refine ab_getI dX11_count_88 fl_X11_78 hC.letters.1 hE.2.2.1 ?_
          refine ab_reti dX11_count_91 ?_
          exact ⟨by unfold sp_count; rw [if_neg (fun q => hno q), if_neg (by decide), if_neg (by decide), if_neg (by decide), if_pos rfl], rfl⟩
        | 4, _ =>
          refine ab_tableIn (off := 69) 92 dX11_count_23 (by decide) (by decide) (by decide) (by decide) ?_
          refine ab_aload_n dX11_count_92 rfl ?_
          refine ab_getR dX11_count_93 fl_X11_10 hC.hs hC.p5_0 ?_
          refine ab_getI dX11_count_96 fl_X11_351 hC.board.1 hB.f1 ?_
          refine ab_reti dX11_count_99 ?_
          exact ⟨by unfold sp_count; rw [if_neg (fun q => hno q), if_neg (by decide), if_neg (by decide), if_neg (by decide), if_neg (by decide), if_pos rfl], rfl⟩
        | 5, _ =>
          refine ab_tableIn (off := 77) 100 dX11_count_23 (by decide) (by decide) (by decide) (by decide) ?_
          refine ab_aload_n dX11_count_100 rfl ?_
          refine ab_getR dX11_count_101 fl_X11_10 hC.hs hC.p5_0 ?_
          refine ab_getI dX11_count_104 fl_X11_354 hC.board.1 hB.f2 ?_
          refine ab_reti dX11_count_107 ?_
          exact ⟨by unfold sp_count; rw [if_neg (fun q => hno q), if_neg (by decide), if_neg (by decide), if_neg (by decide), if_neg (by decide), if_neg (by decide), if_pos rfl], rfl⟩
        | jj + 6, hq => exact absurd hq (by omega)
    · skip
      have q1 := mt (ab_Nlt (n := 11) (by omega)).mpr c_3
      have q2 := mt (ab_ltN (n := 16) (by omega)).mpr c_9
      obtain ⟨d, rfl, hd31⟩ := ab_of0 (x := w) (ab_ge0.mpr (by omega))
      rw [nI_toInt hd31] at q1 q2
      have hin : ab_inr 11 16 (nI d) = true := ab_inr_ok (by rw [nI_toInt hd31]; omega) (by rw [nI_toInt hd31]; omega)
      refine ab_aload_n dX11_count_12 rfl ?_
      refine ab_getR dX11_count_13 fl_X11_56 hC.hs hC.p5_7 ?_
      refine ab_iload_n dX11_count_16 rfl ?_
      refine ab_bipush (v := nI 10) dX11_count_17 (by decide) ?_
      refine ab_nsubR dX11_count_19 (by omega) ?_
      refine ab_iald dX11_count_20 hC.s37 rfl (by omega) (hR (d - 10) (by omega) (by omega)) ?_
      refine ab_reti dX11_count_21 ?_
      exact ⟨by unfold sp_count; rw [if_pos hin, nI_clamp hd31], rfl⟩
set_option maxRecDepth 100000 in
set_option maxHeartbeats 4000000 in
theorem m_count {k b n hx hy : Nat} {h : ab_H} {e : eS} {s : sS} {rf : Nat → Int32} {w : Int32} (hk : 1 ≤ k) (hM : at_M (ab_sh h) (ab_r h)) (hB : bd_Mo n hx hy h) (hS : sh_M s h) (hE : le_M e h) (hR : ∀ c, 1 ≤ c → c < 7 → ab_i h 51 c = rf c) : ab_M k b mX12_count [.ref 50, .int w] h (ab_pi (fun v h' => v = sp_count w rf n hx hy e.1 s ∧ h' = h)) := by
  refine ab_enter ?_
  refine ab_iload_n dX12_count_0 rfl ?_
  refine ab_i2l dX12_count_1 ?_
  refine ab_ldc2 dX12_count_2 kc_X12_386 ?_
  refine ab_ldc2 dX12_count_5 kc_X12_388 ?_
  refine ab_callSb [_, _, _] dX12_count_8 ml_X12_123 mk_X12_isIn (m_isIn (k := 0) (b := 0) (Int32.toInt_toInt64 _) (lo := 11) (by decide) (hi := 16) (by decide)) (fun t1 hh0 hq => ?_)
  obtain ⟨hhe, rfl⟩ := hq
  rw [hhe]
  refine ab_bif_eq 24 dX12_count_11 (by decide) (fun c_11 => ?_) (fun c_11 => ?_)
  · skip
    have hno : ¬ ab_inr 11 16 w = true := fun q => ab_tf q c_11
    refine ab_iload_n dX12_count_24 rfl ?_
    rcases ab_swc 5 w with hsw | ⟨jsw, hjsw, rfl⟩
    · refine ab_tableOut 94 dX12_count_25 hsw (by decide) ?_
      refine ab_bipush (v := -9) dX12_count_94 (by decide) ?_
      refine ab_reti dX12_count_96 ?_
      exact ⟨by unfold sp_count; rw [if_neg (fun q => hno q), if_neg (fun q => by rw [q] at hsw; revert hsw; decide), if_neg (fun q => by rw [q] at hsw; revert hsw; decide), if_neg (fun q => by rw [q] at hsw; revert hsw; decide), if_neg (fun q => by rw [q] at hsw; revert hsw; decide), if_neg (fun q => by rw [q] at hsw; revert hsw; decide), if_neg (fun q => by rw [q] at hsw; revert hsw; decide)], rfl⟩
    · match jsw, hjsw with
      | 0, _ =>
        refine ab_tableIn (off := 39) 64 dX12_count_25 (by decide) (by decide) (by decide) (by decide) ?_
        refine ab_aload_n dX12_count_64 rfl ?_
        refine ab_getI dX12_count_65 fl_X12_29 hM.hs hB.f1 ?_
        refine ab_reti dX12_count_68 ?_
        exact ⟨by unfold sp_count; rw [if_neg (fun q => hno q), if_pos rfl], rfl⟩
      | 1, _ =>
        refine ab_tableIn (off := 44) 69 dX12_count_25 (by decide) (by decide) (by decide) (by decide) ?_
        refine ab_aload_n dX12_count_69 rfl ?_
        refine ab_getI dX12_count_70 fl_X12_207 hM.hs hS.np ?_
        refine ab_reti dX12_count_73 ?_
        exact ⟨by unfold sp_count; rw [if_neg (fun q => hno q), if_neg (by decide), if_pos rfl], rfl⟩
      | 2, _ =>
        refine ab_tableIn (off := 49) 74 dX12_count_25 (by decide) (by decide) (by decide) (by decide) ?_
        refine ab_aload_n dX12_count_74 rfl ?_
        refine ab_getI dX12_count_75 fl_X12_238 hM.hs hS.nt ?_
        refine ab_reti dX12_count_78 ?_
        exact ⟨by unfold sp_count; rw [if_neg (fun q => hno q), if_neg (by decide), if_neg (by decide), if_pos rfl], rfl⟩
      | 3, _ =>
        refine ab_tableIn (off := 54) 79 dX12_count_25 (by decide) (by decide) (by decide) (by decide) ?_
        refine ab_aload_n dX12_count_79 rfl ?_
        refine ab_getI dX12_count_80 fl_X12_339 hM.hs hE.2.2.1 ?_
        refine ab_reti dX12_count_83 ?_
        exact ⟨by unfold sp_count; rw [if_neg (fun q => hno q), if_neg (by decide), if_neg (by decide), if_neg (by decide), if_pos rfl], rfl⟩
      | 4, _ =>
        refine ab_tableIn (off := 59) 84 dX12_count_25 (by decide) (by decide) (by decide) (by decide) ?_
        refine ab_aload_n dX12_count_84 rfl ?_
        refine ab_getI dX12_count_85 fl_X12_127 hM.hs hB.f2 ?_
        refine ab_reti dX12_count_88 ?_
        exact ⟨by unfold sp_count; rw [if_neg (fun q => hno q), if_neg (by decide), if_neg (by decide), if_neg (by decide), if_neg (by decide), if_pos rfl], rfl⟩
      | 5, _ =>
        refine ab_tableIn (off := 64) 89 dX12_count_25 (by decide) (by decide) (by decide) (by decide) ?_
        refine ab_aload_n dX12_count_89 rfl ?_
        refine ab_getI dX12_count_90 fl_X12_130 hM.hs hB.f3 ?_
        refine ab_reti dX12_count_93 ?_
        exact ⟨by unfold sp_count; rw [if_neg (fun q => hno q), if_neg (by decide), if_neg (by decide), if_neg (by decide), if_neg (by decide), if_neg (by decide), if_pos rfl], rfl⟩
      | jj + 6, hq => exact absurd hq (by omega)
  · skip
    have hin : ab_inr 11 16 w = true := c_11
    have q := of_decide_eq_true hin
    obtain ⟨d, rfl, hd31⟩ := ab_of0 (x := w) (ab_ge0.mpr (by omega))
    rw [nI_toInt hd31] at q
    refine ab_aload_n dX12_count_14 rfl ?_
    refine ab_getR dX12_count_15 fl_X12_1 hM.hs hM.p50_0 ?_
    refine ab_iload_n dX12_count_18 rfl ?_
    refine ab_bipush (v := nI 10) dX12_count_19 (by decide) ?_
    refine ab_nsubR dX12_count_21 (by omega) ?_
    refine ab_iald dX12_count_22 hM.s51 rfl (by omega) (hR (d - 10) (by omega) (by omega)) ?_
    refine ab_reti dX12_count_23 ?_
    exact ⟨by unfold sp_count; rw [if_pos hin, nI_clamp hd31], rfl⟩
