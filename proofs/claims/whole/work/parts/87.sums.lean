/-! ===== how a call comes out ===== -/
/-- an int: refused and counted in row F (after steps G), or answered with K -/
def ab_oX (F : Nat) (G K : ab_H → Prop) (o : Nat ⊕ Int32) (v : Int32) (h' : ab_H) : Prop := match o with
  | .inl c => v = -(nI c) ∧ ∃ h1, G h1 ∧ h' = ab_si h1 F c (ab_i h1 F c + 1)
  | .inr x => v = x ∧ K h'
def ab_lX (F : Nat) (G K : ab_H → Prop) (o : Nat ⊕ Int64) (v : Int64) (h' : ab_H) : Prop := match o with
  | .inl c => v = ab_far c ∧ ∃ h1, G h1 ∧ h' = ab_si h1 F c (ab_i h1 F c + 1)
  | .inr x => v = x ∧ K h'
theorem ab_oX_no {F : Nat} {G K : ab_H → Prop} {o : Nat ⊕ Int32} {c : Nat} {v : Int32} {h1 h' : ab_H} (e : o = .inl c) (g : G h1) (hv : v = -(nI c)) (hh : h' = ab_si h1 F c (ab_i h1 F c + 1)) : ab_oX F G K o v h' := by rw [e]; exact ⟨hv, h1, g, hh⟩
theorem ab_oX_ok {F : Nat} {G K : ab_H → Prop} {o : Nat ⊕ Int32} {v : Int32} {h' : ab_H} (e : o = .inr v) (f : K h') : ab_oX F G K o v h' := by rw [e]; exact ⟨rfl, f⟩
theorem ab_lX_no {F : Nat} {G K : ab_H → Prop} {o : Nat ⊕ Int64} {c : Nat} {v : Int64} {h1 h' : ab_H} (e : o = .inl c) (g : G h1) (hv : v = ab_far c) (hh : h' = ab_si h1 F c (ab_i h1 F c + 1)) : ab_lX F G K o v h' := by rw [e]; exact ⟨hv, h1, g, hh⟩
theorem ab_lX_ok {F : Nat} {G K : ab_H → Prop} {o : Nat ⊕ Int64} {v : Int64} {h' : ab_H} (e : o = .inr v) (f : K h') : ab_lX F G K o v h' := by rw [e]; exact ⟨rfl, f⟩
/-! ===== sums ===== -/
noncomputable def sp_sum (s : sS) (x p : Int32) : Nat ⊕ Int64 := if st_in s.2.2.1 x = true then (if ab_inr 0 1 p = true then (match su s x.toNatClampNeg s.2.2.1 with | none => .inl 3 | some T => .inr (if p = 0 then zI T.1 else zI (T.2 : Int))) else .inl 2) else .inl 1
theorem sp_sum_no {s : sS} {n : Nat} {p : Int32} (h : st_in s.2.2.1 (nI n) = true) (hp : ab_inr 0 1 p = true) (hn : n < 2147483648) (e : su s n s.2.2.1 = none) : sp_sum s (nI n) p = .inl 3 := by unfold sp_sum; rw [if_pos h, if_pos hp, nI_clamp hn, e]
theorem sp_sum_ok {s : sS} {n : Nat} {p : Int32} {T : Int × Nat} (h : st_in s.2.2.1 (nI n) = true) (hp : ab_inr 0 1 p = true) (hn : n < 2147483648) (e : su s n s.2.2.1 = some T) : sp_sum s (nI n) p = .inr (if p = 0 then zI T.1 else zI (T.2 : Int)) := by unfold sp_sum; rw [if_pos h, if_pos hp, nI_clamp hn, e]
theorem at_C.gr {S T : List Nat} {h h1 : ab_H} (f : ab_gr S T h h1) (hb : ab_bs h) (hT : ∀ a, a ∈ T → a ∈ [20, 21, 33, 34, 39, 43, 47]) (H : at_C (ab_sh h) (ab_r h)) : at_C (ab_sh h1) (ab_r h1) := by
  unfold ab_bs at hb
  have e : ∀ a, a < 78 → ab_sh h1 a = ab_sh h a := fun a ha => (f.2.2 a (by omega)).1
  have e2 : ∀ a, a < 78 → a ∉ [20, 21, 33, 34, 39, 43, 47] → ab_r h1 a = ab_r h a := fun a ha hn => (f.2.2 a (by omega)).2.2 (fun q => hn (hT a q))
  unfold at_C at_Board at_Rule at_Shapes at_Letters at_Rack at_Numbers at *
  simp only [e 5 (by decide), e 35 (by decide), e 36 (by decide), e 37 (by decide), e 25 (by decide), e 6 (by decide), e (6 + 1) (by decide), e (6 + 2) (by decide), e (6 + 3) (by decide), e (6 + 4) (by decide), e (6 + 5) (by decide), e (6 + 6) (by decide), e 13 (by decide), e (13 + 1) (by decide), e (13 + 2) (by decide), e (13 + 3) (by decide), e (13 + 4) (by decide), e (13 + 5) (by decide), e 19 (by decide), e (19 + 1) (by decide), e (19 + 2) (by decide), e 22 (by decide), e (22 + 1) (by decide), e (22 + 2) (by decide), e 26 (by decide), e (26 + 1) (by decide), e (26 + 2) (by decide), e (26 + 3) (by decide), e (26 + 4) (by decide), e (26 + 5) (by decide), e 32 (by decide), e (32 + 1) (by decide), e (32 + 2) (by decide), e 38 (by decide), e (38 + 1) (by decide), e 40 (by decide), e (40 + 1) (by decide), e 42 (by decide), e (42 + 1) (by decide), e 44 (by decide), e (44 + 1) (by decide), e 46 (by decide), e (46 + 1) (by decide), e 48 (by decide), e (48 + 1) (by decide),
    e2 5 (by decide) (by decide), e2 25 (by decide) (by decide), e2 35 (by decide) (by decide), e2 36 (by decide) (by decide), e2 6 (by decide) (by decide), e2 13 (by decide) (by decide), e2 19 (by decide) (by decide), e2 22 (by decide) (by decide), e2 26 (by decide) (by decide), e2 32 (by decide) (by decide), e2 38 (by decide) (by decide), e2 40 (by decide) (by decide), e2 42 (by decide) (by decide), e2 44 (by decide) (by decide), e2 46 (by decide) (by decide), e2 48 (by decide) (by decide)]
  exact H
set_option maxRecDepth 100000 in
set_option maxHeartbeats 4000000 in
theorem c_sum {k b : Nat} {h : ab_H} {s : sS} {x p : Int32} (hk : 5 ≤ k) (hb1 : 11 ≤ b) (hb : ab_bs h) (hC : at_C (ab_sh h) (ab_r h)) (hD : sh_C 19 s h) : ab_M k b mX11_sum [.ref 5, .int x, .int p] h (ab_pl (ab_lX 37 (ab_gr [] [] h) (ab_gr [] [] h) (sp_sum s x p))) := by
  refine ab_enter ?_
  refine ab_aload_n dX11_sum_0 rfl ?_
  refine ab_getR dX11_sum_1 fl_X11_26 hC.hs hC.p5_2 ?_
  refine ab_iload_n dX11_sum_4 rfl ?_
  refine ab_callVb [_] dX11_sum_5 ml_X11_263 mk_X9_hasSet hC.shapes.1 (c_hasSet (k := 0) (b := 0) hC.shapes hD) (fun t1 hh0 hq => ?_)
  obtain ⟨hhe, rfl⟩ := hq
  rw [hhe]
  refine ab_bif_ne 17 dX11_sum_8 (by decide) (fun c_8 => ?_) (fun c_8 => ?_)
  · skip
    refine ab_iload_n dX11_sum_17 rfl ?_
    refine ab_callSb [_] dX11_sum_18 ml_X11_145 mk_X11_isPartOfFraction (c_isPartOfFraction (k := 0) (b := 0)) (fun t2 hh2 hq => ?_)
    obtain ⟨hhe, rfl⟩ := hq
    rw [hhe]
    refine ab_bif_ne 31 dX11_sum_21 (by decide) (fun c_21 => ?_) (fun c_21 => ?_)
    · skip
      obtain ⟨n, rfl, hn1, hn⟩ := st_nat c_8
      refine ab_aload_n dX11_sum_31 rfl ?_
      refine ab_getR dX11_sum_32 fl_X11_26 hC.hs hC.p5_2 ?_
      refine ab_iload_n dX11_sum_35 rfl ?_
      refine ab_callVr [_] dX11_sum_36 ml_X11_266 mk_X9_exactSum hC.shapes.1 (c_exactSum (k := 4) (b := 11) (Nat.le_refl _) (Nat.le_refl _) hb (by decide) hC.shapes hD hn) (fun u h1 hq => ?_)
      obtain ⟨g, hu, hu0⟩ := hq
      have hC1 := hC.gr g hb (by simp)
      cases e : su s n s.2.2.1 with
      | none =>
        obtain rfl := hu0 e
        refine ab_sta_n (ls' := [_, _, _, _]) dX11_sum_39 (by decide) rfl ?_
        refine ab_aload_n dX11_sum_40 rfl ?_
        refine ab_ifnonnull 51 dX11_sum_41 (by decide) (fun c_41 => ?_) (fun c_41 => ?_)
        · skip
          exact absurd rfl c_41
        · skip
          refine ab_aload_n dX11_sum_44 rfl ?_
          refine ab_bipush (v := -3) dX11_sum_45 (by decide) ?_
          refine ab_callVl [_] dX11_sum_47 ml_X11_148 mk_X11_refuseFar hC1.hs (c_refuseFar (k := 1) (b := 0) (c := 3) (Nat.le_refl _) hC1 (by decide) (by omega) (by omega)) (fun v1 hh1 hq => ?_)
          obtain ⟨hv, hh⟩ := hq
          refine ab_retl dX11_sum_50 ?_
          exact ab_lX_no (sp_sum_no c_8 c_21 hn e) g hv hh
      | some T =>
        have hT := hu T e
        refine ab_sta_n (ls' := [_, _, _, _]) dX11_sum_39 (by decide) rfl ?_
        refine ab_aload_n dX11_sum_40 rfl ?_
        refine ab_ifnonnull 51 dX11_sum_41 (by decide) (fun c_41 => ?_) (fun c_41 => ?_)
        · skip
          refine ab_aload_n dX11_sum_51 rfl ?_
          refine ab_iload_n dX11_sum_52 rfl ?_
          refine ab_callVl [_] dX11_sum_53 ml_X11_156 mk_X2_told hT.2.2.1 (c_fr_told (k := 0) (b := 0) hT) (fun v3 hh3 hq => ?_)
          obtain ⟨hhe, rfl⟩ := hq
          rw [hhe]
          refine ab_retl dX11_sum_56 ?_
          exact ab_lX_ok (sp_sum_ok c_8 c_21 hn e) g
        · skip
          exact absurd c_41 (by have := hT.1; omega)
    · skip
      refine ab_aload_n dX11_sum_24 rfl ?_
      refine ab_bipush (v := -2) dX11_sum_25 (by decide) ?_
      refine ab_callVl [_] dX11_sum_27 ml_X11_148 mk_X11_refuseFar hC.hs (c_refuseFar (k := 1) (b := 0) (c := 2) (Nat.le_refl _) hC (by decide) (by omega) (by omega)) (fun v1 hh1 hq => ?_)
      obtain ⟨hv, hh⟩ := hq
      refine ab_retl dX11_sum_30 ?_
      exact ab_lX_no (by unfold sp_sum; rw [if_pos c_8, if_neg (fun q => ab_tf q c_21)]) (ab_gr.rf h) hv hh
  · skip
    refine ab_aload_n dX11_sum_11 rfl ?_
    refine ab_iconst (v := -1) dX11_sum_12 (by decide) ?_
    refine ab_callVl [_] dX11_sum_13 ml_X11_148 mk_X11_refuseFar hC.hs (c_refuseFar (k := 1) (b := 0) (c := 1) (Nat.le_refl _) hC (by decide) (by omega) (by omega)) (fun v1 hh1 hq => ?_)
    obtain ⟨hv, hh⟩ := hq
    refine ab_retl dX11_sum_16 ?_
    exact ab_lX_no (by unfold sp_sum; rw [if_neg (fun q => ab_tf q c_8)]) (ab_gr.rf h) hv hh
set_option maxRecDepth 100000 in
set_option maxHeartbeats 4000000 in
theorem lp_mSum {k b n : Nat} {h : ab_H} {s : sS} {p : Int32} (hk : 4 ≤ k) (hM : at_M (ab_sh h) (ab_r h)) (hD : sh_M s h) (hin : st_in s.2.2.1 (nI n) = true) (hp : ab_inr 0 1 p = true) (hn : n < 2147483648) : ∀ (j i : Nat) (h1 : ab_H) (T : Int × Nat), i + j = s.2.2.1 → ab_fM [] [] h h1 → su s n i = some T → suB T → ab_R k b mX12_sum 39 [some (.ref 50), some (.int (nI n)), some (.int p), some (.long (zI T.1)), none, some (.long (zI (T.2 : Int))), none, some (.int (nI i))] [] h1 (ab_pl (ab_lX 51 (ab_fM [] [] h) (ab_fM [] [] h) (sp_sum s (nI n) p))) := by
  intro j
  induction j with
  | zero =>
    intro i h1 T hi f hs hTB
    have h11 := hD.W.2.1
    have hM1 := at_M.fM f hM
    have hD1 := hD.fM f (by simp) (by simp) (by simp)
    obtain rfl : i = s.2.2.1 := by omega
    refine ab_iload dX12_sum_39 rfl ?_
    refine ab_aload_n dX12_sum_41 rfl ?_
    refine ab_getI dX12_sum_42 fl_X12_238 hM1.hs hD1.nt ?_
    refine ab_nicmp_ge 133 dX12_sum_45 (by decide) (by omega) (by omega) (fun c_45 => ?_) (fun c_45 => ?_)
    · skip
      refine ab_iload_n dX12_sum_133 rfl ?_
      refine ab_if_ne 141 dX12_sum_134 (by decide) (fun c_134 => ?_) (fun c_134 => ?_)
      · skip
        refine ab_lload dX12_sum_141 rfl ?_
        refine ab_retl dX12_sum_143 ?_
        first | exact ab_lX_ok ((sp_sum_ok hin hp hn hs).trans (by rw [if_pos c_134])) f | exact ab_lX_ok ((sp_sum_ok hin hp hn hs).trans (by rw [if_neg c_134])) f
      · skip
        refine ab_lload_n dX12_sum_137 rfl ?_
        refine ab_goto 143 dX12_sum_138 (by decide) ?_
        refine ab_retl dX12_sum_143 ?_
        first | exact ab_lX_ok ((sp_sum_ok hin hp hn hs).trans (by rw [if_pos c_134])) f | exact ab_lX_ok ((sp_sum_ok hin hp hn hs).trans (by rw [if_neg c_134])) f
    · skip
      exact absurd (Nat.le_refl _) c_45
  | succ j ih =>
    intro i h1 T hi f hs hTB
    have h11 := hD.W.2.1
    have hM1 := at_M.fM f hM
    have hD1 := hD.fM f (by simp) (by simp) (by simp)
    refine ab_iload dX12_sum_39 rfl ?_
    refine ab_aload_n dX12_sum_41 rfl ?_
    refine ab_getI dX12_sum_42 fl_X12_238 hM1.hs hD1.nt ?_
    refine ab_nicmp_ge 133 dX12_sum_45 (by decide) (by omega) (by omega) (fun c_45 => ?_) (fun c_45 => ?_)
    · skip
      exact absurd c_45 (by omega)
    · skip
      have hi9 : i < s.2.2.1 := by omega
      have hB := sA_B hD.W hi9
      refine ab_iload_n dX12_sum_48 rfl ?_
      refine ab_iload dX12_sum_49 rfl ?_
      refine ab_callSb [_, _] dX12_sum_51 ml_X12_199 mk_X12_has (m_has (k := 0) (b := 0) hn (by omega)) (fun t hh1 hq => ?_)
      obtain ⟨hhe, rfl⟩ := hq
      rw [hhe]
      refine ab_bif_eq 127 dX12_sum_54 (by decide) (fun c_54 => ?_) (fun c_54 => ?_)
      · skip
        refine ab_nincR (ls' := [_, _, _, _, _, _, _, _]) dX12_sum_127 rfl rfl ?_
        refine ab_goto 39 dX12_sum_130 (by decide) ?_
        first | exact ih (i + 1) _ T (by omega) f (su_no hs c_54) hTB | exact ih (i + 1) _ _ (by omega) f (su_3 hs c_54 (ofF c_67) (ofF c_106)) (suB_of hq9.1.R.2.1 (fR_0 hq9.2) (ofF c_106))
      · skip
        refine ab_aload_n dX12_sum_57 rfl ?_
        refine ab_iload dX12_sum_58 rfl ?_
        refine ab_callVv [_] dX12_sum_60 ml_X12_282 mk_X12_areaOf hM1.hs (m_areaOf (k := 3) (b := 0) (Nat.le_refl _) hM1 hD1 hi9) (fun h2 hq => ?_)
        obtain ⟨g, e1, e2⟩ := hq
        replace f := f.trans (ab_fM.ofL g) (fun _ q => q) (fun _ q => q)
        replace hM1 := at_M.fL g hM1
        replace hD1 := hD1.fL g
        refine ab_aload_n dX12_sum_63 rfl ?_
        refine ab_callVb [] dX12_sum_64 ml_X12_299 mk_X12_isGreat hM1.hs (m_isGreat (k := 0) (b := 0) (P := sA s i) hM1 e1 e2 (hB.k1 (by decide)) (hB.k2 (by decide))) (fun t1 hh2 hq => ?_)
        obtain ⟨hhe, rfl⟩ := hq
        rw [hhe]
        refine ab_bif_eq 77 dX12_sum_67 (by decide) (fun c_67 => ?_) (fun c_67 => ?_)
        · skip
          have hA9 := suB_of hB.2.1 (sA_0 s i) (ofF c_67)
          have hq9 := suB_add hTB hA9
          refine ab_aload_n dX12_sum_77 rfl ?_
          refine ab_lload_n dX12_sum_78 rfl ?_
          refine ab_aload_n dX12_sum_79 rfl ?_
          refine ab_getL dX12_sum_80 fl_X12_254 hM1.hs e2 ?_
          refine ab_lmul dX12_sum_83 ?_
          refine ab_aload_n dX12_sum_84 rfl ?_
          refine ab_getL dX12_sum_85 fl_X12_250 hM1.hs e1 ?_
          refine ab_lload dX12_sum_88 rfl ?_
          refine ab_lmul dX12_sum_90 ?_
          refine ab_ladd dX12_sum_91 ?_
          refine ab_topL zI_qadd ?_
          refine ab_lload dX12_sum_92 rfl ?_
          refine ab_aload_n dX12_sum_94 rfl ?_
          refine ab_getL dX12_sum_95 fl_X12_254 hM1.hs e2 ?_
          refine ab_lmul dX12_sum_98 ?_
          refine ab_topL (zI_mulN _ _) ?_
          refine ab_callVv [_, _] dX12_sum_99 ml_X12_271 mk_X12_tells hM1.hs (m_tellsL (P := q_add T (sA s i)) (k := 2) (b := 0) (Nat.le_refl _) hM1 (hq9.1.k1 (by decide)) hq9.1.2.1 (hq9.1.k2 (by decide))) (fun h3 hq => ?_)
          obtain ⟨g2, e1, e2⟩ := hq
          replace f := f.trans (ab_fM.ofL g2) (fun _ q => q) (fun _ q => q)
          replace hM1 := at_M.fL g2 hM1
          replace hD1 := hD1.fL g2
          refine ab_aload_n dX12_sum_102 rfl ?_
          refine ab_callVb [] dX12_sum_103 ml_X12_299 mk_X12_isGreat hM1.hs (m_isGreat (k := 0) (b := 0) (P := fR (q_add T (sA s i))) hM1 e1 e2 (hq9.1.R.k1 (by decide)) (hq9.1.R.k2 (by decide))) (fun t2 hh3 hq => ?_)
          obtain ⟨hhe, rfl⟩ := hq
          rw [hhe]
          refine ab_bif_eq 116 dX12_sum_106 (by decide) (fun c_106 => ?_) (fun c_106 => ?_)
          · skip
            refine ab_aload_n dX12_sum_116 rfl ?_
            refine ab_getL dX12_sum_117 fl_X12_250 hM1.hs e1 ?_
            refine ab_stl_n (ls' := [_, _, _, _, _, _, _, _]) dX12_sum_120 (by decide) rfl ?_
            refine ab_aload_n dX12_sum_121 rfl ?_
            refine ab_getL dX12_sum_122 fl_X12_254 hM1.hs e2 ?_
            refine ab_stl (ls' := [_, _, _, _, _, _, _, _]) dX12_sum_125 (by decide) rfl ?_
            refine ab_nincR (ls' := [_, _, _, _, _, _, _, _]) dX12_sum_127 rfl rfl ?_
            refine ab_goto 39 dX12_sum_130 (by decide) ?_
            first | exact ih (i + 1) _ T (by omega) f (su_no hs c_54) hTB | exact ih (i + 1) _ _ (by omega) f (su_3 hs c_54 (ofF c_67) (ofF c_106)) (suB_of hq9.1.R.2.1 (fR_0 hq9.2) (ofF c_106))
          · skip
            refine ab_aload_n dX12_sum_109 rfl ?_
            refine ab_bipush (v := -3) dX12_sum_110 (by decide) ?_
            refine ab_callVl [_] dX12_sum_112 ml_X12_178 mk_X12_refusedFar hM1.hs (m_refusedFar (k := 1) (b := 0) (c := 3) (Nat.le_refl _) hM1 (by decide) (by omega) (by omega)) (fun v1 hh1 hq => ?_)
            obtain ⟨hv, hh⟩ := hq
            refine ab_retl dX12_sum_115 ?_
            exact ab_lX_no (sp_sum_no hin hp hn (su_none (su_2 hs c_54 (ofF c_67) (ofT c_106)) _ (by omega))) f hv hh
        · skip
          refine ab_aload_n dX12_sum_70 rfl ?_
          refine ab_bipush (v := -3) dX12_sum_71 (by decide) ?_
          refine ab_callVl [_] dX12_sum_73 ml_X12_178 mk_X12_refusedFar hM1.hs (m_refusedFar (k := 1) (b := 0) (c := 3) (Nat.le_refl _) hM1 (by decide) (by omega) (by omega)) (fun v1 hh1 hq => ?_)
          obtain ⟨hv, hh⟩ := hq
          refine ab_retl dX12_sum_76 ?_
          exact ab_lX_no (sp_sum_no hin hp hn (su_none (su_1 hs c_54 (ofT c_67)) _ (by omega))) f hv hh
set_option maxRecDepth 100000 in
set_option maxHeartbeats 4000000 in
theorem m_sum {k b : Nat} {h : ab_H} {s : sS} {x p : Int32} (hk : 4 ≤ k) (hM : at_M (ab_sh h) (ab_r h)) (hD : sh_M s h) : ab_M k b mX12_sum [.ref 50, .int x, .int p] h (ab_pl (ab_lX 51 (ab_fM [] [] h) (ab_fM [] [] h) (sp_sum s x p))) := by
  have h11 := hD.W.2.1
  refine ab_enter ?_
  refine ab_aload_n dX12_sum_0 rfl ?_
  refine ab_iload_n dX12_sum_1 rfl ?_
  refine ab_callVb [_] dX12_sum_2 ml_X12_296 mk_X12_isSet hM.hs (m_isSet (k := 1) (b := 0) (Nat.le_refl _) hM hD) (fun t1 hh0 hq => ?_)
  obtain ⟨hhe, rfl⟩ := hq
  rw [hhe]
  refine ab_bif_ne 14 dX12_sum_5 (by decide) (fun c_5 => ?_) (fun c_5 => ?_)
  · skip
    refine ab_iload_n dX12_sum_14 rfl ?_
    refine ab_i2l dX12_sum_15 ?_
    refine ab_lconst (v := 0) dX12_sum_16 (by decide) ?_
    refine ab_lconst (v := 1) dX12_sum_17 (by decide) ?_
    refine ab_callSb [_, _, _] dX12_sum_18 ml_X12_123 mk_X12_isIn (m_isIn (k := 0) (b := 0) (Int32.toInt_toInt64 _) (lo := 0) (by decide) (hi := 1) (by decide)) (fun t2 hh2 hq => ?_)
    obtain ⟨hhe, rfl⟩ := hq
    rw [hhe]
    refine ab_bif_ne 31 dX12_sum_21 (by decide) (fun c_21 => ?_) (fun c_21 => ?_)
    · skip
      obtain ⟨n, rfl, hn1, hn⟩ := st_nat c_5
      refine ab_lconst (v := zI 0) dX12_sum_31 (by decide) ?_
      refine ab_stl_n (ls' := [_, _, _, _, _, _, _, _]) dX12_sum_32 (by decide) rfl ?_
      refine ab_lconst (v := zI ((1 : Nat) : Int)) dX12_sum_33 (by decide) ?_
      refine ab_stl (ls' := [_, _, _, _, _, _, _, _]) dX12_sum_34 (by decide) rfl ?_
      refine ab_iconst (v := nI 0) dX12_sum_36 (by decide) ?_
      refine ab_sti (ls' := [_, _, _, _, _, _, _, _]) dX12_sum_37 (by decide) rfl ?_
      exact lp_mSum (by omega) hM hD c_5 c_21 hn s.2.2.1 0 _ (0, 1) (by omega) (ab_fM.rf h) rfl ⟨⟨by decide, by decide, by decide⟩, by decide⟩
    · skip
      refine ab_aload_n dX12_sum_24 rfl ?_
      refine ab_bipush (v := -2) dX12_sum_25 (by decide) ?_
      refine ab_callVl [_] dX12_sum_27 ml_X12_178 mk_X12_refusedFar hM.hs (m_refusedFar (k := 1) (b := 0) (c := 2) (Nat.le_refl _) hM (by decide) (by omega) (by omega)) (fun v1 hh1 hq => ?_)
      obtain ⟨hv, hh⟩ := hq
      refine ab_retl dX12_sum_30 ?_
      exact ab_lX_no (by unfold sp_sum; rw [if_pos c_5, if_neg (fun q : ab_inr 0 1 p = true => ab_tf q c_21)]) (ab_fM.rf h) hv hh
  · skip
    refine ab_aload_n dX12_sum_8 rfl ?_
    refine ab_iconst (v := -1) dX12_sum_9 (by decide) ?_
    refine ab_callVl [_] dX12_sum_10 ml_X12_178 mk_X12_refusedFar hM.hs (m_refusedFar (k := 1) (b := 0) (c := 1) (Nat.le_refl _) hM (by decide) (by omega) (by omega)) (fun v1 hh1 hq => ?_)
    obtain ⟨hv, hh⟩ := hq
    refine ab_retl dX12_sum_13 ?_
    exact ab_lX_no (by unfold sp_sum; rw [if_neg (fun q => ab_tf q c_5)]) (ab_fM.rf h) hv hh
set_option maxRecDepth 100000 in
set_option maxHeartbeats 4000000 in
theorem lp_mAlike {k b n : Nat} {h : ab_H} {s : sS} (hk : 4 ≤ k) (hM : at_M (ab_sh h) (ab_r h)) (hD : sh_M s h) (hn : n < 2147483648) : ∀ (j i : Nat) (h1 : ab_H) (ok iF : Bool) (x y : Int64), i + j = s.2.2.1 → ab_fL h h1 → (al s n i).2 = ok → (((al s n i).1 = none ∧ iF = true) ∨ ∃ A, (al s n i).1 = some A ∧ iF = false ∧ x = zI A.1 ∧ y = zI (A.2 : Int) ∧ qB 147639151108467216 73819575554233608 A) → ab_R k b mX12_isAlike 13 [some (.ref 50), some (.int (nI n)), some (.int (nI ok.toNat)), some (.int (nI iF.toNat)), some (.long x), none, some (.long y), none, some (.int (nI i))] [] h1 (ab_pb (fun t h' => ab_fL h h' ∧ t = (al s n s.2.2.1).2)) := by
  intro j
  induction j with
  | zero =>
    intro i h1 ok iF x y hi f hok hc
    have h11 := hD.W.2.1
    have hM1 := at_M.fL f hM
    have hD1 := hD.fL f
    obtain rfl : i = s.2.2.1 := by omega
    refine ab_iload dX12_isAlike_13 rfl ?_
    refine ab_aload_n dX12_isAlike_15 rfl ?_
    refine ab_getI dX12_isAlike_16 fl_X12_238 hM1.hs hD1.nt ?_
    refine ab_nicmp_ge 91 dX12_isAlike_19 (by decide) (by omega) (by omega) (fun c_19 => ?_) (fun c_19 => ?_)
    · skip
      refine ab_iload_n dX12_isAlike_91 rfl ?_
      refine ab_retb dX12_isAlike_92 ?_
      exact ⟨f, hok.symm⟩
    · skip
      exact absurd (Nat.le_refl _) c_19
  | succ j ih =>
    intro i h1 ok iF x y hi f hok hc
    have h11 := hD.W.2.1
    have hM1 := at_M.fL f hM
    have hD1 := hD.fL f
    refine ab_iload dX12_isAlike_13 rfl ?_
    refine ab_aload_n dX12_isAlike_15 rfl ?_
    refine ab_getI dX12_isAlike_16 fl_X12_238 hM1.hs hD1.nt ?_
    refine ab_nicmp_ge 91 dX12_isAlike_19 (by decide) (by omega) (by omega) (fun c_19 => ?_) (fun c_19 => ?_)
    · skip
      exact absurd c_19 (by omega)
    · skip
      have hi9 : i < s.2.2.1 := by omega
      have hB := sA_B hD.W hi9
      refine ab_iload_n dX12_isAlike_22 rfl ?_
      refine ab_iload dX12_isAlike_23 rfl ?_
      refine ab_callSb [_, _] dX12_isAlike_25 ml_X12_199 mk_X12_has (m_has (k := 0) (b := 0) hn (by omega)) (fun t hh1 hq => ?_)
      obtain ⟨hhe, rfl⟩ := hq
      rw [hhe]
      refine ab_bif_eq 85 dX12_isAlike_28 (by decide) (fun c_28 => ?_) (fun c_28 => ?_)
      · skip
        refine ab_nincR (ls' := [_, _, _, _, _, _, _, _, _]) dX12_isAlike_85 rfl rfl ?_
        refine ab_goto 13 dX12_isAlike_88 (by decide) ?_
        first | exact ih (i + 1) _ ok iF x y (by omega) f (by rw [al_no c_28]; exact hok) (by rw [al_no c_28]; exact hc) | exact ih (i + 1) _ true false _ _ (by omega) f (by rw [al_yes c_28]; show ((al s n i).2 && (decide ((al s n i).1 = none) || decide ((al s n i).1 = some (sA s i)))) = true; rw [hok, c_38]; first | (rw [(hc.resolve_right (fun ⟨A, _, q, _⟩ => absurd (q.symm.trans c_42) Bool.false_ne_true)).1]; rfl) | (obtain ⟨A, a1, -, a3, a4, a5⟩ := hc.resolve_left (fun q => absurd (c_42.symm.trans q.2) Bool.false_ne_true); rw [a1]; have q1 := (zI_inj (zK_abs (hB.k1 (by decide))) (zK_abs (a5.k1 (by decide)))).mp (((lg_cmp_eq _ _).mp c_52).trans a3); have q2 := (zI_inj (hB.k2 (by decide)).z (a5.k2 (by decide)).z).mp (((lg_cmp_eq _ _).mp c_62).trans a4); have q3 : A = sA s i := Prod.ext q1.symm (by omega); rw [q3]; simp)) (Or.inr ⟨sA s i, by rw [al_yes c_28], rfl, rfl, rfl, hB⟩) | exact ih (i + 1) _ false false _ _ (by omega) f (by rw [al_yes c_28]; show ((al s n i).2 && (decide ((al s n i).1 = none) || decide ((al s n i).1 = some (sA s i)))) = false; first | (rw [hok, c_38]; rfl) | (obtain ⟨A, a1, -, a3, a4, a5⟩ := hc.resolve_left (fun q => absurd (c_42.symm.trans q.2) Bool.false_ne_true); rw [a1]; have q3 : ¬ A = sA s i := (fun q => by first | exact c_52 ((lg_cmp_eq _ _).mpr (by rw [a3, q])) | exact c_62 ((lg_cmp_eq _ _).mpr (by rw [a4, q]))); simp [q3])) (Or.inr ⟨sA s i, by rw [al_yes c_28], rfl, rfl, rfl, hB⟩)
      · skip
        refine ab_aload_n dX12_isAlike_31 rfl ?_
        refine ab_iload dX12_isAlike_32 rfl ?_
        refine ab_callVv [_] dX12_isAlike_34 ml_X12_282 mk_X12_areaOf hM1.hs (m_areaOf (k := 3) (b := 0) (Nat.le_refl _) hM1 hD1 hi9) (fun h2 hq => ?_)
        obtain ⟨g, e1, e2⟩ := hq
        replace f := f.trans g
        replace hM1 := at_M.fL g hM1
        replace hD1 := hD1.fL g
        refine ab_iload_n dX12_isAlike_37 rfl ?_
        refine ab_bif_eq 69 dX12_isAlike_38 (by decide) (fun c_38 => ?_) (fun c_38 => ?_)
        · skip
          refine ab_iconst (v := nI 0) dX12_isAlike_69 (by decide) ?_
          refine ab_sti_n (ls' := [_, _, _, _, _, _, _, _, _]) dX12_isAlike_70 (by decide) rfl ?_
          refine ab_aload_n dX12_isAlike_71 rfl ?_
          refine ab_getL dX12_isAlike_72 fl_X12_250 hM1.hs e1 ?_
          refine ab_stl (ls' := [_, _, _, _, _, _, _, _, _]) dX12_isAlike_75 (by decide) rfl ?_
          refine ab_aload_n dX12_isAlike_77 rfl ?_
          refine ab_getL dX12_isAlike_78 fl_X12_254 hM1.hs e2 ?_
          refine ab_stl (ls' := [_, _, _, _, _, _, _, _, _]) dX12_isAlike_81 (by decide) rfl ?_
          refine ab_iconst (v := nI 0) dX12_isAlike_83 (by decide) ?_
          refine ab_sti_n (ls' := [_, _, _, _, _, _, _, _, _]) dX12_isAlike_84 (by decide) rfl ?_
          refine ab_nincR (ls' := [_, _, _, _, _, _, _, _, _]) dX12_isAlike_85 rfl rfl ?_
          refine ab_goto 13 dX12_isAlike_88 (by decide) ?_
          first | exact ih (i + 1) _ ok iF x y (by omega) f (by rw [al_no c_28]; exact hok) (by rw [al_no c_28]; exact hc) | exact ih (i + 1) _ true false _ _ (by omega) f (by rw [al_yes c_28]; show ((al s n i).2 && (decide ((al s n i).1 = none) || decide ((al s n i).1 = some (sA s i)))) = true; rw [hok, c_38]; first | (rw [(hc.resolve_right (fun ⟨A, _, q, _⟩ => absurd (q.symm.trans c_42) Bool.false_ne_true)).1]; rfl) | (obtain ⟨A, a1, -, a3, a4, a5⟩ := hc.resolve_left (fun q => absurd (c_42.symm.trans q.2) Bool.false_ne_true); rw [a1]; have q1 := (zI_inj (zK_abs (hB.k1 (by decide))) (zK_abs (a5.k1 (by decide)))).mp (((lg_cmp_eq _ _).mp c_52).trans a3); have q2 := (zI_inj (hB.k2 (by decide)).z (a5.k2 (by decide)).z).mp (((lg_cmp_eq _ _).mp c_62).trans a4); have q3 : A = sA s i := Prod.ext q1.symm (by omega); rw [q3]; simp)) (Or.inr ⟨sA s i, by rw [al_yes c_28], rfl, rfl, rfl, hB⟩) | exact ih (i + 1) _ false false _ _ (by omega) f (by rw [al_yes c_28]; show ((al s n i).2 && (decide ((al s n i).1 = none) || decide ((al s n i).1 = some (sA s i)))) = false; first | (rw [hok, c_38]; rfl) | (obtain ⟨A, a1, -, a3, a4, a5⟩ := hc.resolve_left (fun q => absurd (c_42.symm.trans q.2) Bool.false_ne_true); rw [a1]; have q3 : ¬ A = sA s i := (fun q => by first | exact c_52 ((lg_cmp_eq _ _).mpr (by rw [a3, q])) | exact c_62 ((lg_cmp_eq _ _).mpr (by rw [a4, q]))); simp [q3])) (Or.inr ⟨sA s i, by rw [al_yes c_28], rfl, rfl, rfl, hB⟩)
        · skip
          refine ab_iload_n dX12_isAlike_41 rfl ?_
          refine ab_bif_ne 65 dX12_isAlike_42 (by decide) (fun c_42 => ?_) (fun c_42 => ?_)
          · skip
            refine ab_iconst (v := nI 1) dX12_isAlike_65 (by decide) ?_
            refine ab_goto 70 dX12_isAlike_66 (by decide) ?_
            refine ab_sti_n (ls' := [_, _, _, _, _, _, _, _, _]) dX12_isAlike_70 (by decide) rfl ?_
            refine ab_aload_n dX12_isAlike_71 rfl ?_
            refine ab_getL dX12_isAlike_72 fl_X12_250 hM1.hs e1 ?_
            refine ab_stl (ls' := [_, _, _, _, _, _, _, _, _]) dX12_isAlike_75 (by decide) rfl ?_
            refine ab_aload_n dX12_isAlike_77 rfl ?_
            refine ab_getL dX12_isAlike_78 fl_X12_254 hM1.hs e2 ?_
            refine ab_stl (ls' := [_, _, _, _, _, _, _, _, _]) dX12_isAlike_81 (by decide) rfl ?_
            refine ab_iconst (v := nI 0) dX12_isAlike_83 (by decide) ?_
            refine ab_sti_n (ls' := [_, _, _, _, _, _, _, _, _]) dX12_isAlike_84 (by decide) rfl ?_
            refine ab_nincR (ls' := [_, _, _, _, _, _, _, _, _]) dX12_isAlike_85 rfl rfl ?_
            refine ab_goto 13 dX12_isAlike_88 (by decide) ?_
            first | exact ih (i + 1) _ ok iF x y (by omega) f (by rw [al_no c_28]; exact hok) (by rw [al_no c_28]; exact hc) | exact ih (i + 1) _ true false _ _ (by omega) f (by rw [al_yes c_28]; show ((al s n i).2 && (decide ((al s n i).1 = none) || decide ((al s n i).1 = some (sA s i)))) = true; rw [hok, c_38]; first | (rw [(hc.resolve_right (fun ⟨A, _, q, _⟩ => absurd (q.symm.trans c_42) Bool.false_ne_true)).1]; rfl) | (obtain ⟨A, a1, -, a3, a4, a5⟩ := hc.resolve_left (fun q => absurd (c_42.symm.trans q.2) Bool.false_ne_true); rw [a1]; have q1 := (zI_inj (zK_abs (hB.k1 (by decide))) (zK_abs (a5.k1 (by decide)))).mp (((lg_cmp_eq _ _).mp c_52).trans a3); have q2 := (zI_inj (hB.k2 (by decide)).z (a5.k2 (by decide)).z).mp (((lg_cmp_eq _ _).mp c_62).trans a4); have q3 : A = sA s i := Prod.ext q1.symm (by omega); rw [q3]; simp)) (Or.inr ⟨sA s i, by rw [al_yes c_28], rfl, rfl, rfl, hB⟩) | exact ih (i + 1) _ false false _ _ (by omega) f (by rw [al_yes c_28]; show ((al s n i).2 && (decide ((al s n i).1 = none) || decide ((al s n i).1 = some (sA s i)))) = false; first | (rw [hok, c_38]; rfl) | (obtain ⟨A, a1, -, a3, a4, a5⟩ := hc.resolve_left (fun q => absurd (c_42.symm.trans q.2) Bool.false_ne_true); rw [a1]; have q3 : ¬ A = sA s i := (fun q => by first | exact c_52 ((lg_cmp_eq _ _).mpr (by rw [a3, q])) | exact c_62 ((lg_cmp_eq _ _).mpr (by rw [a4, q]))); simp [q3])) (Or.inr ⟨sA s i, by rw [al_yes c_28], rfl, rfl, rfl, hB⟩)
          · skip
            refine ab_aload_n dX12_isAlike_45 rfl ?_
            refine ab_getL dX12_isAlike_46 fl_X12_250 hM1.hs e1 ?_
            refine ab_lload dX12_isAlike_49 rfl ?_
            refine ab_lcmp dX12_isAlike_51 ?_
            refine ab_if_ne 69 dX12_isAlike_52 (by decide) (fun c_52 => ?_) (fun c_52 => ?_)
            · skip
              refine ab_iconst (v := nI 0) dX12_isAlike_69 (by decide) ?_
              refine ab_sti_n (ls' := [_, _, _, _, _, _, _, _, _]) dX12_isAlike_70 (by decide) rfl ?_
              refine ab_aload_n dX12_isAlike_71 rfl ?_
              refine ab_getL dX12_isAlike_72 fl_X12_250 hM1.hs e1 ?_
              refine ab_stl (ls' := [_, _, _, _, _, _, _, _, _]) dX12_isAlike_75 (by decide) rfl ?_
              refine ab_aload_n dX12_isAlike_77 rfl ?_
              refine ab_getL dX12_isAlike_78 fl_X12_254 hM1.hs e2 ?_
              refine ab_stl (ls' := [_, _, _, _, _, _, _, _, _]) dX12_isAlike_81 (by decide) rfl ?_
              refine ab_iconst (v := nI 0) dX12_isAlike_83 (by decide) ?_
              refine ab_sti_n (ls' := [_, _, _, _, _, _, _, _, _]) dX12_isAlike_84 (by decide) rfl ?_
              refine ab_nincR (ls' := [_, _, _, _, _, _, _, _, _]) dX12_isAlike_85 rfl rfl ?_
              refine ab_goto 13 dX12_isAlike_88 (by decide) ?_
              first | exact ih (i + 1) _ ok iF x y (by omega) f (by rw [al_no c_28]; exact hok) (by rw [al_no c_28]; exact hc) | exact ih (i + 1) _ true false _ _ (by omega) f (by rw [al_yes c_28]; show ((al s n i).2 && (decide ((al s n i).1 = none) || decide ((al s n i).1 = some (sA s i)))) = true; rw [hok, c_38]; first | (rw [(hc.resolve_right (fun ⟨A, _, q, _⟩ => absurd (q.symm.trans c_42) Bool.false_ne_true)).1]; rfl) | (obtain ⟨A, a1, -, a3, a4, a5⟩ := hc.resolve_left (fun q => absurd (c_42.symm.trans q.2) Bool.false_ne_true); rw [a1]; have q1 := (zI_inj (zK_abs (hB.k1 (by decide))) (zK_abs (a5.k1 (by decide)))).mp (((lg_cmp_eq _ _).mp c_52).trans a3); have q2 := (zI_inj (hB.k2 (by decide)).z (a5.k2 (by decide)).z).mp (((lg_cmp_eq _ _).mp c_62).trans a4); have q3 : A = sA s i := Prod.ext q1.symm (by omega); rw [q3]; simp)) (Or.inr ⟨sA s i, by rw [al_yes c_28], rfl, rfl, rfl, hB⟩) | exact ih (i + 1) _ false false _ _ (by omega) f (by rw [al_yes c_28]; show ((al s n i).2 && (decide ((al s n i).1 = none) || decide ((al s n i).1 = some (sA s i)))) = false; first | (rw [hok, c_38]; rfl) | (obtain ⟨A, a1, -, a3, a4, a5⟩ := hc.resolve_left (fun q => absurd (c_42.symm.trans q.2) Bool.false_ne_true); rw [a1]; have q3 : ¬ A = sA s i := (fun q => by first | exact c_52 ((lg_cmp_eq _ _).mpr (by rw [a3, q])) | exact c_62 ((lg_cmp_eq _ _).mpr (by rw [a4, q]))); simp [q3])) (Or.inr ⟨sA s i, by rw [al_yes c_28], rfl, rfl, rfl, hB⟩)
            · skip
              refine ab_aload_n dX12_isAlike_55 rfl ?_
              refine ab_getL dX12_isAlike_56 fl_X12_254 hM1.hs e2 ?_
              refine ab_lload dX12_isAlike_59 rfl ?_
              refine ab_lcmp dX12_isAlike_61 ?_
              refine ab_if_ne 69 dX12_isAlike_62 (by decide) (fun c_62 => ?_) (fun c_62 => ?_)
              · skip
                refine ab_iconst (v := nI 0) dX12_isAlike_69 (by decide) ?_
                refine ab_sti_n (ls' := [_, _, _, _, _, _, _, _, _]) dX12_isAlike_70 (by decide) rfl ?_
                refine ab_aload_n dX12_isAlike_71 rfl ?_
                refine ab_getL dX12_isAlike_72 fl_X12_250 hM1.hs e1 ?_
                refine ab_stl (ls' := [_, _, _, _, _, _, _, _, _]) dX12_isAlike_75 (by decide) rfl ?_
                refine ab_aload_n dX12_isAlike_77 rfl ?_
                refine ab_getL dX12_isAlike_78 fl_X12_254 hM1.hs e2 ?_
                refine ab_stl (ls' := [_, _, _, _, _, _, _, _, _]) dX12_isAlike_81 (by decide) rfl ?_
                refine ab_iconst (v := nI 0) dX12_isAlike_83 (by decide) ?_
                refine ab_sti_n (ls' := [_, _, _, _, _, _, _, _, _]) dX12_isAlike_84 (by decide) rfl ?_
                refine ab_nincR (ls' := [_, _, _, _, _, _, _, _, _]) dX12_isAlike_85 rfl rfl ?_
                refine ab_goto 13 dX12_isAlike_88 (by decide) ?_
                first | exact ih (i + 1) _ ok iF x y (by omega) f (by rw [al_no c_28]; exact hok) (by rw [al_no c_28]; exact hc) | exact ih (i + 1) _ true false _ _ (by omega) f (by rw [al_yes c_28]; show ((al s n i).2 && (decide ((al s n i).1 = none) || decide ((al s n i).1 = some (sA s i)))) = true; rw [hok, c_38]; first | (rw [(hc.resolve_right (fun ⟨A, _, q, _⟩ => absurd (q.symm.trans c_42) Bool.false_ne_true)).1]; rfl) | (obtain ⟨A, a1, -, a3, a4, a5⟩ := hc.resolve_left (fun q => absurd (c_42.symm.trans q.2) Bool.false_ne_true); rw [a1]; have q1 := (zI_inj (zK_abs (hB.k1 (by decide))) (zK_abs (a5.k1 (by decide)))).mp (((lg_cmp_eq _ _).mp c_52).trans a3); have q2 := (zI_inj (hB.k2 (by decide)).z (a5.k2 (by decide)).z).mp (((lg_cmp_eq _ _).mp c_62).trans a4); have q3 : A = sA s i := Prod.ext q1.symm (by omega); rw [q3]; simp)) (Or.inr ⟨sA s i, by rw [al_yes c_28], rfl, rfl, rfl, hB⟩) | exact ih (i + 1) _ false false _ _ (by omega) f (by rw [al_yes c_28]; show ((al s n i).2 && (decide ((al s n i).1 = none) || decide ((al s n i).1 = some (sA s i)))) = false; first | (rw [hok, c_38]; rfl) | (obtain ⟨A, a1, -, a3, a4, a5⟩ := hc.resolve_left (fun q => absurd (c_42.symm.trans q.2) Bool.false_ne_true); rw [a1]; have q3 : ¬ A = sA s i := (fun q => by first | exact c_52 ((lg_cmp_eq _ _).mpr (by rw [a3, q])) | exact c_62 ((lg_cmp_eq _ _).mpr (by rw [a4, q]))); simp [q3])) (Or.inr ⟨sA s i, by rw [al_yes c_28], rfl, rfl, rfl, hB⟩)
              · skip
                refine ab_iconst (v := nI 1) dX12_isAlike_65 (by decide) ?_
                refine ab_goto 70 dX12_isAlike_66 (by decide) ?_
                refine ab_sti_n (ls' := [_, _, _, _, _, _, _, _, _]) dX12_isAlike_70 (by decide) rfl ?_
                refine ab_aload_n dX12_isAlike_71 rfl ?_
                refine ab_getL dX12_isAlike_72 fl_X12_250 hM1.hs e1 ?_
                refine ab_stl (ls' := [_, _, _, _, _, _, _, _, _]) dX12_isAlike_75 (by decide) rfl ?_
                refine ab_aload_n dX12_isAlike_77 rfl ?_
                refine ab_getL dX12_isAlike_78 fl_X12_254 hM1.hs e2 ?_
                refine ab_stl (ls' := [_, _, _, _, _, _, _, _, _]) dX12_isAlike_81 (by decide) rfl ?_
                refine ab_iconst (v := nI 0) dX12_isAlike_83 (by decide) ?_
                refine ab_sti_n (ls' := [_, _, _, _, _, _, _, _, _]) dX12_isAlike_84 (by decide) rfl ?_
                refine ab_nincR (ls' := [_, _, _, _, _, _, _, _, _]) dX12_isAlike_85 rfl rfl ?_
                refine ab_goto 13 dX12_isAlike_88 (by decide) ?_
                first | exact ih (i + 1) _ ok iF x y (by omega) f (by rw [al_no c_28]; exact hok) (by rw [al_no c_28]; exact hc) | exact ih (i + 1) _ true false _ _ (by omega) f (by rw [al_yes c_28]; show ((al s n i).2 && (decide ((al s n i).1 = none) || decide ((al s n i).1 = some (sA s i)))) = true; rw [hok, c_38]; first | (rw [(hc.resolve_right (fun ⟨A, _, q, _⟩ => absurd (q.symm.trans c_42) Bool.false_ne_true)).1]; rfl) | (obtain ⟨A, a1, -, a3, a4, a5⟩ := hc.resolve_left (fun q => absurd (c_42.symm.trans q.2) Bool.false_ne_true); rw [a1]; have q1 := (zI_inj (zK_abs (hB.k1 (by decide))) (zK_abs (a5.k1 (by decide)))).mp (((lg_cmp_eq _ _).mp c_52).trans a3); have q2 := (zI_inj (hB.k2 (by decide)).z (a5.k2 (by decide)).z).mp (((lg_cmp_eq _ _).mp c_62).trans a4); have q3 : A = sA s i := Prod.ext q1.symm (by omega); rw [q3]; simp)) (Or.inr ⟨sA s i, by rw [al_yes c_28], rfl, rfl, rfl, hB⟩) | exact ih (i + 1) _ false false _ _ (by omega) f (by rw [al_yes c_28]; show ((al s n i).2 && (decide ((al s n i).1 = none) || decide ((al s n i).1 = some (sA s i)))) = false; first | (rw [hok, c_38]; rfl) | (obtain ⟨A, a1, -, a3, a4, a5⟩ := hc.resolve_left (fun q => absurd (c_42.symm.trans q.2) Bool.false_ne_true); rw [a1]; have q3 : ¬ A = sA s i := (fun q => by first | exact c_52 ((lg_cmp_eq _ _).mpr (by rw [a3, q])) | exact c_62 ((lg_cmp_eq _ _).mpr (by rw [a4, q]))); simp [q3])) (Or.inr ⟨sA s i, by rw [al_yes c_28], rfl, rfl, rfl, hB⟩)
set_option maxRecDepth 100000 in
set_option maxHeartbeats 4000000 in
theorem m_isAlike {k b n : Nat} {h : ab_H} {s : sS} (hk : 4 ≤ k) (hM : at_M (ab_sh h) (ab_r h)) (hD : sh_M s h) (hn : n < 2147483648) : ab_M k b mX12_isAlike [.ref 50, .int (nI n)] h (ab_pb (fun t h' => ab_fL h h' ∧ t = (al s n s.2.2.1).2)) := by
  have h11 := hD.W.2.1
  refine ab_enter ?_
  refine ab_iconst (v := nI 1) dX12_isAlike_0 (by decide) ?_
  refine ab_sti_n (ls' := [_, _, _, _, _, _, _, _, _]) dX12_isAlike_1 (by decide) rfl ?_
  refine ab_iconst (v := nI 1) dX12_isAlike_2 (by decide) ?_
  refine ab_sti_n (ls' := [_, _, _, _, _, _, _, _, _]) dX12_isAlike_3 (by decide) rfl ?_
  refine ab_lconst (v := 0) dX12_isAlike_4 (by decide) ?_
  refine ab_stl (ls' := [_, _, _, _, _, _, _, _, _]) dX12_isAlike_5 (by decide) rfl ?_
  refine ab_lconst (v := 1) dX12_isAlike_7 (by decide) ?_
  refine ab_stl (ls' := [_, _, _, _, _, _, _, _, _]) dX12_isAlike_8 (by decide) rfl ?_
  refine ab_iconst (v := nI 0) dX12_isAlike_10 (by decide) ?_
  refine ab_sti (ls' := [_, _, _, _, _, _, _, _, _]) dX12_isAlike_11 (by decide) rfl ?_
  exact lp_mAlike hk hM hD hn s.2.2.1 0 _ true true _ _ (by omega) (ab_fL.rf h) rfl (Or.inl ⟨rfl, rfl⟩)
