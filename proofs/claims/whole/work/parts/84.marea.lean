/-! ===== the model: areas ===== -/
theorem ar_step {P1 P2 : Int × Nat} (h1 : 0 < P1.2) (h2 : 0 < P2.2) : fR (fA 1 1 (q_sub (fR P1) (fR P2))) = fR (fA 1 1 (q_sub P1 P2)) := by
  rw [← fR_fA (p := q_sub (fR P1) (fR P2)) (Nat.mul_pos (fR_pos h1) (fR_pos h2)), fR_sub h1 h2, fR_fA (p := q_sub P1 P2) (Nat.mul_pos h1 h2)]
theorem ar_k {k : Nat} {T : Int × Nat} (hT : 0 < T.2) (h2 : ¬ k = 2) (h5 : ¬ k = 5) : fR (fA 1 (2 * dv k) (fR (fA 1 1 T))) = fR (fA (tm k) (2 * dv k) T) := by
  rw [fR_fA1 hT (by omega)]
  unfold tm
  rw [if_neg h2, if_neg h5]
  simp only [Nat.one_mul]
theorem ar_2 {T : Int × Nat} : fR (fA 1 1 T) = fR (fA (tm 2) (2 * dv 2) T) := by
  refine (fR_of (k := 2) (by omega) ?_ ?_).symm
  · show ((T.1.natAbs * 2 : Nat) : Int) = ((T.1.natAbs * 1 : Nat) : Int) * ((2 : Nat) : Int)
    rw [← Int.natCast_mul, Nat.mul_one]
  · show T.2 * (2 * 1) = T.2 * 1 * 2
    omega
theorem ar_5 {T : Int × Nat} (hT : 0 < T.2) : (0, 1) = fR (fA (tm 5) (2 * dv 5) T) := by
  rw [← fR_01]
  refine fR_eq (by decide) (Nat.mul_pos hT (by decide)) ?_
  show (0 : Int) * _ = ((T.1.natAbs * 0 : Nat) : Int) * _
  rw [Nat.mul_zero, Int.zero_mul]
  exact (Int.zero_mul _).symm
theorem ab_Mmono {k b : Nat} {M : ab_MK} {as : List Value} {h : ab_H} {post post' : Value → ab_H → Prop} (H : ab_M k b M as h post) (hp : ∀ v h', post v h' → post' v h') : ab_M k b M as h post' := fun B ex eA dA D l =>
  MetFree.mono (H B ex eA dA D l) (fun _ _ q => q) (fun _ _ _ _ _ q => q) (fun _ _ _ _ _ q => ⟨⟨q.1.1.elim fun v q1 => q1.elim fun h1 q2 => ⟨v, h1, q2.1, hp v h1 q2.2.1, q2.2.2⟩, q.1.2⟩, q.2⟩)
theorem m_tellsL {k b : Nat} {h : ab_H} {P : Int × Nat} (hk : 2 ≤ k) (hM : at_M (ab_sh h) (ab_r h)) (hn : nK P.1.natAbs) (hp : 0 < P.2) (hd : nK P.2) : ab_M k b mX12_tells [.ref 50, .long (zI P.1), .long (zI (P.2 : Int))] h (ab_pv (fun h' => ab_fL h h' ∧ ab_l h' 50 20 = zI (fR P).1 ∧ ab_l h' 50 21 = zI ((fR P).2 : Int))) :=
  ab_Mmono (m_tells hk hM hn hp hd) (fun v h' q => by
    replace q : h' = _ := q
    rw [q]
    exact ⟨((ab_fL.rf h).sl 20 _).sl 21 _, by rw [ab_l_sl_same, if_neg (by decide), ab_l_sl_same, if_pos rfl], by rw [ab_l_sl_same, if_pos rfl]⟩)
set_option maxRecDepth 100000 in
set_option maxHeartbeats 4000000 in
theorem m_areaOf {k b i : Nat} {h : ab_H} {s : sS} (hk : 3 ≤ k) (hM : at_M (ab_sh h) (ab_r h)) (hD : sh_M s h) (hi : i < s.2.2.1) : ab_M k b mX12_areaOf [.ref 50, .int (nI i)] h (ab_pv (fun h' => ab_fL h h' ∧ ab_l h' 50 20 = zI (sA s i).1 ∧ ab_l h' 50 21 = zI ((sA s i).2 : Int))) := by
  have hW := hD.W
  have h11 := hW.2.1
  obtain ⟨tk, ta, tb, tc⟩ := hW.2.2.2 i hi
  have h10 := hW.1
  have okA := hW.2.2.1 _ ta
  have okB := hW.2.2.1 _ tb
  have okC := hW.2.2.1 _ tc
  have cr := hD.tr hi
  refine ab_enter ?_
  have f : ab_fL h h := ab_fL.rf h
  refine ab_aload_n dX12_areaOf_0 rfl ?_
  refine ab_getR dX12_areaOf_1 fl_X12_70 hM.hs hM.p50_19 ?_
  refine ab_iconst (v := nI 3) dX12_areaOf_4 (by decide) ?_
  refine ab_iload_n dX12_areaOf_5 rfl ?_
  refine ab_nmulR dX12_areaOf_6 ?_
  refine ab_iald dX12_areaOf_7 hM.s64 rfl (by omega) cr.2.1 ?_
  refine ab_sti_n (ls' := [_, _, _, _, _, _, _, _, _]) dX12_areaOf_8 (by decide) rfl ?_
  refine ab_aload_n dX12_areaOf_9 rfl ?_
  refine ab_getR dX12_areaOf_10 fl_X12_70 hM.hs hM.p50_19 ?_
  refine ab_iconst (v := nI 3) dX12_areaOf_13 (by decide) ?_
  refine ab_iload_n dX12_areaOf_14 rfl ?_
  refine ab_nmulR dX12_areaOf_15 ?_
  refine ab_iconst (v := nI 1) dX12_areaOf_16 (by decide) ?_
  refine ab_naddR dX12_areaOf_17 ?_
  refine ab_iald dX12_areaOf_18 hM.s64 rfl (by omega) cr.2.2.1 ?_
  refine ab_sti_n (ls' := [_, _, _, _, _, _, _, _, _]) dX12_areaOf_19 (by decide) rfl ?_
  refine ab_aload_n dX12_areaOf_20 rfl ?_
  refine ab_getR dX12_areaOf_21 fl_X12_70 hM.hs hM.p50_19 ?_
  refine ab_iconst (v := nI 3) dX12_areaOf_24 (by decide) ?_
  refine ab_iload_n dX12_areaOf_25 rfl ?_
  refine ab_nmulR dX12_areaOf_26 ?_
  refine ab_iconst (v := nI 2) dX12_areaOf_27 (by decide) ?_
  refine ab_naddR dX12_areaOf_28 ?_
  refine ab_iald dX12_areaOf_29 hM.s64 rfl (by omega) cr.2.2.2 ?_
  refine ab_sti (ls' := [_, _, _, _, _, _, _, _, _]) dX12_areaOf_30 (by decide) rfl ?_
  refine ab_aload_n dX12_areaOf_32 rfl ?_
  refine ab_aload_n dX12_areaOf_33 rfl ?_
  refine ab_iload_n dX12_areaOf_34 rfl ?_
  refine ab_iload_n dX12_areaOf_35 rfl ?_
  refine ab_iconst (v := nI 0) dX12_areaOf_36 (by decide) ?_
  refine ab_callVl [_, _, _] dX12_areaOf_37 ml_X12_264 mk_X12_more hM.hs (m_more (k := 1) (b := 0) (e := 0) (Nat.le_refl _) hM hD tb ta (by decide)) (fun v hh hq => ?_)
  obtain ⟨hhe, rfl⟩ := hq
  rw [hhe]
  refine ab_aload_n dX12_areaOf_40 rfl ?_
  refine ab_iload dX12_areaOf_41 rfl ?_
  refine ab_iload_n dX12_areaOf_43 rfl ?_
  refine ab_iconst (v := nI 1) dX12_areaOf_44 (by decide) ?_
  refine ab_callVl [_, _, _] dX12_areaOf_45 ml_X12_264 mk_X12_more hM.hs (m_more (k := 1) (b := 0) (e := 1) (Nat.le_refl _) hM hD tc ta (by decide)) (fun v hh hq => ?_)
  obtain ⟨hhe, rfl⟩ := hq
  rw [hhe]
  refine ab_lmul dX12_areaOf_48 ?_
  refine ab_topL (zI_mul _ _) ?_
  refine ab_aload_n dX12_areaOf_49 rfl ?_
  refine ab_iload_n dX12_areaOf_50 rfl ?_
  refine ab_iload_n dX12_areaOf_51 rfl ?_
  refine ab_iconst (v := nI 0) dX12_areaOf_52 (by decide) ?_
  refine ab_callVl [_, _, _] dX12_areaOf_53 ml_X12_268 mk_X12_belowOf hM.hs (m_belowOf (k := 1) (b := 0) (e := 0) (Nat.le_refl _) hM hD tb ta (by decide)) (fun v hh hq => ?_)
  obtain ⟨hhe, rfl⟩ := hq
  rw [hhe]
  refine ab_aload_n dX12_areaOf_56 rfl ?_
  refine ab_iload dX12_areaOf_57 rfl ?_
  refine ab_iload_n dX12_areaOf_59 rfl ?_
  refine ab_iconst (v := nI 1) dX12_areaOf_60 (by decide) ?_
  refine ab_callVl [_, _, _] dX12_areaOf_61 ml_X12_268 mk_X12_belowOf hM.hs (m_belowOf (k := 1) (b := 0) (e := 1) (Nat.le_refl _) hM hD tc ta (by decide)) (fun v hh hq => ?_)
  obtain ⟨hhe, rfl⟩ := hq
  rw [hhe]
  refine ab_lmul dX12_areaOf_64 ?_
  refine ab_topL (zI_mulN _ _) ?_
  refine ab_callVv [_, _] dX12_areaOf_65 ml_X12_271 mk_X12_tells hM.hs (m_tellsL (P := (q_mul (q_sub (pq (s.2.1 (s.2.2.2 i).2.2.1).1) (pq (s.2.1 (s.2.2.2 i).2.1).1)) (q_sub (pq (s.2.1 (s.2.2.2 i).2.2.2).2) (pq (s.2.1 (s.2.2.2 i).2.1).2)))) (k := 2) (b := 0) (Nat.le_refl _) hM ((pB (dB okB.1 okA.1) (dB okC.2 okA.2)).k1 (by decide)) (pB (dB okB.1 okA.1) (dB okC.2 okA.2)).2.1 ((pB (dB okB.1 okA.1) (dB okC.2 okA.2)).k2 (by decide))) (fun h1 hq => ?_)
  obtain ⟨g, e1, e2⟩ := hq
  replace hM := at_M.fL g hM
  replace hD := sh_M.fL g hD
  replace f := f.trans g
  refine ab_aload_n dX12_areaOf_68 rfl ?_
  refine ab_getL dX12_areaOf_69 fl_X12_250 hM.hs e1 ?_
  refine ab_stl (ls' := [_, _, _, _, _, _, _, _, _]) dX12_areaOf_72 (by decide) rfl ?_
  refine ab_aload_n dX12_areaOf_74 rfl ?_
  refine ab_getL dX12_areaOf_75 fl_X12_254 hM.hs e2 ?_
  refine ab_stl (ls' := [_, _, _, _, _, _, _, _, _]) dX12_areaOf_78 (by decide) rfl ?_
  refine ab_aload_n dX12_areaOf_80 rfl ?_
  refine ab_aload_n dX12_areaOf_81 rfl ?_
  refine ab_iload dX12_areaOf_82 rfl ?_
  refine ab_iload_n dX12_areaOf_84 rfl ?_
  refine ab_iconst (v := nI 0) dX12_areaOf_85 (by decide) ?_
  refine ab_callVl [_, _, _] dX12_areaOf_86 ml_X12_264 mk_X12_more hM.hs (m_more (k := 1) (b := 0) (e := 0) (Nat.le_refl _) hM hD tc ta (by decide)) (fun v hh hq => ?_)
  obtain ⟨hhe, rfl⟩ := hq
  rw [hhe]
  refine ab_aload_n dX12_areaOf_89 rfl ?_
  refine ab_iload_n dX12_areaOf_90 rfl ?_
  refine ab_iload_n dX12_areaOf_91 rfl ?_
  refine ab_iconst (v := nI 1) dX12_areaOf_92 (by decide) ?_
  refine ab_callVl [_, _, _] dX12_areaOf_93 ml_X12_264 mk_X12_more hM.hs (m_more (k := 1) (b := 0) (e := 1) (Nat.le_refl _) hM hD tb ta (by decide)) (fun v hh hq => ?_)
  obtain ⟨hhe, rfl⟩ := hq
  rw [hhe]
  refine ab_lmul dX12_areaOf_96 ?_
  refine ab_topL (zI_mul _ _) ?_
  refine ab_aload_n dX12_areaOf_97 rfl ?_
  refine ab_iload dX12_areaOf_98 rfl ?_
  refine ab_iload_n dX12_areaOf_100 rfl ?_
  refine ab_iconst (v := nI 0) dX12_areaOf_101 (by decide) ?_
  refine ab_callVl [_, _, _] dX12_areaOf_102 ml_X12_268 mk_X12_belowOf hM.hs (m_belowOf (k := 1) (b := 0) (e := 0) (Nat.le_refl _) hM hD tc ta (by decide)) (fun v hh hq => ?_)
  obtain ⟨hhe, rfl⟩ := hq
  rw [hhe]
  refine ab_aload_n dX12_areaOf_105 rfl ?_
  refine ab_iload_n dX12_areaOf_106 rfl ?_
  refine ab_iload_n dX12_areaOf_107 rfl ?_
  refine ab_iconst (v := nI 1) dX12_areaOf_108 (by decide) ?_
  refine ab_callVl [_, _, _] dX12_areaOf_109 ml_X12_268 mk_X12_belowOf hM.hs (m_belowOf (k := 1) (b := 0) (e := 1) (Nat.le_refl _) hM hD tb ta (by decide)) (fun v hh hq => ?_)
  obtain ⟨hhe, rfl⟩ := hq
  rw [hhe]
  refine ab_lmul dX12_areaOf_112 ?_
  refine ab_topL (zI_mulN _ _) ?_
  refine ab_callVv [_, _] dX12_areaOf_113 ml_X12_271 mk_X12_tells hM.hs (m_tellsL (P := (q_mul (q_sub (pq (s.2.1 (s.2.2.2 i).2.2.2).1) (pq (s.2.1 (s.2.2.2 i).2.1).1)) (q_sub (pq (s.2.1 (s.2.2.2 i).2.2.1).2) (pq (s.2.1 (s.2.2.2 i).2.1).2)))) (k := 2) (b := 0) (Nat.le_refl _) hM ((pB (dB okC.1 okA.1) (dB okB.2 okA.2)).k1 (by decide)) (pB (dB okC.1 okA.1) (dB okB.2 okA.2)).2.1 ((pB (dB okC.1 okA.1) (dB okB.2 okA.2)).k2 (by decide))) (fun h1 hq => ?_)
  obtain ⟨g, e1, e2⟩ := hq
  replace hM := at_M.fL g hM
  replace hD := sh_M.fL g hD
  replace f := f.trans g
  refine ab_aload_n dX12_areaOf_116 rfl ?_
  refine ab_lload dX12_areaOf_117 rfl ?_
  refine ab_aload_n dX12_areaOf_119 rfl ?_
  refine ab_getL dX12_areaOf_120 fl_X12_254 hM.hs e2 ?_
  refine ab_lmul dX12_areaOf_123 ?_
  refine ab_aload_n dX12_areaOf_124 rfl ?_
  refine ab_getL dX12_areaOf_125 fl_X12_250 hM.hs e1 ?_
  refine ab_lload dX12_areaOf_128 rfl ?_
  refine ab_lmul dX12_areaOf_130 ?_
  refine ab_lsub dX12_areaOf_131 ?_
  refine ab_topL (zI_qsub (p := fR (q_mul (q_sub (pq (s.2.1 (s.2.2.2 i).2.2.1).1) (pq (s.2.1 (s.2.2.2 i).2.1).1)) (q_sub (pq (s.2.1 (s.2.2.2 i).2.2.2).2) (pq (s.2.1 (s.2.2.2 i).2.1).2)))) (q := fR (q_mul (q_sub (pq (s.2.1 (s.2.2.2 i).2.2.2).1) (pq (s.2.1 (s.2.2.2 i).2.1).1)) (q_sub (pq (s.2.1 (s.2.2.2 i).2.2.1).2) (pq (s.2.1 (s.2.2.2 i).2.1).2))))) ?_
  refine ab_mabs dX12_areaOf_132 ml_X12_13 ?_
  refine ab_topL ((zI_abs ((sB (pB (dB okB.1 okA.1) (dB okC.2 okA.2)).R (pB (dB okC.1 okA.1) (dB okB.2 okA.2)).R).k1 (by decide))).trans (congrArg (fun z : Nat => zI (z : Int)) (Nat.mul_one _).symm)) ?_
  refine ab_lload dX12_areaOf_135 rfl ?_
  refine ab_aload_n dX12_areaOf_137 rfl ?_
  refine ab_getL dX12_areaOf_138 fl_X12_254 hM.hs e2 ?_
  refine ab_lmul dX12_areaOf_141 ?_
  refine ab_topL ((zI_mulN _ _).trans (congrArg (fun z : Nat => zI (z : Int)) (Nat.mul_one _).symm)) ?_
  refine ab_callVv [_, _] dX12_areaOf_142 ml_X12_271 mk_X12_tells hM.hs (m_tellsL (P := fA 1 1 (q_sub (fR (q_mul (q_sub (pq (s.2.1 (s.2.2.2 i).2.2.1).1) (pq (s.2.1 (s.2.2.2 i).2.1).1)) (q_sub (pq (s.2.1 (s.2.2.2 i).2.2.2).2) (pq (s.2.1 (s.2.2.2 i).2.1).2)))) (fR (q_mul (q_sub (pq (s.2.1 (s.2.2.2 i).2.2.2).1) (pq (s.2.1 (s.2.2.2 i).2.1).1)) (q_sub (pq (s.2.1 (s.2.2.2 i).2.2.1).2) (pq (s.2.1 (s.2.2.2 i).2.1).2)))))) (k := 2) (b := 0) (Nat.le_refl _) hM (((sB (pB (dB okB.1 okA.1) (dB okC.2 okA.2)).R (pB (dB okC.1 okA.1) (dB okB.2 okA.2)).R).A (m := 1) (v := 1) (by decide)).k1 (by decide)) ((sB (pB (dB okB.1 okA.1) (dB okC.2 okA.2)).R (pB (dB okC.1 okA.1) (dB okB.2 okA.2)).R).A (m := 1) (v := 1) (by decide)).2.1 (((sB (pB (dB okB.1 okA.1) (dB okC.2 okA.2)).R (pB (dB okC.1 okA.1) (dB okB.2 okA.2)).R).A (m := 1) (v := 1) (by decide)).k2 (by decide))) (fun h1 hq => ?_)
  rw [show fR (fA 1 1 (q_sub (fR (q_mul (q_sub (pq (s.2.1 (s.2.2.2 i).2.2.1).1) (pq (s.2.1 (s.2.2.2 i).2.1).1)) (q_sub (pq (s.2.1 (s.2.2.2 i).2.2.2).2) (pq (s.2.1 (s.2.2.2 i).2.1).2)))) (fR (q_mul (q_sub (pq (s.2.1 (s.2.2.2 i).2.2.2).1) (pq (s.2.1 (s.2.2.2 i).2.1).1)) (q_sub (pq (s.2.1 (s.2.2.2 i).2.2.1).2) (pq (s.2.1 (s.2.2.2 i).2.1).2)))))) = (fR (fA 1 1 (aT (s.2.1 (s.2.2.2 i).2.1) (s.2.1 (s.2.2.2 i).2.2.1) (s.2.1 (s.2.2.2 i).2.2.2)))) from ar_step (pB (dB okB.1 okA.1) (dB okC.2 okA.2)).2.1 (pB (dB okC.1 okA.1) (dB okB.2 okA.2)).2.1] at hq
  obtain ⟨g, e1, e2⟩ := hq
  replace hM := at_M.fL g hM
  replace hD := sh_M.fL g hD
  replace f := f.trans g
  refine ab_aload_n dX12_areaOf_145 rfl ?_
  refine ab_getR dX12_areaOf_146 fl_X12_67 hM.hs hM.p50_18 ?_
  refine ab_iload_n dX12_areaOf_149 rfl ?_
  refine ab_iald dX12_areaOf_150 hM.s63 rfl (by omega) (hD.tr hi).1 ?_
  have hT0 : 0 < (aT (s.2.1 (s.2.2.2 i).2.1) (s.2.1 (s.2.2.2 i).2.2.1) (s.2.1 (s.2.2.2 i).2.2.2)).2 := (aT_B okA okB okC).2.1
  have n0 : 0 ≤ (fR (fA 1 1 (aT (s.2.1 (s.2.2.2 i).2.1) (s.2.1 (s.2.2.2 i).2.2.1) (s.2.1 (s.2.2.2 i).2.2.2)))).1 := fR_0 (Int.natCast_nonneg _)
  have nB := ((aT_B okA okB okC).A (m := 1) (v := 1) (by decide)).R
  have hk6 : (s.2.2.2 i).1 = 0 ∨ (s.2.2.2 i).1 = 1 ∨ (s.2.2.2 i).1 = 2 ∨ (s.2.2.2 i).1 = 3 ∨ (s.2.2.2 i).1 = 4 ∨ (s.2.2.2 i).1 = 5 := by omega
  rcases hk6 with e | e | e | e | e | e
  · refine ab_topI (congrArg nI e) ?_
    refine ab_tableOut 234 dX12_areaOf_151 (by decide) (by decide) ?_
    refine ab_aload_n dX12_areaOf_234 rfl ?_
    refine ab_aload_n dX12_areaOf_235 rfl ?_
    refine ab_getL dX12_areaOf_236 fl_X12_250 hM.hs e1 ?_
    refine ab_topL (congrArg zI (show (fR (fA 1 1 (aT (s.2.1 (s.2.2.2 i).2.1) (s.2.1 (s.2.2.2 i).2.2.1) (s.2.1 (s.2.2.2 i).2.2.2)))).1 = (((fR (fA 1 1 (aT (s.2.1 (s.2.2.2 i).2.1) (s.2.1 (s.2.2.2 i).2.2.1) (s.2.1 (s.2.2.2 i).2.2.2)))).1.natAbs * 1 : Nat) : Int) by omega)) ?_
    refine ab_ldc2 dX12_areaOf_239 kc_X12_230 ?_
    refine ab_topL (show (2 : Int64) = zI ((2 : Nat) : Int) by decide) ?_
    refine ab_aload_n dX12_areaOf_242 rfl ?_
    refine ab_getL dX12_areaOf_243 fl_X12_254 hM.hs e2 ?_
    refine ab_lmul dX12_areaOf_246 ?_
    refine ab_topL ((zI_mulN _ _).trans (congrArg (fun z : Nat => zI (z : Int)) (Nat.mul_comm _ _))) ?_
    refine ab_callVv [_, _] dX12_areaOf_247 ml_X12_271 mk_X12_tells hM.hs (m_tellsL (P := fA 1 2 (fR (fA 1 1 (aT (s.2.1 (s.2.2.2 i).2.1) (s.2.1 (s.2.2.2 i).2.2.1) (s.2.1 (s.2.2.2 i).2.2.2))))) (k := 2) (b := 0) (Nat.le_refl _) hM ((nB.A (m := 1) (v := 2) (by decide)).k1 (by decide)) (nB.A (m := 1) (v := 2) (by decide)).2.1 ((nB.A (m := 1) (v := 2) (by decide)).k2 (by decide))) (fun h1 hq => ?_)
    obtain ⟨g, e1, e2⟩ := hq
    replace hM := at_M.fL g hM
    replace hD := sh_M.fL g hD
    replace f := f.trans g
    refine ab_retv dX12_areaOf_250 ?_
    refine ⟨f, ?_, ?_⟩
    · exact e1.trans (congrArg (fun z : Int × Nat => zI z.1) (by unfold sA ar; rw [e]; exact ar_k (k := 0) hT0 (by decide) (by decide)))
    · exact e2.trans (congrArg (fun z : Int × Nat => zI (z.2 : Int)) (by unfold sA ar; rw [e]; exact ar_k (k := 0) hT0 (by decide) (by decide)))
  · refine ab_topI (congrArg nI e) ?_
    refine ab_tableIn (off := 33) 184 dX12_areaOf_151 (by decide) (by decide) (by decide) (by decide) ?_
    refine ab_aload_n dX12_areaOf_184 rfl ?_
    refine ab_aload_n dX12_areaOf_185 rfl ?_
    refine ab_getL dX12_areaOf_186 fl_X12_250 hM.hs e1 ?_
    refine ab_topL (congrArg zI (show (fR (fA 1 1 (aT (s.2.1 (s.2.2.2 i).2.1) (s.2.1 (s.2.2.2 i).2.2.1) (s.2.1 (s.2.2.2 i).2.2.2)))).1 = (((fR (fA 1 1 (aT (s.2.1 (s.2.2.2 i).2.1) (s.2.1 (s.2.2.2 i).2.2.1) (s.2.1 (s.2.2.2 i).2.2.2)))).1.natAbs * 1 : Nat) : Int) by omega)) ?_
    refine ab_ldc2 dX12_areaOf_189 kc_X12_275 ?_
    refine ab_topL (show (4 : Int64) = zI ((4 : Nat) : Int) by decide) ?_
    refine ab_aload_n dX12_areaOf_192 rfl ?_
    refine ab_getL dX12_areaOf_193 fl_X12_254 hM.hs e2 ?_
    refine ab_lmul dX12_areaOf_196 ?_
    refine ab_topL ((zI_mulN _ _).trans (congrArg (fun z : Nat => zI (z : Int)) (Nat.mul_comm _ _))) ?_
    refine ab_callVv [_, _] dX12_areaOf_197 ml_X12_271 mk_X12_tells hM.hs (m_tellsL (P := fA 1 4 (fR (fA 1 1 (aT (s.2.1 (s.2.2.2 i).2.1) (s.2.1 (s.2.2.2 i).2.2.1) (s.2.1 (s.2.2.2 i).2.2.2))))) (k := 2) (b := 0) (Nat.le_refl _) hM ((nB.A (m := 1) (v := 4) (by decide)).k1 (by decide)) (nB.A (m := 1) (v := 4) (by decide)).2.1 ((nB.A (m := 1) (v := 4) (by decide)).k2 (by decide))) (fun h1 hq => ?_)
    obtain ⟨g, e1, e2⟩ := hq
    replace hM := at_M.fL g hM
    replace hD := sh_M.fL g hD
    replace f := f.trans g
    refine ab_goto 250 dX12_areaOf_200 (by decide) ?_
    refine ab_retv dX12_areaOf_250 ?_
    refine ⟨f, ?_, ?_⟩
    · exact e1.trans (congrArg (fun z : Int × Nat => zI z.1) (by unfold sA ar; rw [e]; exact ar_k (k := 1) hT0 (by decide) (by decide)))
    · exact e2.trans (congrArg (fun z : Int × Nat => zI (z.2 : Int)) (by unfold sA ar; rw [e]; exact ar_k (k := 1) hT0 (by decide) (by decide)))
  · refine ab_topI (congrArg nI e) ?_
    refine ab_tableIn (off := 52) 203 dX12_areaOf_151 (by decide) (by decide) (by decide) (by decide) ?_
    refine ab_goto 250 dX12_areaOf_203 (by decide) ?_
    refine ab_retv dX12_areaOf_250 ?_
    refine ⟨f, ?_, ?_⟩
    · exact e1.trans (congrArg (fun z : Int × Nat => zI z.1) (by unfold sA ar; rw [e]; exact ar_2))
    · exact e2.trans (congrArg (fun z : Int × Nat => zI (z.2 : Int)) (by unfold sA ar; rw [e]; exact ar_2))
  · refine ab_topI (congrArg nI e) ?_
    refine ab_tableIn (off := 83) 234 dX12_areaOf_151 (by decide) (by decide) (by decide) (by decide) ?_
    refine ab_aload_n dX12_areaOf_234 rfl ?_
    refine ab_aload_n dX12_areaOf_235 rfl ?_
    refine ab_getL dX12_areaOf_236 fl_X12_250 hM.hs e1 ?_
    refine ab_topL (congrArg zI (show (fR (fA 1 1 (aT (s.2.1 (s.2.2.2 i).2.1) (s.2.1 (s.2.2.2 i).2.2.1) (s.2.1 (s.2.2.2 i).2.2.2)))).1 = (((fR (fA 1 1 (aT (s.2.1 (s.2.2.2 i).2.1) (s.2.1 (s.2.2.2 i).2.2.1) (s.2.1 (s.2.2.2 i).2.2.2)))).1.natAbs * 1 : Nat) : Int) by omega)) ?_
    refine ab_ldc2 dX12_areaOf_239 kc_X12_230 ?_
    refine ab_topL (show (2 : Int64) = zI ((2 : Nat) : Int) by decide) ?_
    refine ab_aload_n dX12_areaOf_242 rfl ?_
    refine ab_getL dX12_areaOf_243 fl_X12_254 hM.hs e2 ?_
    refine ab_lmul dX12_areaOf_246 ?_
    refine ab_topL ((zI_mulN _ _).trans (congrArg (fun z : Nat => zI (z : Int)) (Nat.mul_comm _ _))) ?_
    refine ab_callVv [_, _] dX12_areaOf_247 ml_X12_271 mk_X12_tells hM.hs (m_tellsL (P := fA 1 2 (fR (fA 1 1 (aT (s.2.1 (s.2.2.2 i).2.1) (s.2.1 (s.2.2.2 i).2.2.1) (s.2.1 (s.2.2.2 i).2.2.2))))) (k := 2) (b := 0) (Nat.le_refl _) hM ((nB.A (m := 1) (v := 2) (by decide)).k1 (by decide)) (nB.A (m := 1) (v := 2) (by decide)).2.1 ((nB.A (m := 1) (v := 2) (by decide)).k2 (by decide))) (fun h1 hq => ?_)
    obtain ⟨g, e1, e2⟩ := hq
    replace hM := at_M.fL g hM
    replace hD := sh_M.fL g hD
    replace f := f.trans g
    refine ab_retv dX12_areaOf_250 ?_
    refine ⟨f, ?_, ?_⟩
    · exact e1.trans (congrArg (fun z : Int × Nat => zI z.1) (by unfold sA ar; rw [e]; exact ar_k (k := 3) hT0 (by decide) (by decide)))
    · exact e2.trans (congrArg (fun z : Int × Nat => zI (z.2 : Int)) (by unfold sA ar; rw [e]; exact ar_k (k := 3) hT0 (by decide) (by decide)))
  · refine ab_topI (congrArg nI e) ?_
    refine ab_tableIn (off := 55) 206 dX12_areaOf_151 (by decide) (by decide) (by decide) (by decide) ?_
    refine ab_aload_n dX12_areaOf_206 rfl ?_
    refine ab_aload_n dX12_areaOf_207 rfl ?_
    refine ab_getL dX12_areaOf_208 fl_X12_250 hM.hs e1 ?_
    refine ab_topL (congrArg zI (show (fR (fA 1 1 (aT (s.2.1 (s.2.2.2 i).2.1) (s.2.1 (s.2.2.2 i).2.2.1) (s.2.1 (s.2.2.2 i).2.2.2)))).1 = (((fR (fA 1 1 (aT (s.2.1 (s.2.2.2 i).2.1) (s.2.1 (s.2.2.2 i).2.2.1) (s.2.1 (s.2.2.2 i).2.2.2)))).1.natAbs * 1 : Nat) : Int) by omega)) ?_
    refine ab_ldc2 dX12_areaOf_211 kc_X12_277 ?_
    refine ab_topL (show (8 : Int64) = zI ((8 : Nat) : Int) by decide) ?_
    refine ab_aload_n dX12_areaOf_214 rfl ?_
    refine ab_getL dX12_areaOf_215 fl_X12_254 hM.hs e2 ?_
    refine ab_lmul dX12_areaOf_218 ?_
    refine ab_topL ((zI_mulN _ _).trans (congrArg (fun z : Nat => zI (z : Int)) (Nat.mul_comm _ _))) ?_
    refine ab_callVv [_, _] dX12_areaOf_219 ml_X12_271 mk_X12_tells hM.hs (m_tellsL (P := fA 1 8 (fR (fA 1 1 (aT (s.2.1 (s.2.2.2 i).2.1) (s.2.1 (s.2.2.2 i).2.2.1) (s.2.1 (s.2.2.2 i).2.2.2))))) (k := 2) (b := 0) (Nat.le_refl _) hM ((nB.A (m := 1) (v := 8) (by decide)).k1 (by decide)) (nB.A (m := 1) (v := 8) (by decide)).2.1 ((nB.A (m := 1) (v := 8) (by decide)).k2 (by decide))) (fun h1 hq => ?_)
    obtain ⟨g, e1, e2⟩ := hq
    replace hM := at_M.fL g hM
    replace hD := sh_M.fL g hD
    replace f := f.trans g
    refine ab_goto 250 dX12_areaOf_222 (by decide) ?_
    refine ab_retv dX12_areaOf_250 ?_
    refine ⟨f, ?_, ?_⟩
    · exact e1.trans (congrArg (fun z : Int × Nat => zI z.1) (by unfold sA ar; rw [e]; exact ar_k (k := 4) hT0 (by decide) (by decide)))
    · exact e2.trans (congrArg (fun z : Int × Nat => zI (z.2 : Int)) (by unfold sA ar; rw [e]; exact ar_k (k := 4) hT0 (by decide) (by decide)))
  · refine ab_topI (congrArg nI e) ?_
    refine ab_tableIn (off := 74) 225 dX12_areaOf_151 (by decide) (by decide) (by decide) (by decide) ?_
    refine ab_aload_n dX12_areaOf_225 rfl ?_
    refine ab_lconst (v := zI 0) dX12_areaOf_226 (by decide) ?_
    refine ab_lconst (v := zI ((1 : Nat) : Int)) dX12_areaOf_227 (by decide) ?_
    refine ab_callVv [_, _] dX12_areaOf_228 ml_X12_271 mk_X12_tells hM.hs (m_tellsL (P := ((0 : Int), (1 : Nat))) (k := 2) (b := 0) (Nat.le_refl _) hM ((show qB 1 1 ((0 : Int), (1 : Nat)) from ⟨by decide, by decide, by decide⟩).k1 (by decide)) (show qB 1 1 ((0 : Int), (1 : Nat)) from ⟨by decide, by decide, by decide⟩).2.1 ((show qB 1 1 ((0 : Int), (1 : Nat)) from ⟨by decide, by decide, by decide⟩).k2 (by decide))) (fun h1 hq => ?_)
    obtain ⟨g, e1, e2⟩ := hq
    replace hM := at_M.fL g hM
    replace hD := sh_M.fL g hD
    replace f := f.trans g
    refine ab_goto 250 dX12_areaOf_231 (by decide) ?_
    refine ab_retv dX12_areaOf_250 ?_
    refine ⟨f, ?_, ?_⟩
    · exact e1.trans (congrArg (fun z : Int × Nat => zI z.1) (by unfold sA ar; rw [e, fR_01]; exact ar_5 hT0))
    · exact e2.trans (congrArg (fun z : Int × Nat => zI (z.2 : Int)) (by unfold sA ar; rw [e, fR_01]; exact ar_5 hT0))
set_option maxRecDepth 100000 in
set_option maxHeartbeats 4000000 in
theorem m_areaValuation {k b i : Nat} {h : ab_H} {s : sS} (hk : 4 ≤ k) (hM : at_M (ab_sh h) (ab_r h)) (hD : sh_M s h) (hi : i < s.2.2.1) : ab_M k b mX12_areaValuation [.ref 50, .int (nI i)] h (ab_pi (fun v h' => ab_fL h h' ∧ v = iI (vQ (sA s i)))) := by
  have h11 := hD.W.2.1
  refine ab_enter ?_
  refine ab_aload_n dX12_areaValuation_0 rfl ?_
  refine ab_iload_n dX12_areaValuation_1 rfl ?_
  refine ab_callVv [_] dX12_areaValuation_2 ml_X12_282 mk_X12_areaOf hM.hs (m_areaOf (k := 3) (b := 0) (Nat.le_refl _) hM hD hi) (fun h1 hq => ?_)
  obtain ⟨f, e1, e2⟩ := hq
  have hM1 := at_M.fL f hM
  refine ab_aload_n dX12_areaValuation_5 rfl ?_
  refine ab_getL dX12_areaValuation_6 fl_X12_250 hM1.hs e1 ?_
  refine ab_aload_n dX12_areaValuation_9 rfl ?_
  refine ab_getL dX12_areaValuation_10 fl_X12_254 hM1.hs e2 ?_
  refine ab_callSi [_, _] dX12_areaValuation_13 ml_X12_223 mk_X12_valuation (m_val (P := sA s i) (k := 3) (b := 0) (Nat.le_refl _) (sA_0 _ _) ((sA_B hD.W hi).k1 (by decide)) (sA_B hD.W hi).2.1 ((sA_B hD.W hi).k2 (by decide))) (fun v hh hq => ?_)
  obtain ⟨hhe, rfl⟩ := hq
  rw [hhe]
  refine ab_reti dX12_areaValuation_16 ?_
  exact ⟨f, rfl⟩
