/-! ===== racks: the class's calls ===== -/
theorem pl_C.lt {h : ab_H} {w : Nat} {p : Option (Nat × Int)} (H : pl_C h w p) : w = 0 ∨ (ab_sh h w = (10, 0) ∧ w < 5 + ab_n h) := by
  cases p with
  | none => exact Or.inl (H.1 rfl)
  | some v =>
    obtain ⟨t, c, A, q1, -⟩ := H.2 v.1 v.2 rfl
    exact Or.inr ⟨q1.2.2.1, q1.2.1⟩
theorem pl_C.no {h : ab_H} : pl_C h 0 none := ⟨fun _ => rfl, fun _ _ q => absurd q (by simp)⟩
theorem pl_C.tr {h : ab_H} {w k c : Nat} {t : Nat × Nat × Nat × Nat} {A : Int × Nat} (q1 : tr_at h w t c A) (q2 : t.1 = k) (q3 : k < 6) (q4 : 0 ≤ A.1) (q5 : qB 147639151108467216 73819575554233608 A) : pl_C h w (some (k, vQ A)) := ⟨fun q => absurd q (by simp), fun k' v' q => by
  injection q with q
  injection q with z1 z2
  rw [← z1, ← z2]
  exact ⟨t, c, A, q1, q2, q3, rfl, q4, q5⟩⟩
set_option maxRecDepth 100000 in
set_option maxHeartbeats 4000000 in
theorem c_rack {k b : Nat} {h : ab_H} {R : rS} {x y z : Int32} (hk : 1 ≤ k) (hb : ab_bs h) (hC : at_C (ab_sh h) (ab_r h)) (hR : rk_C R h) : ab_M k b mX11_rack [.ref 5, .int x, .int y, .int z] h (ab_pi (ab_oX 37 (ab_gr [] [] h) (fun h' => ab_gr [38, 42, 46] [39, 43, 47] h h' ∧ rk_C (nx_rack R x y z) h') (sp_rack x y z))) := by
  refine ab_enter ?_
  refine ab_iload_n dX11_rack_0 rfl ?_
  refine ab_callSb [_] dX11_rack_1 ml_X11_301 mk_X11_isRow (c_isRow (k := 0) (b := 0)) (fun t1 hh0 hq => ?_)
  obtain ⟨hhe, rfl⟩ := hq
  rw [hhe]
  refine ab_bif_ne 13 dX11_rack_4 (by decide) (fun c_4 => ?_) (fun c_4 => ?_)
  · skip
    refine ab_iload_n dX11_rack_13 rfl ?_
    refine ab_callSb [_] dX11_rack_14 ml_X11_219 mk_X10_isKind (c_isKind (k := 0) (b := 0)) (fun t2 hh2 hq => ?_)
    obtain ⟨hhe, rfl⟩ := hq
    rw [hhe]
    refine ab_bif_ne 27 dX11_rack_17 (by decide) (fun c_17 => ?_) (fun c_17 => ?_)
    · skip
      refine ab_iload_n dX11_rack_27 rfl ?_
      refine ab_bipush (v := nI 9) dX11_rack_28 (by decide) ?_
      refine ab_icmp_le 40 dX11_rack_30 (by decide) (fun c_30 => ?_) (fun c_30 => ?_)
      · skip
        refine ab_iload_n dX11_rack_40 rfl ?_
        refine ab_if_ge 47 dX11_rack_41 (by decide) (fun c_41 => ?_) (fun c_41 => ?_)
        · skip
          have hn0 : 0 ≤ z.toInt := ab_ge0.mp c_41
          have hn40 := (ab_Nle (n := 9) (by omega)).mp c_30
          have c_4k := c_4
          have c_17k := c_17
          obtain ⟨r, rfl, hr2, hr31⟩ := ab_inr_nat (n := 2) c_4
          have hr : r < 3 := by omega
          obtain ⟨eR, hA⟩ := hC.ra hr
          obtain ⟨kd, rfl, hk5, hk31⟩ := ab_inr_nat (n := 5) c_17
          refine ab_aload_n dX11_rack_47 rfl ?_
          refine ab_getR dX11_rack_48 fl_X11_46 hC.hs hC.p5_5 ?_
          refine ab_iload_n dX11_rack_51 rfl ?_
          refine ab_aald (t := 4) dX11_rack_52 hC.s35 rfl (by omega) eR ?_
          refine ab_iload_n dX11_rack_53 rfl ?_
          refine ab_iload_n dX11_rack_54 rfl ?_
          refine ab_callVv [_, _] dX11_rack_55 ml_X11_304 mk_X7_makeFor hA.1 (c_makeFor (k := 0) (b := 0) hb (by omega) hA) (fun h1 hq => ?_)
          obtain ⟨f, e1, e2, e3⟩ := hq
          refine ab_iconst (v := nI 1) dX11_rack_58 (by decide) ?_
          refine ab_reti dX11_rack_59 ?_
          obtain ⟨n, rfl, hn31⟩ := ab_of0 (ab_ge0.mpr hn0)
          rw [nI_toInt hn31] at hn40 hn0
          refine ab_oX_ok (by unfold sp_rack; rw [if_pos c_4k, if_pos c_17k, nI_toInt hn31, if_neg (by omega), if_neg (by omega)]; rfl) ?_
          unfold nx_rack
          rw [nI_toInt hn31, if_neg (by omega), nI_clamp hr31, nI_clamp hn31, nI_clamp hk31]
          exact hR.up hb hr f (by omega) (by omega) e1 e2 (fun j hj => by rw [e3 j hj]; exact pl_C.no)
        · skip
          refine ab_bipush (v := -14) dX11_rack_44 (by decide) ?_
          refine ab_reti dX11_rack_46 ?_
          have hn0 : z.toInt < 0 := by have := mt ab_ge0.mpr c_41; omega
          exact ab_oX_ok (by unfold sp_rack; rw [if_pos c_4, if_pos c_17, if_neg (by have := (ab_Nle (n := 9) (by omega)).mp c_30; omega), if_pos hn0]) ⟨ab_gr.rf h, by unfold nx_rack; rw [if_pos hn0]; exact hR⟩
      · skip
        refine ab_aload_n dX11_rack_33 rfl ?_
        refine ab_bipush (v := -6) dX11_rack_34 (by decide) ?_
        refine ab_callVi [_] dX11_rack_36 ml_X11_66 mk_X11_refuse hC.hs (c_refuse (k := 0) (b := 0) (c := 6) hC (by decide) (by omega) (by omega)) (fun v1 hh1 hq => ?_)
        obtain ⟨hv, hh⟩ := hq
        refine ab_reti dX11_rack_39 ?_
        exact ab_oX_no (by unfold sp_rack; rw [if_pos c_4, if_pos c_17, if_pos (by have := mt (ab_Nle (n := 9) (by omega)).mpr c_30; omega)]) (ab_gr.rf h) hv hh
    · skip
      refine ab_aload_n dX11_rack_20 rfl ?_
      refine ab_bipush (v := -2) dX11_rack_21 (by decide) ?_
      refine ab_callVi [_] dX11_rack_23 ml_X11_66 mk_X11_refuse hC.hs (c_refuse (k := 0) (b := 0) (c := 2) hC (by decide) (by omega) (by omega)) (fun v1 hh1 hq => ?_)
      obtain ⟨hv, hh⟩ := hq
      refine ab_reti dX11_rack_26 ?_
      exact ab_oX_no (by unfold sp_rack; rw [if_pos c_4, if_neg (fun q => ab_tf q c_17)]) (ab_gr.rf h) hv hh
  · skip
    refine ab_aload_n dX11_rack_7 rfl ?_
    refine ab_iconst (v := -1) dX11_rack_8 (by decide) ?_
    refine ab_callVi [_] dX11_rack_9 ml_X11_66 mk_X11_refuse hC.hs (c_refuse (k := 0) (b := 0) (c := 1) hC (by decide) (by omega) (by omega)) (fun v1 hh1 hq => ?_)
    obtain ⟨hv, hh⟩ := hq
    refine ab_reti dX11_rack_12 ?_
    exact ab_oX_no (by unfold sp_rack; rw [if_neg (fun q => ab_tf q c_4)]) (ab_gr.rf h) hv hh
set_option maxRecDepth 100000 in
set_option maxHeartbeats 4000000 in
theorem c_racks {k b : Nat} {h : ab_H} {s : sS} {R : rS} {x y u : Int32} (hk : 3 ≤ k) (hb : ab_bs h) (hE : ab_cs h) (hC : at_C (ab_sh h) (ab_r h)) (hD : sh_C 19 s h) (hR : rk_C R h) : ab_M k b mX11_racks [.ref 5, .int x, .int y, .int u] h (ab_pi (ab_oX 37 (ab_gr [] [] h) (fun h' => ab_gr [38, 42, 46] [39, 43, 47] h h' ∧ rk_C (nx_racks s R x y u) h') (sp_racks s R x y u))) := by
  have h11 := hD.W.2.1
  refine ab_enter ?_
  refine ab_iload_n dX11_racks_0 rfl ?_
  refine ab_iconst (v := -1) dX11_racks_1 (by decide) ?_
  refine ab_icmp_ne 9 dX11_racks_2 (by decide) (fun c_2 => ?_) (fun c_2 => ?_)
  · have h1t := c_2
    refine ab_iconst (v := nI 0) dX11_racks_9 (by decide) ?_
    refine ab_sti (ls' := [_, _, _, _, _, _, _]) dX11_racks_10 (by decide) rfl ?_
    refine ab_iload_n dX11_racks_12 rfl ?_
    refine ab_callSb [_] dX11_racks_13 ml_X11_301 mk_X11_isRow (c_isRow (k := 0) (b := 0)) (fun t1 hh0 hq => ?_)
    obtain ⟨hhe, rfl⟩ := hq
    rw [hhe]
    refine ab_bif_eq 35 dX11_racks_16 (by decide) (fun c_16 => ?_) (fun c_16 => ?_)
    · skip
      refine ab_aload_n dX11_racks_35 rfl ?_
      refine ab_iconst (v := -1) dX11_racks_36 (by decide) ?_
      refine ab_callVi [_] dX11_racks_37 ml_X11_66 mk_X11_refuse hC.hs (c_refuse (k := 0) (b := 0) (c := 1) hC (by decide) (by omega) (by omega)) (fun v1 hh1 hq => ?_)
      obtain ⟨hv, hh⟩ := hq
      refine ab_reti dX11_racks_40 ?_
      exact ab_oX_no (by unfold sp_racks; rw [if_neg (fun q => by first | exact ab_tf q.1 c_16 | exact q.2.elim h1t (fun z => ab_tf z c_32))]) (ab_gr.rf h) hv hh
    · skip
      refine ab_iload dX11_racks_19 rfl ?_
      refine ab_nif_ne 41 dX11_racks_21 (by decide) (by omega) (fun c_21 => ?_) (fun c_21 => ?_)
      · skip
        exact absurd rfl c_21
      · skip
        refine ab_aload_n dX11_racks_24 rfl ?_
        refine ab_getR dX11_racks_25 fl_X11_26 hC.hs hC.p5_2 ?_
        refine ab_iload_n dX11_racks_28 rfl ?_
        refine ab_callVb [_] dX11_racks_29 ml_X11_235 mk_X9_hasTriangle hC.shapes.1 (c_hasTriangle (k := 0) (b := 0) hC.shapes hD) (fun t5 hh5 hq => ?_)
        obtain ⟨hhe, rfl⟩ := hq
        rw [hhe]
        refine ab_bif_ne 41 dX11_racks_32 (by decide) (fun c_32 => ?_) (fun c_32 => ?_)
        · skip
          have hcond : u = -1 ∨ ab_inr 0 ((s.2.2.1 : Int) - 1) u = true := Or.inr c_32
          obtain ⟨ti, rfl, hti, hti31⟩ := bd_inr_n (by omega) c_32
          have hT := hD.tr ti hti
          have c_16k := c_16
          obtain ⟨r, rfl, hr2, hr31⟩ := ab_inr_nat (n := 2) c_16
          have hr : r < 3 := by omega
          obtain ⟨eR, hA⟩ := hC.ra hr
          obtain ⟨q1, q2⟩ := hR r hr
          cases e : R r with
          | none =>
            have hz9 := q1 e
            refine ab_aload_n dX11_racks_41 rfl ?_
            refine ab_getR dX11_racks_42 fl_X11_46 hC.hs hC.p5_5 ?_
            refine ab_iload_n dX11_racks_45 rfl ?_
            refine ab_aald (t := 4) dX11_racks_46 hC.s35 rfl (by omega) eR ?_
            refine ab_sta (ls' := [_, _, _, _, _, _, _]) dX11_racks_47 (by decide) rfl ?_
            refine ab_aload dX11_racks_49 rfl ?_
            refine ab_callVb [] dX11_racks_51 ml_X11_307 mk_X7_isMissing hA.1 (c_raMissing (k := 0) (b := 0) hA hz9) (fun t2 hh2 hq => ?_)
            obtain ⟨hhe, rfl⟩ := hq
            rw [hhe]
            refine ab_bif_eq 60 dX11_racks_54 (by decide) (fun c_54 => ?_) (fun c_54 => ?_)
            · skip
              exact absurd c_54 (by decide)
            · skip
              refine ab_bipush (v := -11) dX11_racks_57 (by decide) ?_
              refine ab_reti dX11_racks_59 ?_
              exact ab_oX_ok (by unfold sp_racks; rw [if_pos ⟨c_16k, hcond⟩, nI_clamp hr31, e]) ⟨ab_gr.rf h, (by unfold nx_racks; rw [nI_clamp hr31, e]; exact hR)⟩
          | some v9 =>
            obtain ⟨kd, n, f⟩ := v9
            obtain ⟨hkd, hn9, hz9, hmk, hf⟩ := q2 kd n f e
            refine ab_aload_n dX11_racks_41 rfl ?_
            refine ab_getR dX11_racks_42 fl_X11_46 hC.hs hC.p5_5 ?_
            refine ab_iload_n dX11_racks_45 rfl ?_
            refine ab_aald (t := 4) dX11_racks_46 hC.s35 rfl (by omega) eR ?_
            refine ab_sta (ls' := [_, _, _, _, _, _, _]) dX11_racks_47 (by decide) rfl ?_
            refine ab_aload dX11_racks_49 rfl ?_
            refine ab_callVb [] dX11_racks_51 ml_X11_307 mk_X7_isMissing hA.1 (c_raMissing (k := 0) (b := 0) hA hz9) (fun t2 hh2 hq => ?_)
            obtain ⟨hhe, rfl⟩ := hq
            rw [hhe]
            refine ab_bif_eq 60 dX11_racks_54 (by decide) (fun c_54 => ?_) (fun c_54 => ?_)
            · skip
              refine ab_aload dX11_racks_60 rfl ?_
              refine ab_iload_n dX11_racks_62 rfl ?_
              refine ab_callVb [_] dX11_racks_63 ml_X11_310 mk_X7_hasPlace hA.1 (c_raPlace (k := 0) (b := 0) hA hz9 (by omega)) (fun t3 hh3 hq => ?_)
              obtain ⟨hhe, rfl⟩ := hq
              rw [hhe]
              refine ab_bif_ne 72 dX11_racks_66 (by decide) (fun c_66 => ?_) (fun c_66 => ?_)
              · skip
                have c_66k := c_66
                obtain ⟨i, rfl, hi, hi31⟩ := bd_inr_n (by omega) c_66
                refine ab_iload dX11_racks_72 rfl ?_
                refine ab_nif_eq 81 dX11_racks_74 (by decide) (by omega) (fun c_74 => ?_) (fun c_74 => ?_)
                · skip
                  refine ab_aload_n dX11_racks_81 rfl ?_
                  refine ab_getR dX11_racks_82 fl_X11_26 hC.hs hC.p5_2 ?_
                  refine ab_getR dX11_racks_85 fl_X11_238 hC.shapes.1 hC.shapes.2.2.2.1 ?_
                  refine ab_iload_n dX11_racks_88 rfl ?_
                  refine ab_aald (t := 7) dX11_racks_89 hC.shapes.2.2.2.2 rfl (by omega) rfl ?_
                  refine ab_sta (ls' := [_, _, _, _, _, _, _]) dX11_racks_90 (by decide) rfl ?_
                  refine ab_aload dX11_racks_92 rfl ?_
                  refine ab_aload dX11_racks_94 rfl ?_
                  refine ab_callVb [_] dX11_racks_96 ml_X11_313 mk_X7_takes hA.1 (c_takes (k := 2) (b := 0) (Nat.le_refl _) hE hA hmk hkd (hD.W.2.2.2 ti hti).1 hT) (fun t4 hh4 hq => ?_)
                  obtain ⟨hhe, rfl⟩ := hq
                  rw [hhe]
                  refine ab_bif_ne 105 dX11_racks_99 (by decide) (fun c_99 => ?_) (fun c_99 => ?_)
                  · skip
                    refine ab_aload dX11_racks_105 rfl ?_
                    refine ab_getR dX11_racks_107 fl_X11_317 hA.1 hA.2.1 ?_
                    refine ab_iload_n dX11_racks_110 rfl ?_
                    refine ab_aload dX11_racks_111 rfl ?_
                    refine ab_aast (t := 7) dX11_racks_113 hA.2.2 (z := 0) (Or.inr hT.2.2.1) rfl (by omega) ?_
                    refine ab_iconst (v := nI 1) dX11_racks_114 (by decide) ?_
                    refine ab_reti dX11_racks_115 ?_
                    refine ab_oX_ok (by unfold sp_racks; rw [if_pos ⟨c_16k, hcond⟩, nI_clamp hr31, e]; simp only; rw [if_pos c_66k, nI_clamp hti31, if_pos (Or.inr c_99)]; rfl) ?_
                    unfold nx_racks
                    rw [nI_clamp hr31, e]
                    simp only
                    rw [if_pos c_66k, nI_clamp hti31, if_pos (Or.inr c_99), nI_clamp hi31, if_neg h1t]
                    have g := (ab_gr.rf (S := [38 + 4 * r]) (T := [38 + 4 * r + 1]) h).srN (a := 38 + 4 * r + 1) i (ab_r h (19 + 2) ti) (Or.inl (by simp))
                    refine hR.up hb hr g hkd hn9 hz9 hmk (fun j hj => ?_)
                    rw [ab_r_sr_same, ab_up_at]
                    by_cases c : j = i
                    · rw [if_pos c, if_pos c]; exact pl_C.tr (hT.gr g (sg78 (by omega)) (sg78 (by omega))) rfl (hD.W.2.2.2 ti hti).1 (sA_0 s ti) (sA_B hD.W hti)
                    · rw [if_neg c, if_neg c]; exact (hf j hj).gr g (sg78 (by omega)) (sg78 (by omega))
                  · skip
                    refine ab_bipush (v := -16) dX11_racks_102 (by decide) ?_
                    refine ab_reti dX11_racks_104 ?_
                    exact ab_oX_ok (by unfold sp_racks; rw [if_pos ⟨c_16k, hcond⟩, nI_clamp hr31, e]; simp only; rw [if_pos c_66k, nI_clamp hti31, if_neg (fun q => q.elim (fun z => h1t z) (fun z => ab_tf z c_99))]) ⟨ab_gr.rf h, (by unfold nx_racks; rw [nI_clamp hr31, e]; simp only; rw [if_pos c_66k, nI_clamp hti31, if_neg (fun q => q.elim (fun z => h1t z) (fun z => ab_tf z c_99))]; exact hR)⟩
                · skip
                  exact absurd rfl c_74
              · skip
                refine ab_bipush (v := -13) dX11_racks_69 (by decide) ?_
                refine ab_reti dX11_racks_71 ?_
                exact ab_oX_ok (by unfold sp_racks; rw [if_pos ⟨c_16k, hcond⟩, nI_clamp hr31, e]; simp only; rw [if_neg (fun q => ab_tf q c_66)]) ⟨ab_gr.rf h, (by unfold nx_racks; rw [nI_clamp hr31, e]; simp only; rw [if_neg (fun q => ab_tf q c_66)]; exact hR)⟩
            · skip
              exact absurd (of_decide_eq_true c_54) (nI_ge0 (by omega))
        · skip
          refine ab_aload_n dX11_racks_35 rfl ?_
          refine ab_iconst (v := -1) dX11_racks_36 (by decide) ?_
          refine ab_callVi [_] dX11_racks_37 ml_X11_66 mk_X11_refuse hC.hs (c_refuse (k := 0) (b := 0) (c := 1) hC (by decide) (by omega) (by omega)) (fun v1 hh1 hq => ?_)
          obtain ⟨hv, hh⟩ := hq
          refine ab_reti dX11_racks_40 ?_
          exact ab_oX_no (by unfold sp_racks; rw [if_neg (fun q => by first | exact ab_tf q.1 c_16 | exact q.2.elim h1t (fun z => ab_tf z c_32))]) (ab_gr.rf h) hv hh
  · have h1t := c_2
    refine ab_iconst (v := nI 1) dX11_racks_5 (by decide) ?_
    refine ab_goto 10 dX11_racks_6 (by decide) ?_
    refine ab_sti (ls' := [_, _, _, _, _, _, _]) dX11_racks_10 (by decide) rfl ?_
    refine ab_iload_n dX11_racks_12 rfl ?_
    refine ab_callSb [_] dX11_racks_13 ml_X11_301 mk_X11_isRow (c_isRow (k := 0) (b := 0)) (fun t1 hh0 hq => ?_)
    obtain ⟨hhe, rfl⟩ := hq
    rw [hhe]
    refine ab_bif_eq 35 dX11_racks_16 (by decide) (fun c_16 => ?_) (fun c_16 => ?_)
    · skip
      refine ab_aload_n dX11_racks_35 rfl ?_
      refine ab_iconst (v := -1) dX11_racks_36 (by decide) ?_
      refine ab_callVi [_] dX11_racks_37 ml_X11_66 mk_X11_refuse hC.hs (c_refuse (k := 0) (b := 0) (c := 1) hC (by decide) (by omega) (by omega)) (fun v1 hh1 hq => ?_)
      obtain ⟨hv, hh⟩ := hq
      refine ab_reti dX11_racks_40 ?_
      exact ab_oX_no (by unfold sp_racks; rw [if_neg (fun q => by first | exact ab_tf q.1 c_16 | exact q.2.elim h1t (fun z => ab_tf z c_32))]) (ab_gr.rf h) hv hh
    · skip
      refine ab_iload dX11_racks_19 rfl ?_
      refine ab_nif_ne 41 dX11_racks_21 (by decide) (by omega) (fun c_21 => ?_) (fun c_21 => ?_)
      · skip
        have hcond : u = -1 ∨ ab_inr 0 ((s.2.2.1 : Int) - 1) u = true := Or.inl h1t
        have c_16k := c_16
        obtain ⟨r, rfl, hr2, hr31⟩ := ab_inr_nat (n := 2) c_16
        have hr : r < 3 := by omega
        obtain ⟨eR, hA⟩ := hC.ra hr
        obtain ⟨q1, q2⟩ := hR r hr
        cases e : R r with
        | none =>
          have hz9 := q1 e
          refine ab_aload_n dX11_racks_41 rfl ?_
          refine ab_getR dX11_racks_42 fl_X11_46 hC.hs hC.p5_5 ?_
          refine ab_iload_n dX11_racks_45 rfl ?_
          refine ab_aald (t := 4) dX11_racks_46 hC.s35 rfl (by omega) eR ?_
          refine ab_sta (ls' := [_, _, _, _, _, _, _]) dX11_racks_47 (by decide) rfl ?_
          refine ab_aload dX11_racks_49 rfl ?_
          refine ab_callVb [] dX11_racks_51 ml_X11_307 mk_X7_isMissing hA.1 (c_raMissing (k := 0) (b := 0) hA hz9) (fun t2 hh2 hq => ?_)
          obtain ⟨hhe, rfl⟩ := hq
          rw [hhe]
          refine ab_bif_eq 60 dX11_racks_54 (by decide) (fun c_54 => ?_) (fun c_54 => ?_)
          · skip
            exact absurd c_54 (by decide)
          · skip
            refine ab_bipush (v := -11) dX11_racks_57 (by decide) ?_
            refine ab_reti dX11_racks_59 ?_
            exact ab_oX_ok (by unfold sp_racks; rw [if_pos ⟨c_16k, hcond⟩, nI_clamp hr31, e]) ⟨ab_gr.rf h, (by unfold nx_racks; rw [nI_clamp hr31, e]; exact hR)⟩
        | some v9 =>
          obtain ⟨kd, n, f⟩ := v9
          obtain ⟨hkd, hn9, hz9, hmk, hf⟩ := q2 kd n f e
          refine ab_aload_n dX11_racks_41 rfl ?_
          refine ab_getR dX11_racks_42 fl_X11_46 hC.hs hC.p5_5 ?_
          refine ab_iload_n dX11_racks_45 rfl ?_
          refine ab_aald (t := 4) dX11_racks_46 hC.s35 rfl (by omega) eR ?_
          refine ab_sta (ls' := [_, _, _, _, _, _, _]) dX11_racks_47 (by decide) rfl ?_
          refine ab_aload dX11_racks_49 rfl ?_
          refine ab_callVb [] dX11_racks_51 ml_X11_307 mk_X7_isMissing hA.1 (c_raMissing (k := 0) (b := 0) hA hz9) (fun t2 hh2 hq => ?_)
          obtain ⟨hhe, rfl⟩ := hq
          rw [hhe]
          refine ab_bif_eq 60 dX11_racks_54 (by decide) (fun c_54 => ?_) (fun c_54 => ?_)
          · skip
            refine ab_aload dX11_racks_60 rfl ?_
            refine ab_iload_n dX11_racks_62 rfl ?_
            refine ab_callVb [_] dX11_racks_63 ml_X11_310 mk_X7_hasPlace hA.1 (c_raPlace (k := 0) (b := 0) hA hz9 (by omega)) (fun t3 hh3 hq => ?_)
            obtain ⟨hhe, rfl⟩ := hq
            rw [hhe]
            refine ab_bif_ne 72 dX11_racks_66 (by decide) (fun c_66 => ?_) (fun c_66 => ?_)
            · skip
              have c_66k := c_66
              obtain ⟨i, rfl, hi, hi31⟩ := bd_inr_n (by omega) c_66
              refine ab_iload dX11_racks_72 rfl ?_
              refine ab_nif_eq 81 dX11_racks_74 (by decide) (by omega) (fun c_74 => ?_) (fun c_74 => ?_)
              · skip
                exact absurd c_74 (by omega)
              · skip
                refine ab_null dX11_racks_77 ?_
                refine ab_goto 90 dX11_racks_78 (by decide) ?_
                refine ab_sta (ls' := [_, _, _, _, _, _, _]) dX11_racks_90 (by decide) rfl ?_
                refine ab_aload dX11_racks_92 rfl ?_
                refine ab_aload dX11_racks_94 rfl ?_
                refine ab_callVb [_] dX11_racks_96 ml_X11_313 mk_X7_takes hA.1 (c_takes0 (k := 0) (b := 0) hA) (fun t4 hh4 hq => ?_)
                obtain ⟨hhe, rfl⟩ := hq
                rw [hhe]
                refine ab_bif_ne 105 dX11_racks_99 (by decide) (fun c_99 => ?_) (fun c_99 => ?_)
                · skip
                  refine ab_aload dX11_racks_105 rfl ?_
                  refine ab_getR dX11_racks_107 fl_X11_317 hA.1 hA.2.1 ?_
                  refine ab_iload_n dX11_racks_110 rfl ?_
                  refine ab_aload dX11_racks_111 rfl ?_
                  refine ab_aast (t := 7) dX11_racks_113 hA.2.2 (z := 0) (Or.inl rfl) rfl (by omega) ?_
                  refine ab_iconst (v := nI 1) dX11_racks_114 (by decide) ?_
                  refine ab_reti dX11_racks_115 ?_
                  refine ab_oX_ok (by unfold sp_racks; rw [if_pos ⟨c_16k, hcond⟩, nI_clamp hr31, e]; simp only; rw [if_pos c_66k, if_pos (Or.inl h1t)]; rfl) ?_
                  unfold nx_racks
                  rw [nI_clamp hr31, e]
                  simp only
                  rw [if_pos c_66k, if_pos (Or.inl h1t), nI_clamp hi31, if_pos h1t]
                  have g := (ab_gr.rf (S := [38 + 4 * r]) (T := [38 + 4 * r + 1]) h).srN (a := 38 + 4 * r + 1) i 0 (Or.inl (by simp))
                  refine hR.up hb hr g hkd hn9 hz9 hmk (fun j hj => ?_)
                  rw [ab_r_sr_same, ab_up_at]
                  by_cases c : j = i
                  · rw [if_pos c, if_pos c]; exact pl_C.no
                  · rw [if_neg c, if_neg c]; exact (hf j hj).gr g (sg78 (by omega)) (sg78 (by omega))
                · skip
                  exact absurd c_99 (by decide)
            · skip
              refine ab_bipush (v := -13) dX11_racks_69 (by decide) ?_
              refine ab_reti dX11_racks_71 ?_
              exact ab_oX_ok (by unfold sp_racks; rw [if_pos ⟨c_16k, hcond⟩, nI_clamp hr31, e]; simp only; rw [if_neg (fun q => ab_tf q c_66)]) ⟨ab_gr.rf h, (by unfold nx_racks; rw [nI_clamp hr31, e]; simp only; rw [if_neg (fun q => ab_tf q c_66)]; exact hR)⟩
          · skip
            exact absurd (of_decide_eq_true c_54) (nI_ge0 (by omega))
      · skip
        exact absurd (show (1 : Nat) = 0 from c_21) (by omega)
set_option maxRecDepth 100000 in
set_option maxHeartbeats 4000000 in
theorem c_racked {k b : Nat} {h : ab_H} {R : rS} {x y z : Int32} (hk : 2 ≤ k) (hC : at_C (ab_sh h) (ab_r h)) (hR : rk_C R h) : ab_M k b mX11_racked [.ref 5, .int x, .int y, .int z] h (ab_pi (ab_oX 37 (ab_gr [] [] h) (ab_gr [] [] h) (sp_racked R x y z))) := by
  refine ab_enter ?_
  refine ab_iload_n dX11_racked_0 rfl ?_
  refine ab_callSb [_] dX11_racked_1 ml_X11_301 mk_X11_isRow (c_isRow (k := 0) (b := 0)) (fun t1 hh0 hq => ?_)
  obtain ⟨hhe, rfl⟩ := hq
  rw [hhe]
  refine ab_bif_ne 13 dX11_racked_4 (by decide) (fun c_4 => ?_) (fun c_4 => ?_)
  · skip
    refine ab_iload_n dX11_racked_13 rfl ?_
    refine ab_if_lt 22 dX11_racked_14 (by decide) (fun c_14 => ?_) (fun c_14 => ?_)
    · skip
      refine ab_aload_n dX11_racked_22 rfl ?_
      refine ab_bipush (v := -2) dX11_racked_23 (by decide) ?_
      refine ab_callVi [_] dX11_racked_25 ml_X11_66 mk_X11_refuse hC.hs (c_refuse (k := 0) (b := 0) (c := 2) hC (by decide) (by omega) (by omega)) (fun v1 hh1 hq => ?_)
      obtain ⟨hv, hh⟩ := hq
      refine ab_reti dX11_racked_28 ?_
      exact ab_oX_no (by unfold sp_racked; rw [if_pos c_4, if_neg (fun q => ab_tf q (ab_inr_no (by first | exact Or.inl (ab_lt0.mp c_14) | exact Or.inr (by have := mt (ab_Nle (n := 1) (by omega)).mpr c_19; omega))))]) (ab_gr.rf h) hv hh
    · skip
      refine ab_iload_n dX11_racked_17 rfl ?_
      refine ab_iconst (v := nI 1) dX11_racked_18 (by decide) ?_
      refine ab_icmp_le 29 dX11_racked_19 (by decide) (fun c_19 => ?_) (fun c_19 => ?_)
      · skip
        have hin1 : ab_inr 0 1 z = true := ab_inr_ok (by have := mt ab_lt0.mpr c_14; omega) (by have := (ab_Nle (n := 1) (by omega)).mp c_19; omega)
        have c_4k := c_4
        obtain ⟨r, rfl, hr2, hr31⟩ := ab_inr_nat (n := 2) c_4
        have hr : r < 3 := by omega
        obtain ⟨eR, hA⟩ := hC.ra hr
        obtain ⟨q1, q2⟩ := hR r hr
        cases e : R r with
        | none =>
          have hz9 := q1 e
          refine ab_aload_n dX11_racked_29 rfl ?_
          refine ab_getR dX11_racked_30 fl_X11_46 hC.hs hC.p5_5 ?_
          refine ab_iload_n dX11_racked_33 rfl ?_
          refine ab_aald (t := 4) dX11_racked_34 hC.s35 rfl (by omega) eR ?_
          refine ab_sta (ls' := [_, _, _, _, _, _]) dX11_racked_35 (by decide) rfl ?_
          refine ab_aload dX11_racked_37 rfl ?_
          refine ab_callVb [] dX11_racked_39 ml_X11_307 mk_X7_isMissing hA.1 (c_raMissing (k := 0) (b := 0) hA hz9) (fun t2 hh2 hq => ?_)
          obtain ⟨hhe, rfl⟩ := hq
          rw [hhe]
          refine ab_bif_eq 48 dX11_racked_42 (by decide) (fun c_42 => ?_) (fun c_42 => ?_)
          · skip
            exact absurd c_42 (by decide)
          · skip
            refine ab_bipush (v := -11) dX11_racked_45 (by decide) ?_
            refine ab_reti dX11_racked_47 ?_
            exact ab_oX_ok (by unfold sp_racked; rw [if_pos c_4k, if_pos hin1, nI_clamp hr31, e]) (ab_gr.rf h)
        | some v9 =>
          obtain ⟨kd, n, f⟩ := v9
          obtain ⟨hkd, hn9, hz9, hmk, hf⟩ := q2 kd n f e
          refine ab_aload_n dX11_racked_29 rfl ?_
          refine ab_getR dX11_racked_30 fl_X11_46 hC.hs hC.p5_5 ?_
          refine ab_iload_n dX11_racked_33 rfl ?_
          refine ab_aald (t := 4) dX11_racked_34 hC.s35 rfl (by omega) eR ?_
          refine ab_sta (ls' := [_, _, _, _, _, _]) dX11_racked_35 (by decide) rfl ?_
          refine ab_aload dX11_racked_37 rfl ?_
          refine ab_callVb [] dX11_racked_39 ml_X11_307 mk_X7_isMissing hA.1 (c_raMissing (k := 0) (b := 0) hA hz9) (fun t2 hh2 hq => ?_)
          obtain ⟨hhe, rfl⟩ := hq
          rw [hhe]
          refine ab_bif_eq 48 dX11_racked_42 (by decide) (fun c_42 => ?_) (fun c_42 => ?_)
          · skip
            refine ab_aload dX11_racked_48 rfl ?_
            refine ab_iload_n dX11_racked_50 rfl ?_
            refine ab_callVb [_] dX11_racked_51 ml_X11_310 mk_X7_hasPlace hA.1 (c_raPlace (k := 0) (b := 0) hA hz9 (by omega)) (fun t3 hh3 hq => ?_)
            obtain ⟨hhe, rfl⟩ := hq
            rw [hhe]
            refine ab_bif_ne 60 dX11_racked_54 (by decide) (fun c_54 => ?_) (fun c_54 => ?_)
            · skip
              have c_54k := c_54
              obtain ⟨i, rfl, hi, hi31⟩ := bd_inr_n (by omega) c_54
              have hP := hf i (by omega)
              cases e2 : f i with
              | none =>
                have hw0 := hP.1 e2
                refine ab_aload dX11_racked_60 rfl ?_
                refine ab_getR dX11_racked_62 fl_X11_317 hA.1 hA.2.1 ?_
                refine ab_iload_n dX11_racked_65 rfl ?_
                refine ab_aald (t := 7) dX11_racked_66 hA.2.2 rfl (by omega) hw0 ?_
                refine ab_sta (ls' := [_, _, _, _, _, _]) dX11_racked_67 (by decide) rfl ?_
                refine ab_aload dX11_racked_69 rfl ?_
                refine ab_ifnonnull 77 dX11_racked_71 (by decide) (fun c_71 => ?_) (fun c_71 => ?_)
                · skip
                  exact absurd rfl c_71
                · skip
                  refine ab_bipush (v := -9) dX11_racked_74 (by decide) ?_
                  refine ab_reti dX11_racked_76 ?_
                  exact ab_oX_ok (by unfold sp_racked; rw [if_pos c_4k, if_pos hin1, nI_clamp hr31, e]; simp only; rw [if_pos c_54k, nI_clamp hi31]; unfold rkV; rw [e2]) (ab_gr.rf h)
              | some v8 =>
                obtain ⟨kk, vv⟩ := v8
                obtain ⟨t, col, A, hT, hk2, hk6, hvq, h0, hB⟩ := hP.2 kk vv e2
                refine ab_aload dX11_racked_60 rfl ?_
                refine ab_getR dX11_racked_62 fl_X11_317 hA.1 hA.2.1 ?_
                refine ab_iload_n dX11_racked_65 rfl ?_
                refine ab_aald (t := 7) dX11_racked_66 hA.2.2 rfl (by omega) rfl ?_
                refine ab_sta (ls' := [_, _, _, _, _, _]) dX11_racked_67 (by decide) rfl ?_
                refine ab_aload dX11_racked_69 rfl ?_
                refine ab_ifnonnull 77 dX11_racked_71 (by decide) (fun c_71 => ?_) (fun c_71 => ?_)
                · skip
                  refine ab_iload_n dX11_racked_77 rfl ?_
                  refine ab_if_ne 89 dX11_racked_78 (by decide) (fun c_78 => ?_) (fun c_78 => ?_)
                  · skip
                    refine ab_aload dX11_racked_89 rfl ?_
                    refine ab_getR dX11_racked_91 fl_X11_260 hT.2.2.1 rfl ?_
                    refine ab_callVi [] dX11_racked_94 ml_X11_213 mk_X2_valuation hT.2.2.2.2.2.2.2.2.2.2.1 (c_fr_val (k := 1) (b := 0) (Nat.le_refl _) hT.2.2.2.2.2.2.2.2 h0 (hB.k1 (by decide)) hB.2.1 (hB.k2 (by decide))) (fun v hh5 hq => ?_)
                    obtain ⟨hhe, rfl⟩ := hq
                    rw [hhe]
                    rw [hvq]
                    refine ab_bipush (v := nI 100) dX11_racked_97 (by decide) ?_
                    refine ab_iadd dX11_racked_99 ?_
                    rw [Int32.add_comm]
                    refine ab_reti dX11_racked_100 ?_
                    first | exact ab_oX_ok (by unfold sp_racked; rw [if_pos c_4k, if_pos hin1, nI_clamp hr31, e]; simp only; rw [if_pos c_54k, nI_clamp hi31]; unfold rkV; rw [e2]; simp only; rw [if_pos c_78]) (ab_gr.rf h) | exact ab_oX_ok (by unfold sp_racked; rw [if_pos c_4k, if_pos hin1, nI_clamp hr31, e]; simp only; rw [if_pos c_54k, nI_clamp hi31]; unfold rkV; rw [e2]; simp only; rw [if_neg c_78]) (ab_gr.rf h)
                  · skip
                    refine ab_aload dX11_racked_81 rfl ?_
                    refine ab_getI dX11_racked_83 fl_X11_242 hT.2.2.1 (hT.2.2.2.1.trans (congrArg nI hk2)) ?_
                    refine ab_goto 100 dX11_racked_86 (by decide) ?_
                    refine ab_reti dX11_racked_100 ?_
                    first | exact ab_oX_ok (by unfold sp_racked; rw [if_pos c_4k, if_pos hin1, nI_clamp hr31, e]; simp only; rw [if_pos c_54k, nI_clamp hi31]; unfold rkV; rw [e2]; simp only; rw [if_pos c_78]) (ab_gr.rf h) | exact ab_oX_ok (by unfold sp_racked; rw [if_pos c_4k, if_pos hin1, nI_clamp hr31, e]; simp only; rw [if_pos c_54k, nI_clamp hi31]; unfold rkV; rw [e2]; simp only; rw [if_neg c_78]) (ab_gr.rf h)
                · skip
                  exact absurd c_71 (by have := hT.1; omega)
            · skip
              refine ab_bipush (v := -13) dX11_racked_57 (by decide) ?_
              refine ab_reti dX11_racked_59 ?_
              exact ab_oX_ok (by unfold sp_racked; rw [if_pos c_4k, if_pos hin1, nI_clamp hr31, e]; simp only; rw [if_neg (fun q => ab_tf q c_54)]) (ab_gr.rf h)
          · skip
            exact absurd (of_decide_eq_true c_42) (nI_ge0 (by omega))
      · skip
        refine ab_aload_n dX11_racked_22 rfl ?_
        refine ab_bipush (v := -2) dX11_racked_23 (by decide) ?_
        refine ab_callVi [_] dX11_racked_25 ml_X11_66 mk_X11_refuse hC.hs (c_refuse (k := 0) (b := 0) (c := 2) hC (by decide) (by omega) (by omega)) (fun v1 hh1 hq => ?_)
        obtain ⟨hv, hh⟩ := hq
        refine ab_reti dX11_racked_28 ?_
        exact ab_oX_no (by unfold sp_racked; rw [if_pos c_4, if_neg (fun q => ab_tf q (ab_inr_no (by first | exact Or.inl (ab_lt0.mp c_14) | exact Or.inr (by have := mt (ab_Nle (n := 1) (by omega)).mpr c_19; omega))))]) (ab_gr.rf h) hv hh
  · skip
    refine ab_aload_n dX11_racked_7 rfl ?_
    refine ab_iconst (v := -1) dX11_racked_8 (by decide) ?_
    refine ab_callVi [_] dX11_racked_9 ml_X11_66 mk_X11_refuse hC.hs (c_refuse (k := 0) (b := 0) (c := 1) hC (by decide) (by omega) (by omega)) (fun v1 hh1 hq => ?_)
    obtain ⟨hv, hh⟩ := hq
    refine ab_reti dX11_racked_12 ?_
    exact ab_oX_no (by unfold sp_racked; rw [if_neg (fun q => ab_tf q c_4)]) (ab_gr.rf h) hv hh
set_option maxRecDepth 100000 in
set_option maxHeartbeats 4000000 in
theorem c_like {k b : Nat} {h : ab_H} {R : rS} {x y : Int32} (hk : 1 ≤ k) (hb : ab_bs h) (hC : at_C (ab_sh h) (ab_r h)) (hR : rk_C R h) : ab_M k b mX11_like [.ref 5, .int x, .int y] h (ab_pi (ab_oX 37 (ab_gr [] [] h) (fun h' => ab_gr [38, 42, 46] [39, 43, 47] h h' ∧ rk_C (nx_like R x y) h') (sp_like R x y))) := by
  refine ab_enter ?_
  refine ab_iload_n dX11_like_0 rfl ?_
  refine ab_callSb [_] dX11_like_1 ml_X11_301 mk_X11_isRow (c_isRow (k := 0) (b := 0)) (fun t1 hh0 hq => ?_)
  obtain ⟨hhe, rfl⟩ := hq
  rw [hhe]
  refine ab_bif_eq 14 dX11_like_4 (by decide) (fun c_4 => ?_) (fun c_4 => ?_)
  · skip
    refine ab_aload_n dX11_like_14 rfl ?_
    refine ab_iconst (v := -1) dX11_like_15 (by decide) ?_
    refine ab_callVi [_] dX11_like_16 ml_X11_66 mk_X11_refuse hC.hs (c_refuse (k := 0) (b := 0) (c := 1) hC (by decide) (by omega) (by omega)) (fun v1 hh1 hq => ?_)
    obtain ⟨hv, hh⟩ := hq
    refine ab_reti dX11_like_19 ?_
    exact ab_oX_no (by unfold sp_like; rw [if_neg (fun q => by first | exact ab_tf q.1 c_4 | exact ab_tf q.2 c_11)]) (ab_gr.rf h) hv hh
  · skip
    refine ab_iload_n dX11_like_7 rfl ?_
    refine ab_callSb [_] dX11_like_8 ml_X11_301 mk_X11_isRow (c_isRow (k := 0) (b := 0)) (fun t3 hh3 hq => ?_)
    obtain ⟨hhe, rfl⟩ := hq
    rw [hhe]
    refine ab_bif_ne 20 dX11_like_11 (by decide) (fun c_11 => ?_) (fun c_11 => ?_)
    · skip
      have c_4k := c_4
      have c_11k := c_11
      obtain ⟨r, rfl, hr2, hr31⟩ := ab_inr_nat (n := 2) c_4
      have hr : r < 3 := by omega
      obtain ⟨eR, hA⟩ := hC.ra hr
      obtain ⟨p, rfl, hp2, hp31⟩ := ab_inr_nat (n := 2) c_11
      have hp : p < 3 := by omega
      obtain ⟨eP, hB⟩ := hC.ra hp
      obtain ⟨q1, q2⟩ := hR p hp
      cases e : R p with
      | none =>
        have hz9 := q1 e
        refine ab_aload_n dX11_like_20 rfl ?_
        refine ab_getR dX11_like_21 fl_X11_46 hC.hs hC.p5_5 ?_
        refine ab_iload_n dX11_like_24 rfl ?_
        refine ab_aald (t := 4) dX11_like_25 hC.s35 rfl (by omega) eP ?_
        refine ab_callVb [] dX11_like_26 ml_X11_307 mk_X7_isMissing hB.1 (c_raMissing (k := 0) (b := 0) hB hz9) (fun t2 hh2 hq => ?_)
        obtain ⟨hhe, rfl⟩ := hq
        rw [hhe]
        refine ab_bif_eq 35 dX11_like_29 (by decide) (fun c_29 => ?_) (fun c_29 => ?_)
        · skip
          exact absurd c_29 (by decide)
        · skip
          refine ab_bipush (v := -11) dX11_like_32 (by decide) ?_
          refine ab_reti dX11_like_34 ?_
          exact ab_oX_ok (by unfold sp_like; rw [if_pos ⟨c_4k, c_11k⟩, nI_clamp hp31, e]) ⟨ab_gr.rf h, by unfold nx_like; rw [nI_clamp hp31, e]; exact hR⟩
      | some v9 =>
        obtain ⟨kd, n, f⟩ := v9
        obtain ⟨hkd, hn9, hz9, hmk, hf⟩ := q2 kd n f e
        refine ab_aload_n dX11_like_20 rfl ?_
        refine ab_getR dX11_like_21 fl_X11_46 hC.hs hC.p5_5 ?_
        refine ab_iload_n dX11_like_24 rfl ?_
        refine ab_aald (t := 4) dX11_like_25 hC.s35 rfl (by omega) eP ?_
        refine ab_callVb [] dX11_like_26 ml_X11_307 mk_X7_isMissing hB.1 (c_raMissing (k := 0) (b := 0) hB hz9) (fun t2 hh2 hq => ?_)
        obtain ⟨hhe, rfl⟩ := hq
        rw [hhe]
        refine ab_bif_eq 35 dX11_like_29 (by decide) (fun c_29 => ?_) (fun c_29 => ?_)
        · skip
          refine ab_aload_n dX11_like_35 rfl ?_
          refine ab_getR dX11_like_36 fl_X11_46 hC.hs hC.p5_5 ?_
          refine ab_iload_n dX11_like_39 rfl ?_
          refine ab_aald (t := 4) dX11_like_40 hC.s35 rfl (by omega) eR ?_
          refine ab_aload_n dX11_like_41 rfl ?_
          refine ab_getR dX11_like_42 fl_X11_46 hC.hs hC.p5_5 ?_
          refine ab_iload_n dX11_like_45 rfl ?_
          refine ab_aald (t := 4) dX11_like_46 hC.s35 rfl (by omega) eP ?_
          refine ab_callVv [_] dX11_like_47 ml_X11_320 mk_X7_copyFrom hA.1 (c_raCopy (k := 0) (b := 0) hb (by omega) (by omega) (by omega) hA hB hmk hz9 (fun i hi => (hf i hi).lt)) (fun h1 hq => ?_)
          obtain ⟨g, e1, e2, e3⟩ := hq
          have hC1 := hC.gr g hb (by simp; omega)
          obtain ⟨eR1, hA1⟩ := hC1.ra hr
          refine ab_aload_n dX11_like_50 rfl ?_
          refine ab_getR dX11_like_51 fl_X11_46 hC1.hs hC1.p5_5 ?_
          refine ab_iload_n dX11_like_54 rfl ?_
          refine ab_aald (t := 4) dX11_like_55 hC1.s35 rfl (by omega) eR1 ?_
          refine ab_getI dX11_like_56 fl_X11_324 hA1.1 e1 ?_
          refine ab_reti dX11_like_59 ?_
          refine ab_oX_ok (by unfold sp_like; rw [if_pos ⟨c_4k, c_11k⟩, nI_clamp hp31, e]) ?_
          unfold nx_like
          rw [nI_clamp hp31, e, nI_clamp hr31]
          exact hR.up hb hr g hkd hn9 e1 e2 (fun j hj => by rw [e3 j hj]; exact (hf j hj).gr g (sg78 (by omega)) (sg78 (by omega)))
        · skip
          exact absurd (of_decide_eq_true c_29) (nI_ge0 (by omega))
    · skip
      refine ab_aload_n dX11_like_14 rfl ?_
      refine ab_iconst (v := -1) dX11_like_15 (by decide) ?_
      refine ab_callVi [_] dX11_like_16 ml_X11_66 mk_X11_refuse hC.hs (c_refuse (k := 0) (b := 0) (c := 1) hC (by decide) (by omega) (by omega)) (fun v1 hh1 hq => ?_)
      obtain ⟨hv, hh⟩ := hq
      refine ab_reti dX11_like_19 ?_
      exact ab_oX_no (by unfold sp_like; rw [if_neg (fun q => by first | exact ab_tf q.1 c_4 | exact ab_tf q.2 c_11)]) (ab_gr.rf h) hv hh
