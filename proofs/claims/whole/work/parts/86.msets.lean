/-! ===== the model: colours, sets of triangles ===== -/
set_option maxRecDepth 100000 in
set_option maxHeartbeats 4000000 in
theorem m_coloursOf {k b i : Nat} {h : ab_H} {s : sS} (hk : 5 ≤ k) (hM : at_M (ab_sh h) (ab_r h)) (hD : sh_M s h) (hi : i < s.2.2.1) : ab_M k b mX12_coloursOf [.ref 50, .int (nI i)] h (ab_pi (fun v h' => h' = h ∧ v = nI (sC s i))) := by
  have hW := hD.W
  have h11 := hW.2.1
  obtain ⟨tk, ta, tb, tc⟩ := hW.2.2.2 i hi
  have h10 := hW.1
  have cr := hD.tr hi
  refine ab_enter ?_
  refine ab_aload_n dX12_coloursOf_0 rfl ?_
  refine ab_getR dX12_coloursOf_1 fl_X12_67 hM.hs hM.p50_18 ?_
  refine ab_iload_n dX12_coloursOf_4 rfl ?_
  refine ab_iald dX12_coloursOf_5 hM.s63 rfl (by omega) cr.1 ?_
  refine ab_iconst (v := nI 3) dX12_coloursOf_6 (by decide) ?_
  refine ab_callSb [_, _] dX12_coloursOf_7 ml_X12_279 mk_X12_isUnder (m_isUnder (k := 0) (b := 0) tk (by decide)) (fun t hh1 hq => ?_)
  obtain ⟨hhe, rfl⟩ := hq
  rw [hhe]
  cases hm : un (s.2.2.2 i).1 3 with
  | false =>
    refine ab_sti_n (ls' := [_, _, _, _, _, _, _, _]) dX12_coloursOf_10 (by decide) rfl ?_
    refine ab_iconst (v := nI 0) dX12_coloursOf_11 (by decide) ?_
    refine ab_sti_n (ls' := [_, _, _, _, _, _, _, _]) dX12_coloursOf_12 (by decide) rfl ?_
    refine ab_iconst (v := nI 0) dX12_coloursOf_13 (by decide) ?_
    refine ab_sti (ls' := [_, _, _, _, _, _, _, _]) dX12_coloursOf_14 (by decide) rfl ?_
    refine ab_iload dX12_coloursOf_16 rfl ?_
    refine ab_iconst (v := nI 3) dX12_coloursOf_18 (by decide) ?_
    refine ab_nicmp_ge 87 dX12_coloursOf_19 (by decide) (by omega) (by omega) (fun c_19 => ?_) (fun c_19 => ?_)
    · skip
      exact absurd c_19 (by omega)
    · skip
      refine ab_aload_n dX12_coloursOf_22 rfl ?_
      refine ab_getR dX12_coloursOf_23 fl_X12_70 hM.hs hM.p50_19 ?_
      refine ab_iconst (v := nI 3) dX12_coloursOf_26 (by decide) ?_
      refine ab_iload_n dX12_coloursOf_27 rfl ?_
      refine ab_nmulR dX12_coloursOf_28 ?_
      refine ab_iload dX12_coloursOf_29 rfl ?_
      refine ab_naddR dX12_coloursOf_31 ?_
      refine ab_iald dX12_coloursOf_32 hM.s64 rfl (by omega) cr.2.1 ?_
      refine ab_sti (ls' := [_, _, _, _, _, _, _, _]) dX12_coloursOf_33 (by decide) rfl ?_
      refine ab_aload_n dX12_coloursOf_35 rfl ?_
      refine ab_iload dX12_coloursOf_36 rfl ?_
      refine ab_iload_n dX12_coloursOf_38 rfl ?_
      refine ab_bif_eq 46 dX12_coloursOf_39 (by decide) (fun c_39 => ?_) (fun c_39 => ?_)
      · skip
        refine ab_iconst (v := nI 0) dX12_coloursOf_46 (by decide) ?_
        refine ab_callVi [_, _] dX12_coloursOf_47 ml_X12_232 mk_X12_valuationOf hM.hs (m_valuationOf (k := 4) (b := 0) (e := 0) (Nat.le_refl _) hM hD ta (by decide)) (fun v1 hh2 hq => ?_)
        obtain ⟨hhe, rfl⟩ := hq
        rw [hhe]
        refine ab_sti (ls' := [_, _, _, _, _, _, _, _]) dX12_coloursOf_50 (by decide) rfl ?_
        refine ab_aload_n dX12_coloursOf_52 rfl ?_
        refine ab_iload dX12_coloursOf_53 rfl ?_
        refine ab_iload_n dX12_coloursOf_55 rfl ?_
        refine ab_bif_eq 63 dX12_coloursOf_56 (by decide) (fun c_56 => ?_) (fun c_56 => ?_)
        · skip
          refine ab_iconst (v := nI 1) dX12_coloursOf_63 (by decide) ?_
          refine ab_callVi [_, _] dX12_coloursOf_64 ml_X12_232 mk_X12_valuationOf hM.hs (m_valuationOf (k := 4) (b := 0) (e := 1) (Nat.le_refl _) hM hD ta (by decide)) (fun v2 hh3 hq => ?_)
          obtain ⟨hhe, rfl⟩ := hq
          rw [hhe]
          refine ab_sti (ls' := [_, _, _, _, _, _, _, _]) dX12_coloursOf_67 (by decide) rfl ?_
          refine ab_iload_n dX12_coloursOf_69 rfl ?_
          refine ab_iconst (v := nI 1) dX12_coloursOf_70 (by decide) ?_
          refine ab_iload dX12_coloursOf_71 rfl ?_
          refine ab_iload dX12_coloursOf_73 rfl ?_
          refine ab_callSi [_, _] dX12_coloursOf_75 ml_X12_235 mk_X12_colourBy (m_colourBy (k := 0) (b := 0)) (fun v3 hh4 hq => ?_)
          obtain ⟨hhe, rfl⟩ := hq
          rw [hhe]
          refine ab_topI (congrArg nI (show _ = sd false (s.2.1 (s.2.2.2 i).2.1) from rfl)) ?_
          refine ab_nshlR dX12_coloursOf_78 (by have := sd_lt false (s.2.1 (s.2.2.2 i).2.1); omega) ?_
          refine ab_norR dX12_coloursOf_79 ?_
          refine ab_sti_n (ls' := [_, _, _, _, _, _, _, _]) dX12_coloursOf_80 (by decide) rfl ?_
          refine ab_nincR (ls' := [_, _, _, _, _, _, _, _]) dX12_coloursOf_81 rfl rfl ?_
          refine ab_goto 16 dX12_coloursOf_84 (by decide) ?_
          refine ab_iload dX12_coloursOf_16 rfl ?_
          refine ab_iconst (v := nI 3) dX12_coloursOf_18 (by decide) ?_
          refine ab_nicmp_ge 87 dX12_coloursOf_19 (by decide) (by omega) (by omega) (fun c_19 => ?_) (fun c_19 => ?_)
          · skip
            exact absurd c_19 (by omega)
          · skip
            refine ab_aload_n dX12_coloursOf_22 rfl ?_
            refine ab_getR dX12_coloursOf_23 fl_X12_70 hM.hs hM.p50_19 ?_
            refine ab_iconst (v := nI 3) dX12_coloursOf_26 (by decide) ?_
            refine ab_iload_n dX12_coloursOf_27 rfl ?_
            refine ab_nmulR dX12_coloursOf_28 ?_
            refine ab_iload dX12_coloursOf_29 rfl ?_
            refine ab_naddR dX12_coloursOf_31 ?_
            refine ab_iald dX12_coloursOf_32 hM.s64 rfl (by omega) cr.2.2.1 ?_
            refine ab_sti (ls' := [_, _, _, _, _, _, _, _]) dX12_coloursOf_33 (by decide) rfl ?_
            refine ab_aload_n dX12_coloursOf_35 rfl ?_
            refine ab_iload dX12_coloursOf_36 rfl ?_
            refine ab_iload_n dX12_coloursOf_38 rfl ?_
            refine ab_bif_eq 46 dX12_coloursOf_39 (by decide) (fun c_39 => ?_) (fun c_39 => ?_)
            · skip
              refine ab_iconst (v := nI 0) dX12_coloursOf_46 (by decide) ?_
              refine ab_callVi [_, _] dX12_coloursOf_47 ml_X12_232 mk_X12_valuationOf hM.hs (m_valuationOf (k := 4) (b := 0) (e := 0) (Nat.le_refl _) hM hD tb (by decide)) (fun v1 hh2 hq => ?_)
              obtain ⟨hhe, rfl⟩ := hq
              rw [hhe]
              refine ab_sti (ls' := [_, _, _, _, _, _, _, _]) dX12_coloursOf_50 (by decide) rfl ?_
              refine ab_aload_n dX12_coloursOf_52 rfl ?_
              refine ab_iload dX12_coloursOf_53 rfl ?_
              refine ab_iload_n dX12_coloursOf_55 rfl ?_
              refine ab_bif_eq 63 dX12_coloursOf_56 (by decide) (fun c_56 => ?_) (fun c_56 => ?_)
              · skip
                refine ab_iconst (v := nI 1) dX12_coloursOf_63 (by decide) ?_
                refine ab_callVi [_, _] dX12_coloursOf_64 ml_X12_232 mk_X12_valuationOf hM.hs (m_valuationOf (k := 4) (b := 0) (e := 1) (Nat.le_refl _) hM hD tb (by decide)) (fun v2 hh3 hq => ?_)
                obtain ⟨hhe, rfl⟩ := hq
                rw [hhe]
                refine ab_sti (ls' := [_, _, _, _, _, _, _, _]) dX12_coloursOf_67 (by decide) rfl ?_
                refine ab_iload_n dX12_coloursOf_69 rfl ?_
                refine ab_iconst (v := nI 1) dX12_coloursOf_70 (by decide) ?_
                refine ab_iload dX12_coloursOf_71 rfl ?_
                refine ab_iload dX12_coloursOf_73 rfl ?_
                refine ab_callSi [_, _] dX12_coloursOf_75 ml_X12_235 mk_X12_colourBy (m_colourBy (k := 0) (b := 0)) (fun v3 hh4 hq => ?_)
                obtain ⟨hhe, rfl⟩ := hq
                rw [hhe]
                refine ab_topI (congrArg nI (show _ = sd false (s.2.1 (s.2.2.2 i).2.2.1) from rfl)) ?_
                refine ab_nshlR dX12_coloursOf_78 (by have := sd_lt false (s.2.1 (s.2.2.2 i).2.2.1); omega) ?_
                refine ab_norR dX12_coloursOf_79 ?_
                refine ab_sti_n (ls' := [_, _, _, _, _, _, _, _]) dX12_coloursOf_80 (by decide) rfl ?_
                refine ab_nincR (ls' := [_, _, _, _, _, _, _, _]) dX12_coloursOf_81 rfl rfl ?_
                refine ab_goto 16 dX12_coloursOf_84 (by decide) ?_
                refine ab_iload dX12_coloursOf_16 rfl ?_
                refine ab_iconst (v := nI 3) dX12_coloursOf_18 (by decide) ?_
                refine ab_nicmp_ge 87 dX12_coloursOf_19 (by decide) (by omega) (by omega) (fun c_19 => ?_) (fun c_19 => ?_)
                · skip
                  exact absurd c_19 (by omega)
                · skip
                  refine ab_aload_n dX12_coloursOf_22 rfl ?_
                  refine ab_getR dX12_coloursOf_23 fl_X12_70 hM.hs hM.p50_19 ?_
                  refine ab_iconst (v := nI 3) dX12_coloursOf_26 (by decide) ?_
                  refine ab_iload_n dX12_coloursOf_27 rfl ?_
                  refine ab_nmulR dX12_coloursOf_28 ?_
                  refine ab_iload dX12_coloursOf_29 rfl ?_
                  refine ab_naddR dX12_coloursOf_31 ?_
                  refine ab_iald dX12_coloursOf_32 hM.s64 rfl (by omega) cr.2.2.2 ?_
                  refine ab_sti (ls' := [_, _, _, _, _, _, _, _]) dX12_coloursOf_33 (by decide) rfl ?_
                  refine ab_aload_n dX12_coloursOf_35 rfl ?_
                  refine ab_iload dX12_coloursOf_36 rfl ?_
                  refine ab_iload_n dX12_coloursOf_38 rfl ?_
                  refine ab_bif_eq 46 dX12_coloursOf_39 (by decide) (fun c_39 => ?_) (fun c_39 => ?_)
                  · skip
                    refine ab_iconst (v := nI 0) dX12_coloursOf_46 (by decide) ?_
                    refine ab_callVi [_, _] dX12_coloursOf_47 ml_X12_232 mk_X12_valuationOf hM.hs (m_valuationOf (k := 4) (b := 0) (e := 0) (Nat.le_refl _) hM hD tc (by decide)) (fun v1 hh2 hq => ?_)
                    obtain ⟨hhe, rfl⟩ := hq
                    rw [hhe]
                    refine ab_sti (ls' := [_, _, _, _, _, _, _, _]) dX12_coloursOf_50 (by decide) rfl ?_
                    refine ab_aload_n dX12_coloursOf_52 rfl ?_
                    refine ab_iload dX12_coloursOf_53 rfl ?_
                    refine ab_iload_n dX12_coloursOf_55 rfl ?_
                    refine ab_bif_eq 63 dX12_coloursOf_56 (by decide) (fun c_56 => ?_) (fun c_56 => ?_)
                    · skip
                      refine ab_iconst (v := nI 1) dX12_coloursOf_63 (by decide) ?_
                      refine ab_callVi [_, _] dX12_coloursOf_64 ml_X12_232 mk_X12_valuationOf hM.hs (m_valuationOf (k := 4) (b := 0) (e := 1) (Nat.le_refl _) hM hD tc (by decide)) (fun v2 hh3 hq => ?_)
                      obtain ⟨hhe, rfl⟩ := hq
                      rw [hhe]
                      refine ab_sti (ls' := [_, _, _, _, _, _, _, _]) dX12_coloursOf_67 (by decide) rfl ?_
                      refine ab_iload_n dX12_coloursOf_69 rfl ?_
                      refine ab_iconst (v := nI 1) dX12_coloursOf_70 (by decide) ?_
                      refine ab_iload dX12_coloursOf_71 rfl ?_
                      refine ab_iload dX12_coloursOf_73 rfl ?_
                      refine ab_callSi [_, _] dX12_coloursOf_75 ml_X12_235 mk_X12_colourBy (m_colourBy (k := 0) (b := 0)) (fun v3 hh4 hq => ?_)
                      obtain ⟨hhe, rfl⟩ := hq
                      rw [hhe]
                      refine ab_topI (congrArg nI (show _ = sd false (s.2.1 (s.2.2.2 i).2.2.2) from rfl)) ?_
                      refine ab_nshlR dX12_coloursOf_78 (by have := sd_lt false (s.2.1 (s.2.2.2 i).2.2.2); omega) ?_
                      refine ab_norR dX12_coloursOf_79 ?_
                      refine ab_sti_n (ls' := [_, _, _, _, _, _, _, _]) dX12_coloursOf_80 (by decide) rfl ?_
                      refine ab_nincR (ls' := [_, _, _, _, _, _, _, _]) dX12_coloursOf_81 rfl rfl ?_
                      refine ab_goto 16 dX12_coloursOf_84 (by decide) ?_
                      refine ab_iload dX12_coloursOf_16 rfl ?_
                      refine ab_iconst (v := nI 3) dX12_coloursOf_18 (by decide) ?_
                      refine ab_nicmp_ge 87 dX12_coloursOf_19 (by decide) (by omega) (by omega) (fun c_19 => ?_) (fun c_19 => ?_)
                      · skip
                        refine ab_iload_n dX12_coloursOf_87 rfl ?_
                        refine ab_reti dX12_coloursOf_88 ?_
                        exact ⟨rfl, congrArg nI (show _ = co _ _ _ _ by unfold co; rw [hm, Nat.zero_or])⟩
                      · skip
                        exact absurd (by omega) c_19
                    · skip
                      exact absurd c_56 (by decide)
                  · skip
                    exact absurd c_39 (by decide)
              · skip
                exact absurd c_56 (by decide)
            · skip
              exact absurd c_39 (by decide)
        · skip
          exact absurd c_56 (by decide)
      · skip
        exact absurd c_39 (by decide)
  | true =>
    refine ab_sti_n (ls' := [_, _, _, _, _, _, _, _]) dX12_coloursOf_10 (by decide) rfl ?_
    refine ab_iconst (v := nI 0) dX12_coloursOf_11 (by decide) ?_
    refine ab_sti_n (ls' := [_, _, _, _, _, _, _, _]) dX12_coloursOf_12 (by decide) rfl ?_
    refine ab_iconst (v := nI 0) dX12_coloursOf_13 (by decide) ?_
    refine ab_sti (ls' := [_, _, _, _, _, _, _, _]) dX12_coloursOf_14 (by decide) rfl ?_
    refine ab_iload dX12_coloursOf_16 rfl ?_
    refine ab_iconst (v := nI 3) dX12_coloursOf_18 (by decide) ?_
    refine ab_nicmp_ge 87 dX12_coloursOf_19 (by decide) (by omega) (by omega) (fun c_19 => ?_) (fun c_19 => ?_)
    · skip
      exact absurd c_19 (by omega)
    · skip
      refine ab_aload_n dX12_coloursOf_22 rfl ?_
      refine ab_getR dX12_coloursOf_23 fl_X12_70 hM.hs hM.p50_19 ?_
      refine ab_iconst (v := nI 3) dX12_coloursOf_26 (by decide) ?_
      refine ab_iload_n dX12_coloursOf_27 rfl ?_
      refine ab_nmulR dX12_coloursOf_28 ?_
      refine ab_iload dX12_coloursOf_29 rfl ?_
      refine ab_naddR dX12_coloursOf_31 ?_
      refine ab_iald dX12_coloursOf_32 hM.s64 rfl (by omega) cr.2.1 ?_
      refine ab_sti (ls' := [_, _, _, _, _, _, _, _]) dX12_coloursOf_33 (by decide) rfl ?_
      refine ab_aload_n dX12_coloursOf_35 rfl ?_
      refine ab_iload dX12_coloursOf_36 rfl ?_
      refine ab_iload_n dX12_coloursOf_38 rfl ?_
      refine ab_bif_eq 46 dX12_coloursOf_39 (by decide) (fun c_39 => ?_) (fun c_39 => ?_)
      · skip
        exact absurd c_39 (by decide)
      · skip
        refine ab_iconst (v := nI 1) dX12_coloursOf_42 (by decide) ?_
        refine ab_goto 47 dX12_coloursOf_43 (by decide) ?_
        refine ab_callVi [_, _] dX12_coloursOf_47 ml_X12_232 mk_X12_valuationOf hM.hs (m_valuationOf (k := 4) (b := 0) (e := 1) (Nat.le_refl _) hM hD ta (by decide)) (fun v1 hh2 hq => ?_)
        obtain ⟨hhe, rfl⟩ := hq
        rw [hhe]
        refine ab_sti (ls' := [_, _, _, _, _, _, _, _]) dX12_coloursOf_50 (by decide) rfl ?_
        refine ab_aload_n dX12_coloursOf_52 rfl ?_
        refine ab_iload dX12_coloursOf_53 rfl ?_
        refine ab_iload_n dX12_coloursOf_55 rfl ?_
        refine ab_bif_eq 63 dX12_coloursOf_56 (by decide) (fun c_56 => ?_) (fun c_56 => ?_)
        · skip
          exact absurd c_56 (by decide)
        · skip
          refine ab_iconst (v := nI 0) dX12_coloursOf_59 (by decide) ?_
          refine ab_goto 64 dX12_coloursOf_60 (by decide) ?_
          refine ab_callVi [_, _] dX12_coloursOf_64 ml_X12_232 mk_X12_valuationOf hM.hs (m_valuationOf (k := 4) (b := 0) (e := 0) (Nat.le_refl _) hM hD ta (by decide)) (fun v2 hh3 hq => ?_)
          obtain ⟨hhe, rfl⟩ := hq
          rw [hhe]
          refine ab_sti (ls' := [_, _, _, _, _, _, _, _]) dX12_coloursOf_67 (by decide) rfl ?_
          refine ab_iload_n dX12_coloursOf_69 rfl ?_
          refine ab_iconst (v := nI 1) dX12_coloursOf_70 (by decide) ?_
          refine ab_iload dX12_coloursOf_71 rfl ?_
          refine ab_iload dX12_coloursOf_73 rfl ?_
          refine ab_callSi [_, _] dX12_coloursOf_75 ml_X12_235 mk_X12_colourBy (m_colourBy (k := 0) (b := 0)) (fun v3 hh4 hq => ?_)
          obtain ⟨hhe, rfl⟩ := hq
          rw [hhe]
          refine ab_topI (congrArg nI (show _ = sd true (s.2.1 (s.2.2.2 i).2.1) from rfl)) ?_
          refine ab_nshlR dX12_coloursOf_78 (by have := sd_lt true (s.2.1 (s.2.2.2 i).2.1); omega) ?_
          refine ab_norR dX12_coloursOf_79 ?_
          refine ab_sti_n (ls' := [_, _, _, _, _, _, _, _]) dX12_coloursOf_80 (by decide) rfl ?_
          refine ab_nincR (ls' := [_, _, _, _, _, _, _, _]) dX12_coloursOf_81 rfl rfl ?_
          refine ab_goto 16 dX12_coloursOf_84 (by decide) ?_
          refine ab_iload dX12_coloursOf_16 rfl ?_
          refine ab_iconst (v := nI 3) dX12_coloursOf_18 (by decide) ?_
          refine ab_nicmp_ge 87 dX12_coloursOf_19 (by decide) (by omega) (by omega) (fun c_19 => ?_) (fun c_19 => ?_)
          · skip
            exact absurd c_19 (by omega)
          · skip
            refine ab_aload_n dX12_coloursOf_22 rfl ?_
            refine ab_getR dX12_coloursOf_23 fl_X12_70 hM.hs hM.p50_19 ?_
            refine ab_iconst (v := nI 3) dX12_coloursOf_26 (by decide) ?_
            refine ab_iload_n dX12_coloursOf_27 rfl ?_
            refine ab_nmulR dX12_coloursOf_28 ?_
            refine ab_iload dX12_coloursOf_29 rfl ?_
            refine ab_naddR dX12_coloursOf_31 ?_
            refine ab_iald dX12_coloursOf_32 hM.s64 rfl (by omega) cr.2.2.1 ?_
            refine ab_sti (ls' := [_, _, _, _, _, _, _, _]) dX12_coloursOf_33 (by decide) rfl ?_
            refine ab_aload_n dX12_coloursOf_35 rfl ?_
            refine ab_iload dX12_coloursOf_36 rfl ?_
            refine ab_iload_n dX12_coloursOf_38 rfl ?_
            refine ab_bif_eq 46 dX12_coloursOf_39 (by decide) (fun c_39 => ?_) (fun c_39 => ?_)
            · skip
              exact absurd c_39 (by decide)
            · skip
              refine ab_iconst (v := nI 1) dX12_coloursOf_42 (by decide) ?_
              refine ab_goto 47 dX12_coloursOf_43 (by decide) ?_
              refine ab_callVi [_, _] dX12_coloursOf_47 ml_X12_232 mk_X12_valuationOf hM.hs (m_valuationOf (k := 4) (b := 0) (e := 1) (Nat.le_refl _) hM hD tb (by decide)) (fun v1 hh2 hq => ?_)
              obtain ⟨hhe, rfl⟩ := hq
              rw [hhe]
              refine ab_sti (ls' := [_, _, _, _, _, _, _, _]) dX12_coloursOf_50 (by decide) rfl ?_
              refine ab_aload_n dX12_coloursOf_52 rfl ?_
              refine ab_iload dX12_coloursOf_53 rfl ?_
              refine ab_iload_n dX12_coloursOf_55 rfl ?_
              refine ab_bif_eq 63 dX12_coloursOf_56 (by decide) (fun c_56 => ?_) (fun c_56 => ?_)
              · skip
                exact absurd c_56 (by decide)
              · skip
                refine ab_iconst (v := nI 0) dX12_coloursOf_59 (by decide) ?_
                refine ab_goto 64 dX12_coloursOf_60 (by decide) ?_
                refine ab_callVi [_, _] dX12_coloursOf_64 ml_X12_232 mk_X12_valuationOf hM.hs (m_valuationOf (k := 4) (b := 0) (e := 0) (Nat.le_refl _) hM hD tb (by decide)) (fun v2 hh3 hq => ?_)
                obtain ⟨hhe, rfl⟩ := hq
                rw [hhe]
                refine ab_sti (ls' := [_, _, _, _, _, _, _, _]) dX12_coloursOf_67 (by decide) rfl ?_
                refine ab_iload_n dX12_coloursOf_69 rfl ?_
                refine ab_iconst (v := nI 1) dX12_coloursOf_70 (by decide) ?_
                refine ab_iload dX12_coloursOf_71 rfl ?_
                refine ab_iload dX12_coloursOf_73 rfl ?_
                refine ab_callSi [_, _] dX12_coloursOf_75 ml_X12_235 mk_X12_colourBy (m_colourBy (k := 0) (b := 0)) (fun v3 hh4 hq => ?_)
                obtain ⟨hhe, rfl⟩ := hq
                rw [hhe]
                refine ab_topI (congrArg nI (show _ = sd true (s.2.1 (s.2.2.2 i).2.2.1) from rfl)) ?_
                refine ab_nshlR dX12_coloursOf_78 (by have := sd_lt true (s.2.1 (s.2.2.2 i).2.2.1); omega) ?_
                refine ab_norR dX12_coloursOf_79 ?_
                refine ab_sti_n (ls' := [_, _, _, _, _, _, _, _]) dX12_coloursOf_80 (by decide) rfl ?_
                refine ab_nincR (ls' := [_, _, _, _, _, _, _, _]) dX12_coloursOf_81 rfl rfl ?_
                refine ab_goto 16 dX12_coloursOf_84 (by decide) ?_
                refine ab_iload dX12_coloursOf_16 rfl ?_
                refine ab_iconst (v := nI 3) dX12_coloursOf_18 (by decide) ?_
                refine ab_nicmp_ge 87 dX12_coloursOf_19 (by decide) (by omega) (by omega) (fun c_19 => ?_) (fun c_19 => ?_)
                · skip
                  exact absurd c_19 (by omega)
                · skip
                  refine ab_aload_n dX12_coloursOf_22 rfl ?_
                  refine ab_getR dX12_coloursOf_23 fl_X12_70 hM.hs hM.p50_19 ?_
                  refine ab_iconst (v := nI 3) dX12_coloursOf_26 (by decide) ?_
                  refine ab_iload_n dX12_coloursOf_27 rfl ?_
                  refine ab_nmulR dX12_coloursOf_28 ?_
                  refine ab_iload dX12_coloursOf_29 rfl ?_
                  refine ab_naddR dX12_coloursOf_31 ?_
                  refine ab_iald dX12_coloursOf_32 hM.s64 rfl (by omega) cr.2.2.2 ?_
                  refine ab_sti (ls' := [_, _, _, _, _, _, _, _]) dX12_coloursOf_33 (by decide) rfl ?_
                  refine ab_aload_n dX12_coloursOf_35 rfl ?_
                  refine ab_iload dX12_coloursOf_36 rfl ?_
                  refine ab_iload_n dX12_coloursOf_38 rfl ?_
                  refine ab_bif_eq 46 dX12_coloursOf_39 (by decide) (fun c_39 => ?_) (fun c_39 => ?_)
                  · skip
                    exact absurd c_39 (by decide)
                  · skip
                    refine ab_iconst (v := nI 1) dX12_coloursOf_42 (by decide) ?_
                    refine ab_goto 47 dX12_coloursOf_43 (by decide) ?_
                    refine ab_callVi [_, _] dX12_coloursOf_47 ml_X12_232 mk_X12_valuationOf hM.hs (m_valuationOf (k := 4) (b := 0) (e := 1) (Nat.le_refl _) hM hD tc (by decide)) (fun v1 hh2 hq => ?_)
                    obtain ⟨hhe, rfl⟩ := hq
                    rw [hhe]
                    refine ab_sti (ls' := [_, _, _, _, _, _, _, _]) dX12_coloursOf_50 (by decide) rfl ?_
                    refine ab_aload_n dX12_coloursOf_52 rfl ?_
                    refine ab_iload dX12_coloursOf_53 rfl ?_
                    refine ab_iload_n dX12_coloursOf_55 rfl ?_
                    refine ab_bif_eq 63 dX12_coloursOf_56 (by decide) (fun c_56 => ?_) (fun c_56 => ?_)
                    · skip
                      exact absurd c_56 (by decide)
                    · skip
                      refine ab_iconst (v := nI 0) dX12_coloursOf_59 (by decide) ?_
                      refine ab_goto 64 dX12_coloursOf_60 (by decide) ?_
                      refine ab_callVi [_, _] dX12_coloursOf_64 ml_X12_232 mk_X12_valuationOf hM.hs (m_valuationOf (k := 4) (b := 0) (e := 0) (Nat.le_refl _) hM hD tc (by decide)) (fun v2 hh3 hq => ?_)
                      obtain ⟨hhe, rfl⟩ := hq
                      rw [hhe]
                      refine ab_sti (ls' := [_, _, _, _, _, _, _, _]) dX12_coloursOf_67 (by decide) rfl ?_
                      refine ab_iload_n dX12_coloursOf_69 rfl ?_
                      refine ab_iconst (v := nI 1) dX12_coloursOf_70 (by decide) ?_
                      refine ab_iload dX12_coloursOf_71 rfl ?_
                      refine ab_iload dX12_coloursOf_73 rfl ?_
                      refine ab_callSi [_, _] dX12_coloursOf_75 ml_X12_235 mk_X12_colourBy (m_colourBy (k := 0) (b := 0)) (fun v3 hh4 hq => ?_)
                      obtain ⟨hhe, rfl⟩ := hq
                      rw [hhe]
                      refine ab_topI (congrArg nI (show _ = sd true (s.2.1 (s.2.2.2 i).2.2.2) from rfl)) ?_
                      refine ab_nshlR dX12_coloursOf_78 (by have := sd_lt true (s.2.1 (s.2.2.2 i).2.2.2); omega) ?_
                      refine ab_norR dX12_coloursOf_79 ?_
                      refine ab_sti_n (ls' := [_, _, _, _, _, _, _, _]) dX12_coloursOf_80 (by decide) rfl ?_
                      refine ab_nincR (ls' := [_, _, _, _, _, _, _, _]) dX12_coloursOf_81 rfl rfl ?_
                      refine ab_goto 16 dX12_coloursOf_84 (by decide) ?_
                      refine ab_iload dX12_coloursOf_16 rfl ?_
                      refine ab_iconst (v := nI 3) dX12_coloursOf_18 (by decide) ?_
                      refine ab_nicmp_ge 87 dX12_coloursOf_19 (by decide) (by omega) (by omega) (fun c_19 => ?_) (fun c_19 => ?_)
                      · skip
                        refine ab_iload_n dX12_coloursOf_87 rfl ?_
                        refine ab_reti dX12_coloursOf_88 ?_
                        exact ⟨rfl, congrArg nI (show _ = co _ _ _ _ by unfold co; rw [hm, Nat.zero_or])⟩
                      · skip
                        exact absurd (by omega) c_19
set_option maxRecDepth 100000 in
set_option maxHeartbeats 4000000 in
theorem m_isGreat {k b : Nat} {h : ab_H} {P : Int × Nat} (hM : at_M (ab_sh h) (ab_r h)) (e1 : ab_l h 50 20 = zI P.1) (e2 : ab_l h 50 21 = zI (P.2 : Int)) (hn : nK P.1.natAbs) (hd : nK P.2) : ab_M k b mX12_isGreat [.ref 50] h (ab_pb (fun t h' => h' = h ∧ t = @decide (gtB P) (Classical.propDecidable _))) := by
  refine ab_enter ?_
  refine ab_aload_n dX12_isGreat_0 rfl ?_
  refine ab_getL dX12_isGreat_1 fl_X12_250 hM.hs e1 ?_
  refine ab_ldc2 dX12_isGreat_4 kc_X12_294 ?_
  refine ab_topL (show (1000000000 : Int64) = zI 1000000000 by decide) ?_
  refine ab_lcmp dX12_isGreat_7 ?_
  refine ab_if_gt 22 dX12_isGreat_8 (by decide) (fun c_8 => ?_) (fun c_8 => ?_)
  · replace c_8 := (zI_lt zK9 (zK_abs hn)).mp ((lg_cmp_gt _ _).mp c_8)
    refine ab_iconst (v := nI 1) dX12_isGreat_22 (by decide) ?_
    refine ab_goto 27 dX12_isGreat_23 (by decide) ?_
    refine ab_retb (x := true) dX12_isGreat_27 ?_
    first | exact ⟨rfl, (@decide_eq_true _ (Classical.propDecidable _) (Or.inl c_8)).symm⟩ | exact ⟨rfl, (@decide_eq_true _ (Classical.propDecidable _) (Or.inr (Int.not_le.mp c_19))).symm⟩ | exact ⟨rfl, (@decide_eq_false _ (Classical.propDecidable _) (fun q => q.elim c_8 (fun q => by omega))).symm⟩
  · replace c_8 := mt (fun q => (lg_cmp_gt _ _).mpr ((zI_lt zK9 (zK_abs hn)).mpr q)) c_8
    refine ab_aload_n dX12_isGreat_11 rfl ?_
    refine ab_getL dX12_isGreat_12 fl_X12_254 hM.hs e2 ?_
    refine ab_ldc2 dX12_isGreat_15 kc_X12_294 ?_
    refine ab_topL (show (1000000000 : Int64) = zI 1000000000 by decide) ?_
    refine ab_lcmp dX12_isGreat_18 ?_
    refine ab_if_le 26 dX12_isGreat_19 (by decide) (fun c_19 => ?_) (fun c_19 => ?_)
    · replace c_19 := (zI_le hd.z zK9).mp ((lg_cmp_le _ _).mp c_19)
      refine ab_iconst (v := nI 0) dX12_isGreat_26 (by decide) ?_
      refine ab_retb (x := false) dX12_isGreat_27 ?_
      first | exact ⟨rfl, (@decide_eq_true _ (Classical.propDecidable _) (Or.inl c_8)).symm⟩ | exact ⟨rfl, (@decide_eq_true _ (Classical.propDecidable _) (Or.inr (Int.not_le.mp c_19))).symm⟩ | exact ⟨rfl, (@decide_eq_false _ (Classical.propDecidable _) (fun q => q.elim c_8 (fun q => by omega))).symm⟩
    · replace c_19 := mt (fun q => (lg_cmp_le _ _).mpr ((zI_le hd.z zK9).mpr q)) c_19
      refine ab_iconst (v := nI 1) dX12_isGreat_22 (by decide) ?_
      refine ab_goto 27 dX12_isGreat_23 (by decide) ?_
      refine ab_retb (x := true) dX12_isGreat_27 ?_
      first | exact ⟨rfl, (@decide_eq_true _ (Classical.propDecidable _) (Or.inl c_8)).symm⟩ | exact ⟨rfl, (@decide_eq_true _ (Classical.propDecidable _) (Or.inr (Int.not_le.mp c_19))).symm⟩ | exact ⟨rfl, (@decide_eq_false _ (Classical.propDecidable _) (fun q => q.elim c_8 (fun q => by omega))).symm⟩
set_option maxRecDepth 100000 in
set_option maxHeartbeats 4000000 in
theorem lp_mevens {k b n : Nat} {h : ab_H} {s : sS} (hk : 6 ≤ k) (hM : at_M (ab_sh h) (ab_r h)) (hD : sh_M s h) (hn : n < 2147483648) : ∀ (j i : Nat) (h1 : ab_H), i + j = s.2.2.1 → ab_fL h h1 → ab_R k b mX12_evens 4 [some (.ref 50), some (.int (nI n)), some (.int (nI (sOr (pE s n) i))), some (.int (nI i))] [] h1 (ab_pi (fun v h' => ab_fL h h' ∧ v = nI (sOr (pE s n) s.2.2.1))) := by
  intro j
  induction j with
  | zero =>
    intro i h1 hi f
    have h11 := hD.W.2.1
    have hM1 := at_M.fL f hM
    have hD1 := hD.fL f
    obtain rfl : i = s.2.2.1 := by omega
    refine ab_iload_n dX12_evens_4 rfl ?_
    refine ab_aload_n dX12_evens_5 rfl ?_
    refine ab_getI dX12_evens_6 fl_X12_238 hM1.hs hD1.nt ?_
    refine ab_nicmp_ge 45 dX12_evens_9 (by decide) (by omega) (by omega) (fun c_9 => ?_) (fun c_9 => ?_)
    · skip
      refine ab_iload_n dX12_evens_45 rfl ?_
      refine ab_reti dX12_evens_46 ?_
      exact ⟨f, rfl⟩
    · skip
      exact absurd (Nat.le_refl _) c_9
  | succ j ih =>
    intro i h1 hi f
    have h11 := hD.W.2.1
    have hM1 := at_M.fL f hM
    have hD1 := hD.fL f
    refine ab_iload_n dX12_evens_4 rfl ?_
    refine ab_aload_n dX12_evens_5 rfl ?_
    refine ab_getI dX12_evens_6 fl_X12_238 hM1.hs hD1.nt ?_
    refine ab_nicmp_ge 45 dX12_evens_9 (by decide) (by omega) (by omega) (fun c_9 => ?_) (fun c_9 => ?_)
    · skip
      exact absurd c_9 (by omega)
    · skip
      have hi9 : i < s.2.2.1 := by omega
      refine ab_iload_n dX12_evens_12 rfl ?_
      refine ab_iload_n dX12_evens_13 rfl ?_
      refine ab_iload_n dX12_evens_14 rfl ?_
      refine ab_callSb [_, _] dX12_evens_15 ml_X12_199 mk_X12_has (m_has (k := 0) (b := 0) hn (by omega)) (fun t hh1 hq => ?_)
      obtain ⟨hhe, rfl⟩ := hq
      rw [hhe]
      refine ab_bif_eq 36 dX12_evens_18 (by decide) (fun c_18 => ?_) (fun c_18 => ?_)
      · skip
        refine ab_iconst (v := nI 0) dX12_evens_36 (by decide) ?_
        refine ab_norR dX12_evens_37 ?_
        refine ab_sti_n (ls' := [_, _, _, _]) dX12_evens_38 (by decide) rfl ?_
        refine ab_nincR (ls' := [_, _, _, _]) dX12_evens_39 rfl rfl ?_
        refine ab_goto 4 dX12_evens_42 (by decide) ?_
        refine (fun q => ?_) (ih (i + 1) _ (by omega) f)
        first | (rw [sOr_no (P := pE s n) (and_f1 c_18)] at q; rw [Nat.or_zero]; exact q) | (rw [sOr_no (P := pE s n) (and_f2 (decide_eq_false (by omega)))] at q; rw [Nat.or_zero]; exact q) | (rw [sOr_yes (P := pE s n) (and_t c_18 (decide_eq_true (by omega)))] at q; exact q)
      · skip
        refine ab_aload_n dX12_evens_21 rfl ?_
        refine ab_iload_n dX12_evens_22 rfl ?_
        refine ab_callVi [_] dX12_evens_23 ml_X12_291 mk_X12_areaValuation hM1.hs (m_areaValuation (k := 4) (b := 0) (Nat.le_refl _) hM1 hD1 hi9) (fun v h2 hq => ?_)
        obtain ⟨f2, rfl⟩ := hq
        replace f := f.trans f2
        refine ab_iconst (v := -1) dX12_evens_26 (by decide) ?_
        refine ab_icmp_gt 36 dX12_evens_27 (by decide) (fun c_27 => ?_) (fun c_27 => ?_)
        · replace c_27 := iI_m1.mp c_27
          refine ab_iconst (v := nI 0) dX12_evens_36 (by decide) ?_
          refine ab_norR dX12_evens_37 ?_
          refine ab_sti_n (ls' := [_, _, _, _]) dX12_evens_38 (by decide) rfl ?_
          refine ab_nincR (ls' := [_, _, _, _]) dX12_evens_39 rfl rfl ?_
          refine ab_goto 4 dX12_evens_42 (by decide) ?_
          refine (fun q => ?_) (ih (i + 1) _ (by omega) f)
          first | (rw [sOr_no (P := pE s n) (and_f1 c_18)] at q; rw [Nat.or_zero]; exact q) | (rw [sOr_no (P := pE s n) (and_f2 (decide_eq_false (by omega)))] at q; rw [Nat.or_zero]; exact q) | (rw [sOr_yes (P := pE s n) (and_t c_18 (decide_eq_true (by omega)))] at q; exact q)
        · replace c_27 := mt iI_m1.mpr c_27
          refine ab_iconst (v := nI 1) dX12_evens_30 (by decide) ?_
          refine ab_iload_n dX12_evens_31 rfl ?_
          refine ab_nshlR dX12_evens_32 (by omega) ?_
          refine ab_goto 37 dX12_evens_33 (by decide) ?_
          refine ab_norR dX12_evens_37 ?_
          refine ab_sti_n (ls' := [_, _, _, _]) dX12_evens_38 (by decide) rfl ?_
          refine ab_nincR (ls' := [_, _, _, _]) dX12_evens_39 rfl rfl ?_
          refine ab_goto 4 dX12_evens_42 (by decide) ?_
          refine (fun q => ?_) (ih (i + 1) _ (by omega) f)
          first | (rw [sOr_no (P := pE s n) (and_f1 c_18)] at q; rw [Nat.or_zero]; exact q) | (rw [sOr_no (P := pE s n) (and_f2 (decide_eq_false (by omega)))] at q; rw [Nat.or_zero]; exact q) | (rw [sOr_yes (P := pE s n) (and_t c_18 (decide_eq_true (by omega)))] at q; exact q)
set_option maxRecDepth 100000 in
set_option maxHeartbeats 4000000 in
theorem m_evens {k b n : Nat} {h : ab_H} {s : sS} (hk : 6 ≤ k) (hM : at_M (ab_sh h) (ab_r h)) (hD : sh_M s h) (hn : n < 2147483648) : ab_M k b mX12_evens [.ref 50, .int (nI n)] h (ab_pi (fun v h' => ab_fL h h' ∧ v = nI (sOr (pE s n) s.2.2.1))) := by
  refine ab_enter ?_
  refine ab_iconst (v := nI 0) dX12_evens_0 (by decide) ?_
  refine ab_sti_n (ls' := [_, _, _, _]) dX12_evens_1 (by decide) rfl ?_
  refine ab_iconst (v := nI 0) dX12_evens_2 (by decide) ?_
  refine ab_sti_n (ls' := [_, _, _, _]) dX12_evens_3 (by decide) rfl ?_
  exact lp_mevens hk hM hD hn s.2.2.1 0 _ (by omega) (ab_fL.rf h)
set_option maxRecDepth 100000 in
set_option maxHeartbeats 4000000 in
theorem lp_mrainbows {k b n : Nat} {h : ab_H} {s : sS} (hk : 6 ≤ k) (hM : at_M (ab_sh h) (ab_r h)) (hD : sh_M s h) (hn : n < 2147483648) : ∀ (j i : Nat) (h1 : ab_H), i + j = s.2.2.1 → ab_fL h h1 → ab_R k b mX12_rainbows 4 [some (.ref 50), some (.int (nI n)), some (.int (nI (sOr (pR s n) i))), some (.int (nI i))] [] h1 (ab_pi (fun v h' => ab_fL h h' ∧ v = nI (sOr (pR s n) s.2.2.1))) := by
  intro j
  induction j with
  | zero =>
    intro i h1 hi f
    have h11 := hD.W.2.1
    have hM1 := at_M.fL f hM
    have hD1 := hD.fL f
    obtain rfl : i = s.2.2.1 := by omega
    refine ab_iload_n dX12_rainbows_4 rfl ?_
    refine ab_aload_n dX12_rainbows_5 rfl ?_
    refine ab_getI dX12_rainbows_6 fl_X12_238 hM1.hs hD1.nt ?_
    refine ab_nicmp_ge 46 dX12_rainbows_9 (by decide) (by omega) (by omega) (fun c_9 => ?_) (fun c_9 => ?_)
    · skip
      refine ab_iload_n dX12_rainbows_46 rfl ?_
      refine ab_reti dX12_rainbows_47 ?_
      exact ⟨f, rfl⟩
    · skip
      exact absurd (Nat.le_refl _) c_9
  | succ j ih =>
    intro i h1 hi f
    have h11 := hD.W.2.1
    have hM1 := at_M.fL f hM
    have hD1 := hD.fL f
    refine ab_iload_n dX12_rainbows_4 rfl ?_
    refine ab_aload_n dX12_rainbows_5 rfl ?_
    refine ab_getI dX12_rainbows_6 fl_X12_238 hM1.hs hD1.nt ?_
    refine ab_nicmp_ge 46 dX12_rainbows_9 (by decide) (by omega) (by omega) (fun c_9 => ?_) (fun c_9 => ?_)
    · skip
      exact absurd c_9 (by omega)
    · skip
      have hi9 : i < s.2.2.1 := by omega
      refine ab_iload_n dX12_rainbows_12 rfl ?_
      refine ab_iload_n dX12_rainbows_13 rfl ?_
      refine ab_iload_n dX12_rainbows_14 rfl ?_
      refine ab_callSb [_, _] dX12_rainbows_15 ml_X12_199 mk_X12_has (m_has (k := 0) (b := 0) hn (by omega)) (fun t hh1 hq => ?_)
      obtain ⟨hhe, rfl⟩ := hq
      rw [hhe]
      refine ab_bif_eq 37 dX12_rainbows_18 (by decide) (fun c_18 => ?_) (fun c_18 => ?_)
      · skip
        refine ab_iconst (v := nI 0) dX12_rainbows_37 (by decide) ?_
        refine ab_norR dX12_rainbows_38 ?_
        refine ab_sti_n (ls' := [_, _, _, _]) dX12_rainbows_39 (by decide) rfl ?_
        refine ab_nincR (ls' := [_, _, _, _]) dX12_rainbows_40 rfl rfl ?_
        refine ab_goto 4 dX12_rainbows_43 (by decide) ?_
        refine (fun q => ?_) (ih (i + 1) _ (by omega) f)
        first | (rw [sOr_no (P := pR s n) (and_f1 c_18)] at q; rw [Nat.or_zero]; exact q) | (rw [sOr_no (P := pR s n) (and_f2 (decide_eq_false c_28))] at q; rw [Nat.or_zero]; exact q) | (rw [sOr_yes (P := pR s n) (and_t c_18 (decide_eq_true c_28))] at q; exact q)
      · skip
        refine ab_aload_n dX12_rainbows_21 rfl ?_
        refine ab_iload_n dX12_rainbows_22 rfl ?_
        refine ab_callVi [_] dX12_rainbows_23 ml_X12_288 mk_X12_coloursOf hM1.hs (m_coloursOf (k := 5) (b := 0) (Nat.le_refl _) hM1 hD1 hi9) (fun v h2 hq => ?_)
        obtain ⟨hhe, rfl⟩ := hq
        rw [hhe]
        refine ab_bipush (v := nI 7) dX12_rainbows_26 (by decide) ?_
        refine ab_nicmp_ne 37 dX12_rainbows_28 (by decide) (by have := co_lt (s.2.2.2 i).1 (s.2.1 (s.2.2.2 i).2.1) (s.2.1 (s.2.2.2 i).2.2.1) (s.2.1 (s.2.2.2 i).2.2.2); unfold sC; omega) (by omega) (fun c_28 => ?_) (fun c_28 => ?_)
        · skip
          refine ab_iconst (v := nI 0) dX12_rainbows_37 (by decide) ?_
          refine ab_norR dX12_rainbows_38 ?_
          refine ab_sti_n (ls' := [_, _, _, _]) dX12_rainbows_39 (by decide) rfl ?_
          refine ab_nincR (ls' := [_, _, _, _]) dX12_rainbows_40 rfl rfl ?_
          refine ab_goto 4 dX12_rainbows_43 (by decide) ?_
          refine (fun q => ?_) (ih (i + 1) _ (by omega) f)
          first | (rw [sOr_no (P := pR s n) (and_f1 c_18)] at q; rw [Nat.or_zero]; exact q) | (rw [sOr_no (P := pR s n) (and_f2 (decide_eq_false c_28))] at q; rw [Nat.or_zero]; exact q) | (rw [sOr_yes (P := pR s n) (and_t c_18 (decide_eq_true c_28))] at q; exact q)
        · skip
          refine ab_iconst (v := nI 1) dX12_rainbows_31 (by decide) ?_
          refine ab_iload_n dX12_rainbows_32 rfl ?_
          refine ab_nshlR dX12_rainbows_33 (by omega) ?_
          refine ab_goto 38 dX12_rainbows_34 (by decide) ?_
          refine ab_norR dX12_rainbows_38 ?_
          refine ab_sti_n (ls' := [_, _, _, _]) dX12_rainbows_39 (by decide) rfl ?_
          refine ab_nincR (ls' := [_, _, _, _]) dX12_rainbows_40 rfl rfl ?_
          refine ab_goto 4 dX12_rainbows_43 (by decide) ?_
          refine (fun q => ?_) (ih (i + 1) _ (by omega) f)
          first | (rw [sOr_no (P := pR s n) (and_f1 c_18)] at q; rw [Nat.or_zero]; exact q) | (rw [sOr_no (P := pR s n) (and_f2 (decide_eq_false c_28))] at q; rw [Nat.or_zero]; exact q) | (rw [sOr_yes (P := pR s n) (and_t c_18 (decide_eq_true c_28))] at q; exact q)
set_option maxRecDepth 100000 in
set_option maxHeartbeats 4000000 in
theorem m_rainbows {k b n : Nat} {h : ab_H} {s : sS} (hk : 6 ≤ k) (hM : at_M (ab_sh h) (ab_r h)) (hD : sh_M s h) (hn : n < 2147483648) : ab_M k b mX12_rainbows [.ref 50, .int (nI n)] h (ab_pi (fun v h' => ab_fL h h' ∧ v = nI (sOr (pR s n) s.2.2.1))) := by
  refine ab_enter ?_
  refine ab_iconst (v := nI 0) dX12_rainbows_0 (by decide) ?_
  refine ab_sti_n (ls' := [_, _, _, _]) dX12_rainbows_1 (by decide) rfl ?_
  refine ab_iconst (v := nI 0) dX12_rainbows_2 (by decide) ?_
  refine ab_sti_n (ls' := [_, _, _, _]) dX12_rainbows_3 (by decide) rfl ?_
  exact lp_mrainbows hk hM hD hn s.2.2.1 0 _ (by omega) (ab_fL.rf h)
