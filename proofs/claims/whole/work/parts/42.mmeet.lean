/-! ===== the model: lots, meetings ===== -/
theorem ab_leads_skip {ρ : Nat → Nat} {F : Nat → Option Nat} {by_ i : Nat} (e : F i = none) : ∀ d, d ≤ 4 → ab_leads ρ F by_ (i * 4 + d) = ab_leads ρ F by_ (i * 4)
  | 0, _ => rfl
  | d + 1, hd => by
    funext t
    show ab_leads ρ F by_ (i * 4 + d + 1) t = _
    rw [ab_leads, show (i * 4 + d) / 4 = i by omega, e]
    exact congrFun (ab_leads_skip e d (by omega)) t
theorem ab_leads_lt {ρ : Nat → Nat} {F : Nat → Option Nat} {by_ : Nat} (hB : ∀ s a, s < 16 → F s = some a → a < 268435456) (hby : by_ ≤ 268435456) : ∀ n, n ≤ 64 → ∀ t q, ab_leads ρ F by_ n t = some q → q < 2147483648
  | 0, _, t, q, h => by rw [ab_leads] at h; cases h
  | n + 1, hn, t, q, h => by
    have ih := ab_leads_lt (ρ := ρ) hB hby n (by omega) t
    rw [ab_leads] at h
    cases e : F (n / 4) with
    | none => rw [e] at h; exact ih q h
    | some a =>
      rw [e] at h
      simp only at h
      have ha := hB _ _ (by omega) e
      have hm : n % 4 * by_ ≤ 3 * 268435456 := Nat.mul_le_mul (by omega) hby
      split at h
      · unfold ab_or at h
        cases e2 : ab_leads ρ F by_ n t with
        | none => rw [e2] at h; simp only [Option.some.injEq] at h; omega
        | some z =>
          rw [e2] at h
          simp only at h
          split at h
          · simp only [Option.some.injEq] at h; omega
          · cases h; exact ih _ e2
      · exact ih q h
theorem ab_leads_set {ρ : Nat → Nat} {F : Nat → Option Nat} {by_ i d a u : Nat} {h1 : ab_H} {v : Int32} (hd : d < 4) (e : F i = some a) (hu : u = ab_nx ρ i d) (hl : ab_row h1 61 (-1) (ab_leads ρ F by_ (i * 4 + d))) (hv : v = ab_opt (-1) (ab_or (ab_leads ρ F by_ (i * 4 + d) u) (a + d * by_))) : ab_row (ab_si h1 61 u v) 61 (-1) (ab_leads ρ F by_ (i * 4 + d + 1)) := by
  intro t ht
  rw [ab_i_si, if_pos rfl, ab_up_at, ab_leads, show (i * 4 + d) / 4 = i by omega, e, show (i * 4 + d) % 4 = d by omega]
  simp only
  rw [← hu]
  by_cases et : t = u
  · rw [if_pos et, if_pos et, hv, et]
  · rw [if_neg et, if_neg et]; exact hl t ht
set_option maxRecDepth 100000 in
set_option maxHeartbeats 4000000 in
theorem lp_leadsC {k b g : Nat} {h : ab_H} {ρ : Nat → Nat} {F : Nat → Option Nat} {i a : Nat} {post : Value → ab_H → Prop} (hM : at_M (ab_sh h) (ab_r h)) (hU : ab_rho h 57 ρ) (he : ab_row h 60 (-1) F) (hB : ∀ s a, s < 16 → F s = some a → a < 268435456) (hby : g ≤ 268435456) (hi : i < 16) (e : F i = some a) (cont : ∀ h1, ab_fr [61] h h1 → ab_row h1 61 (-1) (ab_leads ρ F g (i * 4 + 4)) → ab_R k b mX12_leads 133 [some (.ref 50), some (.int (nI g)), some (.int (nI i)), none, none, none] [] h1 post) : ∀ (j d : Nat) (h1 : ab_H), d + j = 4 → ab_fr [61] h h1 → ab_row h1 61 (-1) (ab_leads ρ F g (i * 4 + d)) → ab_R k b mX12_leads 31 [some (.ref 50), some (.int (nI g)), some (.int (nI i)), some (.int (nI d)), none, none] [] h1 post := by
  intro j
  have ha := hB _ _ hi e
  induction j with
  | zero =>
    intro d h1 hd f hl
    obtain rfl : d = 4 := by omega
    have hM1 := at_M.fr f hM
    have hU1 := hU.fr f (by simp)
    have he1 := he.fr f (by simp)
    refine ab_aload_n dX12_leads_31 rfl ?_
    refine ab_getR dX12_leads_32 fl_X12_58 hM1.hs hM1.p50_13 ?_
    refine ab_iload_n dX12_leads_35 rfl ?_
    refine ab_iald dX12_leads_36 hM1.s60 rfl (by omega) ((he1 i hi).trans (show ab_opt (-1) (F i) = nI a by rw [e]; rfl)) ?_
    refine ab_if_lt 133 dX12_leads_37 (by decide) (fun c_37 => ?_) (fun c_37 => ?_)
    · skip
      exact absurd c_37 (nI_pos (by omega))
    · skip
      refine ab_iload_n dX12_leads_40 rfl ?_
      refine ab_iconst (v := nI 4) dX12_leads_41 (by decide) ?_
      refine ab_nicmp_ge 133 dX12_leads_42 (by decide) (by omega) (by omega) (fun c_42 => ?_) (fun c_42 => ?_)
      · skip
        exact ab_weak (cont h1 f hl) ⟨rfl, rfl, rfl, trivial⟩
      · skip
        exact absurd (by omega) c_42
  | succ j ih =>
    intro d h1 hd f hl
    have hM1 := at_M.fr f hM
    have hU1 := hU.fr f (by simp)
    have he1 := he.fr f (by simp)
    have q1 := (hU (4 * (i / 4) + d) (by omega)).2
    have q2 := (hU (4 * (i % 4) + d) (by omega)).2
    have hlt : (4 * ρ (4 * (i / 4) + d) + ρ (4 * (i % 4) + d)) < 16 := by omega
    have hu : (4 * ρ (4 * (i / 4) + d) + ρ (4 * (i % 4) + d)) = ab_nx ρ i d := by unfold ab_nx; rw [Nat.mul_comm 4 (i / 4), Nat.mul_comm 4 (i % 4), Nat.mul_comm 4 (ρ _)]
    have hdg : d * g ≤ 3 * 268435456 := Nat.mul_le_mul (by omega) hby
    cases e2 : ab_leads ρ F g (i * 4 + d) (4 * ρ (4 * (i / 4) + d) + ρ (4 * (i % 4) + d)) with
    | none =>
      refine ab_aload_n dX12_leads_31 rfl ?_
      refine ab_getR dX12_leads_32 fl_X12_58 hM1.hs hM1.p50_13 ?_
      refine ab_iload_n dX12_leads_35 rfl ?_
      refine ab_iald dX12_leads_36 hM1.s60 rfl (by omega) ((he1 i hi).trans (show ab_opt (-1) (F i) = nI a by rw [e]; rfl)) ?_
      refine ab_if_lt 133 dX12_leads_37 (by decide) (fun c_37 => ?_) (fun c_37 => ?_)
      · skip
        exact absurd c_37 (nI_pos (by omega))
      · skip
        refine ab_iload_n dX12_leads_40 rfl ?_
        refine ab_iconst (v := nI 4) dX12_leads_41 (by decide) ?_
        refine ab_nicmp_ge 133 dX12_leads_42 (by decide) (by omega) (by omega) (fun c_42 => ?_) (fun c_42 => ?_)
        · skip
          exact absurd c_42 (by omega)
        · skip
          refine ab_iconst (v := nI 4) dX12_leads_45 (by decide) ?_
          refine ab_aload_n dX12_leads_46 rfl ?_
          refine ab_getR dX12_leads_47 fl_X12_48 hM1.hs hM1.p50_10 ?_
          refine ab_iconst (v := nI 4) dX12_leads_50 (by decide) ?_
          refine ab_iload_n dX12_leads_51 rfl ?_
          refine ab_iconst (v := nI 4) dX12_leads_52 (by decide) ?_
          refine ab_ndivR dX12_leads_53 (by omega) (by decide) (by decide) ?_
          refine ab_nmulR dX12_leads_54 ?_
          refine ab_iload_n dX12_leads_55 rfl ?_
          refine ab_naddR dX12_leads_56 ?_
          refine ab_iald dX12_leads_57 hM1.s57 rfl (by omega) (hU1 (4 * (i / 4) + d) (by omega)).1 ?_
          refine ab_nmulR dX12_leads_58 ?_
          refine ab_aload_n dX12_leads_59 rfl ?_
          refine ab_getR dX12_leads_60 fl_X12_48 hM1.hs hM1.p50_10 ?_
          refine ab_iconst (v := nI 4) dX12_leads_63 (by decide) ?_
          refine ab_iload_n dX12_leads_64 rfl ?_
          refine ab_iconst (v := nI 4) dX12_leads_65 (by decide) ?_
          refine ab_nremR dX12_leads_66 (by omega) (by decide) (by decide) ?_
          refine ab_nmulR dX12_leads_67 ?_
          refine ab_iload_n dX12_leads_68 rfl ?_
          refine ab_naddR dX12_leads_69 ?_
          refine ab_iald dX12_leads_70 hM1.s57 rfl (by omega) (hU1 (4 * (i % 4) + d) (by omega)).1 ?_
          refine ab_naddR dX12_leads_71 ?_
          refine ab_sti (ls' := [_, _, _, _, _, _]) dX12_leads_72 (by decide) rfl ?_
          refine ab_aload_n dX12_leads_74 rfl ?_
          refine ab_getR dX12_leads_75 fl_X12_58 hM1.hs hM1.p50_13 ?_
          refine ab_iload_n dX12_leads_78 rfl ?_
          refine ab_iald dX12_leads_79 hM1.s60 rfl (by omega) ((he1 i hi).trans (show ab_opt (-1) (F i) = nI a by rw [e]; rfl)) ?_
          refine ab_iload_n dX12_leads_80 rfl ?_
          refine ab_iload_n dX12_leads_81 rfl ?_
          refine ab_nmulR dX12_leads_82 ?_
          refine ab_naddR dX12_leads_83 ?_
          refine ab_sti (ls' := [_, _, _, _, _, _]) dX12_leads_84 (by decide) rfl ?_
          refine ab_aload_n dX12_leads_86 rfl ?_
          refine ab_getR dX12_leads_87 fl_X12_61 hM1.hs hM1.p50_14 ?_
          refine ab_iload dX12_leads_90 rfl ?_
          refine ab_aload_n dX12_leads_92 rfl ?_
          refine ab_getR dX12_leads_93 fl_X12_61 hM1.hs hM1.p50_14 ?_
          refine ab_iload dX12_leads_96 rfl ?_
          refine ab_iald dX12_leads_98 hM1.s61 rfl hlt ((hl _ hlt).trans (show ab_opt (-1) _ = -1 by rw [e2]; rfl)) ?_
          refine ab_if_lt 114 dX12_leads_99 (by decide) (fun c_99 => ?_) (fun c_99 => ?_)
          · skip
            refine ab_iload dX12_leads_114 rfl ?_
            refine ab_goto 126 dX12_leads_116 (by decide) ?_
            refine ab_iast dX12_leads_126 hM1.s61 rfl hlt ?_
            refine ab_nincR (ls' := [_, _, _, _, _, _]) dX12_leads_127 rfl rfl ?_
            refine ab_goto 31 dX12_leads_130 (by decide) ?_
            exact ab_weak (ih (d + 1) _ (by omega) (f.si _ _ _ ab_mem1) (ab_leads_set (by omega) e hu hl (by rw [e2]; rfl))) ⟨rfl, rfl, rfl, rfl, trivial⟩
          · skip
            exact absurd (show (-1 : Int32) < 0 by decide) c_99
    | some q =>
      have hq := ab_leads_lt hB hby (i * 4 + d) (by omega) _ _ e2
      refine ab_aload_n dX12_leads_31 rfl ?_
      refine ab_getR dX12_leads_32 fl_X12_58 hM1.hs hM1.p50_13 ?_
      refine ab_iload_n dX12_leads_35 rfl ?_
      refine ab_iald dX12_leads_36 hM1.s60 rfl (by omega) ((he1 i hi).trans (show ab_opt (-1) (F i) = nI a by rw [e]; rfl)) ?_
      refine ab_if_lt 133 dX12_leads_37 (by decide) (fun c_37 => ?_) (fun c_37 => ?_)
      · skip
        exact absurd c_37 (nI_pos (by omega))
      · skip
        refine ab_iload_n dX12_leads_40 rfl ?_
        refine ab_iconst (v := nI 4) dX12_leads_41 (by decide) ?_
        refine ab_nicmp_ge 133 dX12_leads_42 (by decide) (by omega) (by omega) (fun c_42 => ?_) (fun c_42 => ?_)
        · skip
          exact absurd c_42 (by omega)
        · skip
          refine ab_iconst (v := nI 4) dX12_leads_45 (by decide) ?_
          refine ab_aload_n dX12_leads_46 rfl ?_
          refine ab_getR dX12_leads_47 fl_X12_48 hM1.hs hM1.p50_10 ?_
          refine ab_iconst (v := nI 4) dX12_leads_50 (by decide) ?_
          refine ab_iload_n dX12_leads_51 rfl ?_
          refine ab_iconst (v := nI 4) dX12_leads_52 (by decide) ?_
          refine ab_ndivR dX12_leads_53 (by omega) (by decide) (by decide) ?_
          refine ab_nmulR dX12_leads_54 ?_
          refine ab_iload_n dX12_leads_55 rfl ?_
          refine ab_naddR dX12_leads_56 ?_
          refine ab_iald dX12_leads_57 hM1.s57 rfl (by omega) (hU1 (4 * (i / 4) + d) (by omega)).1 ?_
          refine ab_nmulR dX12_leads_58 ?_
          refine ab_aload_n dX12_leads_59 rfl ?_
          refine ab_getR dX12_leads_60 fl_X12_48 hM1.hs hM1.p50_10 ?_
          refine ab_iconst (v := nI 4) dX12_leads_63 (by decide) ?_
          refine ab_iload_n dX12_leads_64 rfl ?_
          refine ab_iconst (v := nI 4) dX12_leads_65 (by decide) ?_
          refine ab_nremR dX12_leads_66 (by omega) (by decide) (by decide) ?_
          refine ab_nmulR dX12_leads_67 ?_
          refine ab_iload_n dX12_leads_68 rfl ?_
          refine ab_naddR dX12_leads_69 ?_
          refine ab_iald dX12_leads_70 hM1.s57 rfl (by omega) (hU1 (4 * (i % 4) + d) (by omega)).1 ?_
          refine ab_naddR dX12_leads_71 ?_
          refine ab_sti (ls' := [_, _, _, _, _, _]) dX12_leads_72 (by decide) rfl ?_
          refine ab_aload_n dX12_leads_74 rfl ?_
          refine ab_getR dX12_leads_75 fl_X12_58 hM1.hs hM1.p50_13 ?_
          refine ab_iload_n dX12_leads_78 rfl ?_
          refine ab_iald dX12_leads_79 hM1.s60 rfl (by omega) ((he1 i hi).trans (show ab_opt (-1) (F i) = nI a by rw [e]; rfl)) ?_
          refine ab_iload_n dX12_leads_80 rfl ?_
          refine ab_iload_n dX12_leads_81 rfl ?_
          refine ab_nmulR dX12_leads_82 ?_
          refine ab_naddR dX12_leads_83 ?_
          refine ab_sti (ls' := [_, _, _, _, _, _]) dX12_leads_84 (by decide) rfl ?_
          refine ab_aload_n dX12_leads_86 rfl ?_
          refine ab_getR dX12_leads_87 fl_X12_61 hM1.hs hM1.p50_14 ?_
          refine ab_iload dX12_leads_90 rfl ?_
          refine ab_aload_n dX12_leads_92 rfl ?_
          refine ab_getR dX12_leads_93 fl_X12_61 hM1.hs hM1.p50_14 ?_
          refine ab_iload dX12_leads_96 rfl ?_
          refine ab_iald dX12_leads_98 hM1.s61 rfl hlt ((hl _ hlt).trans (show ab_opt (-1) _ = nI q by rw [e2]; rfl)) ?_
          refine ab_if_lt 114 dX12_leads_99 (by decide) (fun c_99 => ?_) (fun c_99 => ?_)
          · skip
            exact absurd c_99 (nI_pos hq)
          · skip
            refine ab_iload dX12_leads_102 rfl ?_
            refine ab_aload_n dX12_leads_104 rfl ?_
            refine ab_getR dX12_leads_105 fl_X12_61 hM1.hs hM1.p50_14 ?_
            refine ab_iload dX12_leads_108 rfl ?_
            refine ab_iald dX12_leads_110 hM1.s61 rfl hlt ((hl _ hlt).trans (show ab_opt (-1) _ = nI q by rw [e2]; rfl)) ?_
            refine ab_nicmp_ge 119 dX12_leads_111 (by decide) (by omega) hq (fun c_111 => ?_) (fun c_111 => ?_)
            · skip
              refine ab_aload_n dX12_leads_119 rfl ?_
              refine ab_getR dX12_leads_120 fl_X12_61 hM1.hs hM1.p50_14 ?_
              refine ab_iload dX12_leads_123 rfl ?_
              refine ab_iald dX12_leads_125 hM1.s61 rfl hlt ((hl _ hlt).trans (show ab_opt (-1) _ = nI q by rw [e2]; rfl)) ?_
              refine ab_iast dX12_leads_126 hM1.s61 rfl hlt ?_
              refine ab_nincR (ls' := [_, _, _, _, _, _]) dX12_leads_127 rfl rfl ?_
              refine ab_goto 31 dX12_leads_130 (by decide) ?_
              exact ab_weak (ih (d + 1) _ (by omega) (f.si _ _ _ ab_mem1) (ab_leads_set (by omega) e hu hl (by rw [e2]; show _ = ab_opt (-1) (if a + d * g < q then some (a + d * g) else some q); first | (rw [if_neg (by omega)]; rfl) | (rw [if_pos (by omega)]; rfl)))) ⟨rfl, rfl, rfl, rfl, trivial⟩
            · skip
              refine ab_iload dX12_leads_114 rfl ?_
              refine ab_goto 126 dX12_leads_116 (by decide) ?_
              refine ab_iast dX12_leads_126 hM1.s61 rfl hlt ?_
              refine ab_nincR (ls' := [_, _, _, _, _, _]) dX12_leads_127 rfl rfl ?_
              refine ab_goto 31 dX12_leads_130 (by decide) ?_
              exact ab_weak (ih (d + 1) _ (by omega) (f.si _ _ _ ab_mem1) (ab_leads_set (by omega) e hu hl (by rw [e2]; show _ = ab_opt (-1) (if a + d * g < q then some (a + d * g) else some q); first | (rw [if_neg (by omega)]; rfl) | (rw [if_pos (by omega)]; rfl)))) ⟨rfl, rfl, rfl, rfl, trivial⟩
set_option maxRecDepth 100000 in
set_option maxHeartbeats 4000000 in
theorem lp_leadsD {k b g : Nat} {h : ab_H} {ρ : Nat → Nat} {F : Nat → Option Nat} (hM : at_M (ab_sh h) (ab_r h)) : ∀ (j i : Nat) (h1 : ab_H), i + j = 16 → ab_fr [60, 61] h h1 → ab_row h1 61 (-1) (ab_leads ρ F g 64) → (∀ t, t < i → ab_i h1 60 t = ab_opt (-1) (ab_leads ρ F g 64 t)) → ab_R k b mX12_leads 141 [some (.ref 50), some (.int (nI g)), some (.int (nI i)), none, none, none] [] h1 (ab_pv (fun h' => ab_fr [60, 61] h h' ∧ ab_row h' 60 (-1) (ab_leads ρ F g 64))) := by
  intro j
  induction j with
  | zero =>
    intro i h1 hi f hc hl
    obtain rfl : i = 16 := by omega
    have hM1 := at_M.fr f hM
    refine ab_iload_n dX12_leads_141 rfl ?_
    refine ab_bipush (v := nI 16) dX12_leads_142 (by decide) ?_
    refine ab_nicmp_ge 165 dX12_leads_144 (by decide) (by omega) (by omega) (fun c_144 => ?_) (fun c_144 => ?_)
    · skip
      refine ab_retv dX12_leads_165 ?_
      exact ⟨f, hl⟩
    · skip
      exact absurd (by omega) c_144
  | succ j ih =>
    intro i h1 hi f hc hl
    have hM1 := at_M.fr f hM
    refine ab_iload_n dX12_leads_141 rfl ?_
    refine ab_bipush (v := nI 16) dX12_leads_142 (by decide) ?_
    refine ab_nicmp_ge 165 dX12_leads_144 (by decide) (by omega) (by omega) (fun c_144 => ?_) (fun c_144 => ?_)
    · skip
      exact absurd c_144 (by omega)
    · skip
      refine ab_aload_n dX12_leads_147 rfl ?_
      refine ab_getR dX12_leads_148 fl_X12_58 hM1.hs hM1.p50_13 ?_
      refine ab_iload_n dX12_leads_151 rfl ?_
      refine ab_aload_n dX12_leads_152 rfl ?_
      refine ab_getR dX12_leads_153 fl_X12_61 hM1.hs hM1.p50_14 ?_
      refine ab_iload_n dX12_leads_156 rfl ?_
      refine ab_iald dX12_leads_157 hM1.s61 rfl (by omega) rfl ?_
      refine ab_iast dX12_leads_158 hM1.s60 rfl (by omega) ?_
      refine ab_nincR (ls' := [_, _, _, _, _, _]) dX12_leads_159 rfl rfl ?_
      refine ab_goto 141 dX12_leads_162 (by decide) ?_
      exact ih (i + 1) _ (by omega) (f.si _ _ _ (by simp)) (fun t ht => by rw [ab_i_si, if_neg (by decide)]; exact hc t ht) (ab_si_next hl (hc i (by omega)))
set_option maxRecDepth 100000 in
set_option maxHeartbeats 4000000 in
theorem lp_leadsB {k b g : Nat} {h : ab_H} {ρ : Nat → Nat} {F : Nat → Option Nat} (hM : at_M (ab_sh h) (ab_r h)) (hU : ab_rho h 57 ρ) (he : ab_row h 60 (-1) F) (hB : ∀ s a, s < 16 → F s = some a → a < 268435456) (hby : g ≤ 268435456) : ∀ (j i : Nat) (h1 : ab_H), i + j = 16 → ab_fr [61] h h1 → ab_row h1 61 (-1) (ab_leads ρ F g (i * 4)) → ab_R k b mX12_leads 23 [some (.ref 50), some (.int (nI g)), some (.int (nI i)), none, none, none] [] h1 (ab_pv (fun h' => ab_fr [60, 61] h h' ∧ ab_row h' 60 (-1) (ab_leads ρ F g 64))) := by
  intro j
  induction j with
  | zero =>
    intro i h1 hi f hl
    obtain rfl : i = 16 := by omega
    have hM1 := at_M.fr f hM
    have hU1 := hU.fr f (by simp)
    have he1 := he.fr f (by simp)
    refine ab_iload_n dX12_leads_23 rfl ?_
    refine ab_bipush (v := nI 16) dX12_leads_24 (by decide) ?_
    refine ab_nicmp_ge 139 dX12_leads_26 (by decide) (by omega) (by omega) (fun c_26 => ?_) (fun c_26 => ?_)
    · skip
      refine ab_iconst (v := nI 0) dX12_leads_139 (by decide) ?_
      refine ab_sti_n (ls' := [_, _, _, _, _, _]) dX12_leads_140 (by decide) rfl ?_
      exact lp_leadsD hM 16 0 h1 rfl (f.mono (by simp)) hl (fun t ht => absurd ht (Nat.not_lt_zero t))
    · skip
      exact absurd (by omega) c_26
  | succ j ih =>
    intro i h1 hi f hl
    have hM1 := at_M.fr f hM
    have hU1 := hU.fr f (by simp)
    have he1 := he.fr f (by simp)
    cases e : F i with
    | none =>
      refine ab_iload_n dX12_leads_23 rfl ?_
      refine ab_bipush (v := nI 16) dX12_leads_24 (by decide) ?_
      refine ab_nicmp_ge 139 dX12_leads_26 (by decide) (by omega) (by omega) (fun c_26 => ?_) (fun c_26 => ?_)
      · skip
        exact absurd c_26 (by omega)
      · skip
        refine ab_iconst (v := nI 0) dX12_leads_29 (by decide) ?_
        refine ab_sti_n (ls' := [_, _, _, _, _, _]) dX12_leads_30 (by decide) rfl ?_
        refine ab_aload_n dX12_leads_31 rfl ?_
        refine ab_getR dX12_leads_32 fl_X12_58 hM1.hs hM1.p50_13 ?_
        refine ab_iload_n dX12_leads_35 rfl ?_
        refine ab_iald dX12_leads_36 hM1.s60 rfl (by omega) ((he1 i (by omega)).trans (show ab_opt (-1) (F i) = -1 by rw [e]; rfl)) ?_
        refine ab_if_lt 133 dX12_leads_37 (by decide) (fun c_37 => ?_) (fun c_37 => ?_)
        · skip
          refine ab_nincR (ls' := [_, _, _, _, _, _]) dX12_leads_133 rfl rfl ?_
          refine ab_goto 23 dX12_leads_136 (by decide) ?_
          exact ab_weak (ih (i + 1) h1 (by omega) f (by rw [Nat.succ_mul, ab_leads_skip e 4 (Nat.le_refl 4)]; exact hl)) ⟨rfl, rfl, rfl, trivial⟩
        · skip
          exact absurd (show (-1 : Int32) < 0 by decide) c_37
    | some a =>
      refine ab_iload_n dX12_leads_23 rfl ?_
      refine ab_bipush (v := nI 16) dX12_leads_24 (by decide) ?_
      refine ab_nicmp_ge 139 dX12_leads_26 (by decide) (by omega) (by omega) (fun c_26 => ?_) (fun c_26 => ?_)
      · skip
        exact absurd c_26 (by omega)
      · skip
        refine ab_iconst (v := nI 0) dX12_leads_29 (by decide) ?_
        refine ab_sti_n (ls' := [_, _, _, _, _, _]) dX12_leads_30 (by decide) rfl ?_
        refine lp_leadsC hM hU he hB hby (by omega) e (fun h2 f2 hl2 => ?_) 4 0 h1 rfl f hl
        refine ab_nincR (ls' := [_, _, _, _, _, _]) dX12_leads_133 rfl rfl ?_
        refine ab_goto 23 dX12_leads_136 (by decide) ?_
        exact ih (i + 1) h2 (by omega) f2 (by rw [Nat.succ_mul]; exact hl2)
set_option maxRecDepth 100000 in
set_option maxHeartbeats 4000000 in
theorem lp_leadsA {k b g : Nat} {h : ab_H} {ρ : Nat → Nat} {F : Nat → Option Nat} (hM : at_M (ab_sh h) (ab_r h)) (hU : ab_rho h 57 ρ) (he : ab_row h 60 (-1) F) (hB : ∀ s a, s < 16 → F s = some a → a < 268435456) (hby : g ≤ 268435456) : ∀ (j i : Nat) (h1 : ab_H), i + j = 16 → ab_fr [61] h h1 → (∀ t, t < i → ab_i h1 61 t = (fun _ => -1 : Nat → Int32) t) → ab_R k b mX12_leads 2 [some (.ref 50), some (.int (nI g)), some (.int (nI i)), none, none, none] [] h1 (ab_pv (fun h' => ab_fr [60, 61] h h' ∧ ab_row h' 60 (-1) (ab_leads ρ F g 64))) := by
  intro j
  induction j with
  | zero =>
    intro i h1 hi f hl
    obtain rfl : i = 16 := by omega
    have hM1 := at_M.fr f hM
    refine ab_iload_n dX12_leads_2 rfl ?_
    refine ab_bipush (v := nI 16) dX12_leads_3 (by decide) ?_
    refine ab_nicmp_ge 21 dX12_leads_5 (by decide) (by omega) (by omega) (fun c_5 => ?_) (fun c_5 => ?_)
    · skip
      refine ab_iconst (v := nI 0) dX12_leads_21 (by decide) ?_
      refine ab_sti_n (ls' := [_, _, _, _, _, _]) dX12_leads_22 (by decide) rfl ?_
      exact lp_leadsB hM hU he hB hby 16 0 h1 rfl f hl
    · skip
      exact absurd (by omega) c_5
  | succ j ih =>
    intro i h1 hi f hl
    have hM1 := at_M.fr f hM
    refine ab_iload_n dX12_leads_2 rfl ?_
    refine ab_bipush (v := nI 16) dX12_leads_3 (by decide) ?_
    refine ab_nicmp_ge 21 dX12_leads_5 (by decide) (by omega) (by omega) (fun c_5 => ?_) (fun c_5 => ?_)
    · skip
      exact absurd c_5 (by omega)
    · skip
      refine ab_aload_n dX12_leads_8 rfl ?_
      refine ab_getR dX12_leads_9 fl_X12_61 hM1.hs hM1.p50_14 ?_
      refine ab_iload_n dX12_leads_12 rfl ?_
      refine ab_iconst (v := -1) dX12_leads_13 (by decide) ?_
      refine ab_iast dX12_leads_14 hM1.s61 rfl (by omega) ?_
      refine ab_nincR (ls' := [_, _, _, _, _, _]) dX12_leads_15 rfl rfl ?_
      refine ab_goto 2 dX12_leads_18 (by decide) ?_
      exact ih (i + 1) _ (by omega) (f.si _ _ _ ab_mem1) (ab_si_next hl rfl)
set_option maxRecDepth 100000 in
set_option maxHeartbeats 4000000 in
theorem m_leads {k b g : Nat} {h : ab_H} {ρ : Nat → Nat} {F : Nat → Option Nat} (hM : at_M (ab_sh h) (ab_r h)) (hU : ab_rho h 57 ρ) (he : ab_row h 60 (-1) F) (hB : ∀ s a, s < 16 → F s = some a → a < 268435456) (hby : g ≤ 268435456) : ab_M k b mX12_leads [.ref 50, .int (nI g)] h (ab_pv (fun h' => ab_fr [60, 61] h h' ∧ ab_row h' 60 (-1) (ab_leads ρ F g 64))) := by
  refine ab_enter ?_
  refine ab_iconst (v := nI 0) dX12_leads_0 (by decide) ?_
  refine ab_sti_n (ls' := [_, _, _, _, _, _]) dX12_leads_1 (by decide) rfl ?_
  exact lp_leadsA hM hU he hB hby 16 0 h rfl (ab_fr.rf h) (fun t ht => absurd ht (Nat.not_lt_zero t))
theorem ab_diag_lt {F : Nat → Option Nat} (hB : ∀ s a, s < 16 → F s = some a → a < 2147483648) : ∀ n, n ≤ 4 → ∀ q, ab_diag F n = some q → q < 2147483648
  | 0, _, q, h => by rw [ab_diag] at h; cases h
  | n + 1, hn, q, h => by
    have ih := ab_diag_lt hB n (by omega)
    rw [ab_diag] at h
    cases e : F (5 * n) with
    | none => rw [e] at h; exact ih q h
    | some a =>
      have ha := hB _ _ (by omega) e
      rw [e] at h
      simp only at h
      cases e2 : ab_diag F n with
      | none => rw [e2] at h; unfold ab_or at h; simp only [Option.some.injEq] at h; omega
      | some z =>
        rw [e2] at h
        unfold ab_or at h
        simp only at h
        split at h
        · cases h; exact ha
        · cases h; exact ih _ e2
set_option maxRecDepth 100000 in
set_option maxHeartbeats 4000000 in
theorem lp_leastAlike {k b : Nat} {h : ab_H} {F : Nat → Option Nat} (hM : at_M (ab_sh h) (ab_r h)) (he : ab_row h 60 (-1) F) (hB : ∀ s a, s < 16 → F s = some a → a < 2147483648) : ∀ (j i : Nat) (x : Int32), i + j = 4 → x = ab_opt (-1) (ab_diag F i) → ab_R k b mX12_leastAlike 4 [some (.ref 50), some (.int (x)), some (.int (nI i)), none] [] h (ab_pi (fun v h' => h' = h ∧ v = ab_opt (-1) (ab_diag F 4))) := by
  intro j
  induction j with
  | zero =>
    intro i x hi hv
    obtain rfl : i = 4 := by omega
    refine ab_iload_n dX12_leastAlike_4 rfl ?_
    refine ab_iconst (v := nI 4) dX12_leastAlike_5 (by decide) ?_
    refine ab_nicmp_ge 43 dX12_leastAlike_6 (by decide) (by omega) (by omega) (fun c_6 => ?_) (fun c_6 => ?_)
    · skip
      refine ab_iload_n dX12_leastAlike_43 rfl ?_
      refine ab_reti dX12_leastAlike_44 ?_
      exact ⟨rfl, hv⟩
    · skip
      exact absurd (by omega) c_6
  | succ j ih =>
    intro i x hi hv
    cases e : F (5 * i) with
    | none =>
      refine ab_iload_n dX12_leastAlike_4 rfl ?_
      refine ab_iconst (v := nI 4) dX12_leastAlike_5 (by decide) ?_
      refine ab_nicmp_ge 43 dX12_leastAlike_6 (by decide) (by omega) (by omega) (fun c_6 => ?_) (fun c_6 => ?_)
      · skip
        exact absurd c_6 (by omega)
      · skip
        refine ab_aload_n dX12_leastAlike_9 rfl ?_
        refine ab_getR dX12_leastAlike_10 fl_X12_58 hM.hs hM.p50_13 ?_
        refine ab_iconst (v := nI 5) dX12_leastAlike_13 (by decide) ?_
        refine ab_iload_n dX12_leastAlike_14 rfl ?_
        refine ab_nmulR dX12_leastAlike_15 ?_
        refine ab_iald dX12_leastAlike_16 hM.s60 rfl (by omega) ((he (5 * i) (by omega)).trans (show ab_opt (-1) (F (5 * i)) = -1 by rw [e]; rfl)) ?_
        refine ab_sti_n (ls' := [_, _, _, _]) dX12_leastAlike_17 (by decide) rfl ?_
        refine ab_iload_n dX12_leastAlike_18 rfl ?_
        refine ab_if_lt 35 dX12_leastAlike_19 (by decide) (fun c_19 => ?_) (fun c_19 => ?_)
        · skip
          refine ab_iload_n dX12_leastAlike_35 rfl ?_
          refine ab_sti_n (ls' := [_, _, _, _]) dX12_leastAlike_36 (by decide) rfl ?_
          refine ab_nincR (ls' := [_, _, _, _]) dX12_leastAlike_37 rfl rfl ?_
          refine ab_goto 4 dX12_leastAlike_40 (by decide) ?_
          exact ab_weak (ih (i + 1) _ (by omega) (by rw [ab_diag, e]; exact hv)) ⟨rfl, rfl, rfl, trivial⟩
        · skip
          exact absurd (show (-1 : Int32) < 0 by decide) c_19
    | some a =>
      have ha := hB _ _ (by omega) e
      cases e2 : ab_diag F i with
      | none =>
        refine ab_iload_n dX12_leastAlike_4 rfl ?_
        refine ab_iconst (v := nI 4) dX12_leastAlike_5 (by decide) ?_
        refine ab_nicmp_ge 43 dX12_leastAlike_6 (by decide) (by omega) (by omega) (fun c_6 => ?_) (fun c_6 => ?_)
        · skip
          exact absurd c_6 (by omega)
        · skip
          refine ab_aload_n dX12_leastAlike_9 rfl ?_
          refine ab_getR dX12_leastAlike_10 fl_X12_58 hM.hs hM.p50_13 ?_
          refine ab_iconst (v := nI 5) dX12_leastAlike_13 (by decide) ?_
          refine ab_iload_n dX12_leastAlike_14 rfl ?_
          refine ab_nmulR dX12_leastAlike_15 ?_
          refine ab_iald dX12_leastAlike_16 hM.s60 rfl (by omega) ((he (5 * i) (by omega)).trans (show ab_opt (-1) (F (5 * i)) = nI a by rw [e]; rfl)) ?_
          refine ab_sti_n (ls' := [_, _, _, _]) dX12_leastAlike_17 (by decide) rfl ?_
          refine ab_iload_n dX12_leastAlike_18 rfl ?_
          refine ab_if_lt 35 dX12_leastAlike_19 (by decide) (fun c_19 => ?_) (fun c_19 => ?_)
          · skip
            exact absurd c_19 (nI_pos ha)
          · skip
            refine ab_iload_n dX12_leastAlike_22 rfl ?_
            refine ab_topI (hv.trans (show _ = (-1 : Int32) by rw [e2]; rfl)) ?_
            refine ab_if_lt 31 dX12_leastAlike_23 (by decide) (fun c_23 => ?_) (fun c_23 => ?_)
            · skip
              refine ab_iload_n dX12_leastAlike_31 rfl ?_
              refine ab_goto 36 dX12_leastAlike_32 (by decide) ?_
              refine ab_sti_n (ls' := [_, _, _, _]) dX12_leastAlike_36 (by decide) rfl ?_
              refine ab_nincR (ls' := [_, _, _, _]) dX12_leastAlike_37 rfl rfl ?_
              refine ab_goto 4 dX12_leastAlike_40 (by decide) ?_
              exact ab_weak (ih (i + 1) _ (by omega) (by rw [ab_diag, e]; rw [e2]; rfl)) ⟨rfl, rfl, rfl, trivial⟩
            · skip
              exact absurd (show (-1 : Int32) < 0 by decide) c_23
      | some q =>
        have hq := ab_diag_lt hB i (by omega) q e2
        refine ab_iload_n dX12_leastAlike_4 rfl ?_
        refine ab_iconst (v := nI 4) dX12_leastAlike_5 (by decide) ?_
        refine ab_nicmp_ge 43 dX12_leastAlike_6 (by decide) (by omega) (by omega) (fun c_6 => ?_) (fun c_6 => ?_)
        · skip
          exact absurd c_6 (by omega)
        · skip
          refine ab_aload_n dX12_leastAlike_9 rfl ?_
          refine ab_getR dX12_leastAlike_10 fl_X12_58 hM.hs hM.p50_13 ?_
          refine ab_iconst (v := nI 5) dX12_leastAlike_13 (by decide) ?_
          refine ab_iload_n dX12_leastAlike_14 rfl ?_
          refine ab_nmulR dX12_leastAlike_15 ?_
          refine ab_iald dX12_leastAlike_16 hM.s60 rfl (by omega) ((he (5 * i) (by omega)).trans (show ab_opt (-1) (F (5 * i)) = nI a by rw [e]; rfl)) ?_
          refine ab_sti_n (ls' := [_, _, _, _]) dX12_leastAlike_17 (by decide) rfl ?_
          refine ab_iload_n dX12_leastAlike_18 rfl ?_
          refine ab_if_lt 35 dX12_leastAlike_19 (by decide) (fun c_19 => ?_) (fun c_19 => ?_)
          · skip
            exact absurd c_19 (nI_pos ha)
          · skip
            refine ab_iload_n dX12_leastAlike_22 rfl ?_
            refine ab_topI (hv.trans (show _ = nI q by rw [e2]; rfl)) ?_
            refine ab_if_lt 31 dX12_leastAlike_23 (by decide) (fun c_23 => ?_) (fun c_23 => ?_)
            · skip
              exact absurd c_23 (nI_pos hq)
            · skip
              refine ab_iload_n dX12_leastAlike_26 rfl ?_
              refine ab_iload_n dX12_leastAlike_27 rfl ?_
              refine ab_topI (hv.trans (show _ = nI q by rw [e2]; rfl)) ?_
              refine ab_nicmp_ge 35 dX12_leastAlike_28 (by decide) ha hq (fun c_28 => ?_) (fun c_28 => ?_)
              · skip
                refine ab_iload_n dX12_leastAlike_35 rfl ?_
                refine ab_topI (hv.trans (show _ = nI q by rw [e2]; rfl)) ?_
                refine ab_sti_n (ls' := [_, _, _, _]) dX12_leastAlike_36 (by decide) rfl ?_
                refine ab_nincR (ls' := [_, _, _, _]) dX12_leastAlike_37 rfl rfl ?_
                refine ab_goto 4 dX12_leastAlike_40 (by decide) ?_
                exact ab_weak (ih (i + 1) _ (by omega) (by rw [ab_diag, e]; rw [e2]; show _ = ab_opt (-1) (if a < q then some a else some q); first | (rw [if_neg (by omega)]; rfl) | (rw [if_pos (by omega)]; rfl))) ⟨rfl, rfl, rfl, trivial⟩
              · skip
                refine ab_iload_n dX12_leastAlike_31 rfl ?_
                refine ab_goto 36 dX12_leastAlike_32 (by decide) ?_
                refine ab_sti_n (ls' := [_, _, _, _]) dX12_leastAlike_36 (by decide) rfl ?_
                refine ab_nincR (ls' := [_, _, _, _]) dX12_leastAlike_37 rfl rfl ?_
                refine ab_goto 4 dX12_leastAlike_40 (by decide) ?_
                exact ab_weak (ih (i + 1) _ (by omega) (by rw [ab_diag, e]; rw [e2]; show _ = ab_opt (-1) (if a < q then some a else some q); first | (rw [if_neg (by omega)]; rfl) | (rw [if_pos (by omega)]; rfl))) ⟨rfl, rfl, rfl, trivial⟩
set_option maxRecDepth 100000 in
set_option maxHeartbeats 4000000 in
theorem m_leastAlike {k b : Nat} {h : ab_H} {F : Nat → Option Nat} (hM : at_M (ab_sh h) (ab_r h)) (he : ab_row h 60 (-1) F) (hB : ∀ s a, s < 16 → F s = some a → a < 2147483648) : ab_M k b mX12_leastAlike [.ref 50] h (ab_pi (fun v h' => h' = h ∧ v = ab_opt (-1) (ab_diag F 4))) := by
  refine ab_enter ?_
  refine ab_iconst (v := -1) dX12_leastAlike_0 (by decide) ?_
  refine ab_sti_n (ls' := [_, _, _, _]) dX12_leastAlike_1 (by decide) rfl ?_
  refine ab_iconst (v := nI 0) dX12_leastAlike_2 (by decide) ?_
  refine ab_sti_n (ls' := [_, _, _, _]) dX12_leastAlike_3 (by decide) rfl ?_
  exact lp_leastAlike hM he hB 4 0 (-1) rfl rfl
