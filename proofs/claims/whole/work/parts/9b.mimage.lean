/-! ===== the image: the model ===== -/
theorem cp_row {P Q : Nat → Int32} {i t : Nat} (hl : ∀ t, t < i → P t = Q t) (ht : t < i + 1) : (if t = i then Q i else P t) = Q t := by
  by_cases c : t = i
  · rw [if_pos c, c]
  · rw [if_neg c]; exact hl t (by omega)
set_option maxRecDepth 100000 in
set_option maxHeartbeats 4000000 in
theorem lp_mImg3 {k b : Nat} {h : ab_H} (hM : at_M (ab_sh h) (ab_r h)) : ∀ (j i : Nat) (h1 : ab_H) (g : Nat → Int32), i + j = 30 → ab_fM [74, 75, 76, 77] [33, 34, 35, 36, 37, 38] h h1 → ab_i h1 50 = g → (∀ t, t < 16 → ab_i h1 74 t = ab_i h 57 t) → (∀ t, t < 40 → ab_i h1 75 t = ab_i h 62 t) → (∀ t, t < 10 → ab_i h1 76 t = ab_i h 63 t) → (∀ t, t < i → ab_i h1 77 t = ab_i h 64 t) → ab_R k b mX12_image 125 [some (.ref 50), some (.int (nI i))] [] h1 (ab_pi (fun v h' => v = g 15 ∧ ab_fM [74, 75, 76, 77] [33, 34, 35, 36, 37, 38] h h' ∧ ab_i h' 50 = g ∧ (∀ t, t < 16 → ab_i h' 74 t = ab_i h 57 t) ∧ (∀ t, t < 40 → ab_i h' 75 t = ab_i h 62 t) ∧ (∀ t, t < 10 → ab_i h' 76 t = ab_i h 63 t) ∧ (∀ t, t < 30 → ab_i h' 77 t = ab_i h 64 t))) := by
  intro j
  induction j with
  | zero =>
    intro i h1 g hi f e0 d0 d1 d2 hl
    obtain rfl : i = 30 := by omega
    have hM1 := at_M.fM f hM
    refine ab_iload_n dX12_image_125 rfl ?_
    refine ab_bipush (v := nI 30) dX12_image_126 (by decide) ?_
    refine ab_nicmp_ge 149 dX12_image_128 (by decide) (by omega) (by omega) (fun c_128 => ?_) (fun c_128 => ?_)
    · skip
      refine ab_aload_n dX12_image_149 rfl ?_
      refine ab_getI dX12_image_150 fl_X12_207 hM1.hs (congrFun e0 15) ?_
      refine ab_reti dX12_image_153 ?_
      exact ⟨rfl, f, e0, d0, d1, d2, hl⟩
    · skip
      exact absurd (by omega) c_128
  | succ j ih =>
    intro i h1 g hi f e0 d0 d1 d2 hl
    have hM1 := at_M.fM f hM
    refine ab_iload_n dX12_image_125 rfl ?_
    refine ab_bipush (v := nI 30) dX12_image_126 (by decide) ?_
    refine ab_nicmp_ge 149 dX12_image_128 (by decide) (by omega) (by omega) (fun c_128 => ?_) (fun c_128 => ?_)
    · skip
      exact absurd c_128 (by omega)
    · skip
      refine ab_aload_n dX12_image_131 rfl ?_
      refine ab_getR dX12_image_132 fl_X12_109 hM1.hs hM1.p50_42 ?_
      refine ab_iload_n dX12_image_135 rfl ?_
      refine ab_aload_n dX12_image_136 rfl ?_
      refine ab_getR dX12_image_137 fl_X12_70 hM1.hs hM1.p50_19 ?_
      refine ab_iload_n dX12_image_140 rfl ?_
      refine ab_iald dX12_image_141 hM1.s64 rfl (by omega) (congrFun (f.2.2.2.2.1 64 (by decide) (by decide)).1 i) ?_
      refine ab_iast dX12_image_142 hM1.s77 rfl (by omega) ?_
      refine ab_nincR (ls' := [_, _]) dX12_image_143 rfl rfl ?_
      refine ab_goto 125 dX12_image_146 (by decide) ?_
      exact ih (i + 1) _ g (by omega) (f.si _ _ (by decide) (by decide)) ((ab_i_off (by decide)).trans e0) (fun t ht => (congrFun (ab_i_off (by decide)) t).trans (d0 t ht)) (fun t ht => (congrFun (ab_i_off (by decide)) t).trans (d1 t ht)) (fun t ht => (congrFun (ab_i_off (by decide)) t).trans (d2 t ht)) (fun t ht => by rw [ab_i_si_same]; exact cp_row hl ht)
set_option maxRecDepth 100000 in
set_option maxHeartbeats 4000000 in
theorem lp_mImg2 {k b : Nat} {h : ab_H} (hM : at_M (ab_sh h) (ab_r h)) : ∀ (j i : Nat) (h1 : ab_H) (g : Nat → Int32), i + j = 10 → ab_fM [74, 75, 76, 77] [33, 34, 35, 36, 37, 38] h h1 → ab_i h1 50 = g → (∀ t, t < 16 → ab_i h1 74 t = ab_i h 57 t) → (∀ t, t < 40 → ab_i h1 75 t = ab_i h 62 t) → (∀ t, t < i → ab_i h1 76 t = ab_i h 63 t) → ab_R k b mX12_image 99 [some (.ref 50), some (.int (nI i))] [] h1 (ab_pi (fun v h' => v = g 15 ∧ ab_fM [74, 75, 76, 77] [33, 34, 35, 36, 37, 38] h h' ∧ ab_i h' 50 = g ∧ (∀ t, t < 16 → ab_i h' 74 t = ab_i h 57 t) ∧ (∀ t, t < 40 → ab_i h' 75 t = ab_i h 62 t) ∧ (∀ t, t < 10 → ab_i h' 76 t = ab_i h 63 t) ∧ (∀ t, t < 30 → ab_i h' 77 t = ab_i h 64 t))) := by
  intro j
  induction j with
  | zero =>
    intro i h1 g hi f e0 d0 d1 hl
    obtain rfl : i = 10 := by omega
    have hM1 := at_M.fM f hM
    refine ab_iload_n dX12_image_99 rfl ?_
    refine ab_bipush (v := nI 10) dX12_image_100 (by decide) ?_
    refine ab_nicmp_ge 123 dX12_image_102 (by decide) (by omega) (by omega) (fun c_102 => ?_) (fun c_102 => ?_)
    · skip
      refine ab_iconst (v := nI 0) dX12_image_123 (by decide) ?_
      refine ab_sti_n (ls' := [_, _]) dX12_image_124 (by decide) rfl ?_
      exact lp_mImg3 hM 30 0 h1 g rfl f e0 d0 d1 hl (fun t ht => absurd ht (Nat.not_lt_zero t))
    · skip
      exact absurd (by omega) c_102
  | succ j ih =>
    intro i h1 g hi f e0 d0 d1 hl
    have hM1 := at_M.fM f hM
    refine ab_iload_n dX12_image_99 rfl ?_
    refine ab_bipush (v := nI 10) dX12_image_100 (by decide) ?_
    refine ab_nicmp_ge 123 dX12_image_102 (by decide) (by omega) (by omega) (fun c_102 => ?_) (fun c_102 => ?_)
    · skip
      exact absurd c_102 (by omega)
    · skip
      refine ab_aload_n dX12_image_105 rfl ?_
      refine ab_getR dX12_image_106 fl_X12_106 hM1.hs hM1.p50_41 ?_
      refine ab_iload_n dX12_image_109 rfl ?_
      refine ab_aload_n dX12_image_110 rfl ?_
      refine ab_getR dX12_image_111 fl_X12_67 hM1.hs hM1.p50_18 ?_
      refine ab_iload_n dX12_image_114 rfl ?_
      refine ab_iald dX12_image_115 hM1.s63 rfl (by omega) (congrFun (f.2.2.2.2.1 63 (by decide) (by decide)).1 i) ?_
      refine ab_iast dX12_image_116 hM1.s76 rfl (by omega) ?_
      refine ab_nincR (ls' := [_, _]) dX12_image_117 rfl rfl ?_
      refine ab_goto 99 dX12_image_120 (by decide) ?_
      exact ih (i + 1) _ g (by omega) (f.si _ _ (by decide) (by decide)) ((ab_i_off (by decide)).trans e0) (fun t ht => (congrFun (ab_i_off (by decide)) t).trans (d0 t ht)) (fun t ht => (congrFun (ab_i_off (by decide)) t).trans (d1 t ht)) (fun t ht => by rw [ab_i_si_same]; exact cp_row hl ht)
set_option maxRecDepth 100000 in
set_option maxHeartbeats 4000000 in
theorem lp_mImg1 {k b : Nat} {h : ab_H} (hM : at_M (ab_sh h) (ab_r h)) : ∀ (j i : Nat) (h1 : ab_H) (g : Nat → Int32), i + j = 40 → ab_fM [74, 75, 76, 77] [33, 34, 35, 36, 37, 38] h h1 → ab_i h1 50 = g → (∀ t, t < 16 → ab_i h1 74 t = ab_i h 57 t) → (∀ t, t < i → ab_i h1 75 t = ab_i h 62 t) → ab_R k b mX12_image 73 [some (.ref 50), some (.int (nI i))] [] h1 (ab_pi (fun v h' => v = g 15 ∧ ab_fM [74, 75, 76, 77] [33, 34, 35, 36, 37, 38] h h' ∧ ab_i h' 50 = g ∧ (∀ t, t < 16 → ab_i h' 74 t = ab_i h 57 t) ∧ (∀ t, t < 40 → ab_i h' 75 t = ab_i h 62 t) ∧ (∀ t, t < 10 → ab_i h' 76 t = ab_i h 63 t) ∧ (∀ t, t < 30 → ab_i h' 77 t = ab_i h 64 t))) := by
  intro j
  induction j with
  | zero =>
    intro i h1 g hi f e0 d0 hl
    obtain rfl : i = 40 := by omega
    have hM1 := at_M.fM f hM
    refine ab_iload_n dX12_image_73 rfl ?_
    refine ab_bipush (v := nI 40) dX12_image_74 (by decide) ?_
    refine ab_nicmp_ge 97 dX12_image_76 (by decide) (by omega) (by omega) (fun c_76 => ?_) (fun c_76 => ?_)
    · skip
      refine ab_iconst (v := nI 0) dX12_image_97 (by decide) ?_
      refine ab_sti_n (ls' := [_, _]) dX12_image_98 (by decide) rfl ?_
      exact lp_mImg2 hM 10 0 h1 g rfl f e0 d0 hl (fun t ht => absurd ht (Nat.not_lt_zero t))
    · skip
      exact absurd (by omega) c_76
  | succ j ih =>
    intro i h1 g hi f e0 d0 hl
    have hM1 := at_M.fM f hM
    refine ab_iload_n dX12_image_73 rfl ?_
    refine ab_bipush (v := nI 40) dX12_image_74 (by decide) ?_
    refine ab_nicmp_ge 97 dX12_image_76 (by decide) (by omega) (by omega) (fun c_76 => ?_) (fun c_76 => ?_)
    · skip
      exact absurd c_76 (by omega)
    · skip
      refine ab_aload_n dX12_image_79 rfl ?_
      refine ab_getR dX12_image_80 fl_X12_103 hM1.hs hM1.p50_40 ?_
      refine ab_iload_n dX12_image_83 rfl ?_
      refine ab_aload_n dX12_image_84 rfl ?_
      refine ab_getR dX12_image_85 fl_X12_64 hM1.hs hM1.p50_16 ?_
      refine ab_iload_n dX12_image_88 rfl ?_
      refine ab_iald dX12_image_89 hM1.s62 rfl (by omega) (congrFun (f.2.2.2.2.1 62 (by decide) (by decide)).1 i) ?_
      refine ab_iast dX12_image_90 hM1.s75 rfl (by omega) ?_
      refine ab_nincR (ls' := [_, _]) dX12_image_91 rfl rfl ?_
      refine ab_goto 73 dX12_image_94 (by decide) ?_
      exact ih (i + 1) _ g (by omega) (f.si _ _ (by decide) (by decide)) ((ab_i_off (by decide)).trans e0) (fun t ht => (congrFun (ab_i_off (by decide)) t).trans (d0 t ht)) (fun t ht => by rw [ab_i_si_same]; exact cp_row hl ht)
set_option maxRecDepth 100000 in
set_option maxHeartbeats 4000000 in
theorem lp_mImg0 {k b : Nat} {h : ab_H} (hM : at_M (ab_sh h) (ab_r h)) : ∀ (j i : Nat) (h1 : ab_H) (g : Nat → Int32), i + j = 16 → ab_fM [74, 75, 76, 77] [33, 34, 35, 36, 37, 38] h h1 → ab_i h1 50 = g → (∀ t, t < i → ab_i h1 74 t = ab_i h 57 t) → ab_R k b mX12_image 47 [some (.ref 50), some (.int (nI i))] [] h1 (ab_pi (fun v h' => v = g 15 ∧ ab_fM [74, 75, 76, 77] [33, 34, 35, 36, 37, 38] h h' ∧ ab_i h' 50 = g ∧ (∀ t, t < 16 → ab_i h' 74 t = ab_i h 57 t) ∧ (∀ t, t < 40 → ab_i h' 75 t = ab_i h 62 t) ∧ (∀ t, t < 10 → ab_i h' 76 t = ab_i h 63 t) ∧ (∀ t, t < 30 → ab_i h' 77 t = ab_i h 64 t))) := by
  intro j
  induction j with
  | zero =>
    intro i h1 g hi f e0 hl
    obtain rfl : i = 16 := by omega
    have hM1 := at_M.fM f hM
    refine ab_iload_n dX12_image_47 rfl ?_
    refine ab_bipush (v := nI 16) dX12_image_48 (by decide) ?_
    refine ab_nicmp_ge 71 dX12_image_50 (by decide) (by omega) (by omega) (fun c_50 => ?_) (fun c_50 => ?_)
    · skip
      refine ab_iconst (v := nI 0) dX12_image_71 (by decide) ?_
      refine ab_sti_n (ls' := [_, _]) dX12_image_72 (by decide) rfl ?_
      exact lp_mImg1 hM 40 0 h1 g rfl f e0 hl (fun t ht => absurd ht (Nat.not_lt_zero t))
    · skip
      exact absurd (by omega) c_50
  | succ j ih =>
    intro i h1 g hi f e0 hl
    have hM1 := at_M.fM f hM
    refine ab_iload_n dX12_image_47 rfl ?_
    refine ab_bipush (v := nI 16) dX12_image_48 (by decide) ?_
    refine ab_nicmp_ge 71 dX12_image_50 (by decide) (by omega) (by omega) (fun c_50 => ?_) (fun c_50 => ?_)
    · skip
      exact absurd c_50 (by omega)
    · skip
      refine ab_aload_n dX12_image_53 rfl ?_
      refine ab_getR dX12_image_54 fl_X12_100 hM1.hs hM1.p50_39 ?_
      refine ab_iload_n dX12_image_57 rfl ?_
      refine ab_aload_n dX12_image_58 rfl ?_
      refine ab_getR dX12_image_59 fl_X12_48 hM1.hs hM1.p50_10 ?_
      refine ab_iload_n dX12_image_62 rfl ?_
      refine ab_iald dX12_image_63 hM1.s57 rfl (by omega) (congrFun (f.2.2.2.2.1 57 (by decide) (by decide)).1 i) ?_
      refine ab_iast dX12_image_64 hM1.s74 rfl (by omega) ?_
      refine ab_nincR (ls' := [_, _]) dX12_image_65 rfl rfl ?_
      refine ab_goto 47 dX12_image_68 (by decide) ?_
      exact ih (i + 1) _ g (by omega) (f.si _ _ (by decide) (by decide)) ((ab_i_off (by decide)).trans e0)  (fun t ht => by rw [ab_i_si_same]; exact cp_row hl ht)
set_option maxRecDepth 100000 in
set_option maxHeartbeats 4000000 in
theorem lp_mOn3 {k b : Nat} {h : ab_H} (hM : at_M (ab_sh h) (ab_r h)) : ∀ (j i : Nat) (h1 : ab_H) (g : Nat → Int32), i + j = 30 → ab_fM [57, 62, 63, 64] [] h h1 → ab_i h1 50 = g → (∀ t, t < 16 → ab_i h1 57 t = ab_i h 74 t) → (∀ t, t < 40 → ab_i h1 62 t = ab_i h 75 t) → (∀ t, t < 10 → ab_i h1 63 t = ab_i h 76 t) → (∀ t, t < i → ab_i h1 64 t = ab_i h 77 t) → ab_R k b mX12_on 126 [some (.ref 50), some (.int (nI i))] [] h1 (ab_pi (fun v h' => v = g 15 ∧ ab_fM [57, 62, 63, 64] [] h h' ∧ ab_i h' 50 = g ∧ (∀ t, t < 16 → ab_i h' 57 t = ab_i h 74 t) ∧ (∀ t, t < 40 → ab_i h' 62 t = ab_i h 75 t) ∧ (∀ t, t < 10 → ab_i h' 63 t = ab_i h 76 t) ∧ (∀ t, t < 30 → ab_i h' 64 t = ab_i h 77 t))) := by
  intro j
  induction j with
  | zero =>
    intro i h1 g hi f e0 d0 d1 d2 hl
    obtain rfl : i = 30 := by omega
    have hM1 := at_M.fM f hM
    refine ab_iload_n dX12_on_126 rfl ?_
    refine ab_bipush (v := nI 30) dX12_on_127 (by decide) ?_
    refine ab_nicmp_ge 150 dX12_on_129 (by decide) (by omega) (by omega) (fun c_129 => ?_) (fun c_129 => ?_)
    · skip
      refine ab_aload_n dX12_on_150 rfl ?_
      refine ab_getI dX12_on_151 fl_X12_207 hM1.hs (congrFun e0 15) ?_
      refine ab_reti dX12_on_154 ?_
      exact ⟨rfl, f, e0, d0, d1, d2, hl⟩
    · skip
      exact absurd (by omega) c_129
  | succ j ih =>
    intro i h1 g hi f e0 d0 d1 d2 hl
    have hM1 := at_M.fM f hM
    refine ab_iload_n dX12_on_126 rfl ?_
    refine ab_bipush (v := nI 30) dX12_on_127 (by decide) ?_
    refine ab_nicmp_ge 150 dX12_on_129 (by decide) (by omega) (by omega) (fun c_129 => ?_) (fun c_129 => ?_)
    · skip
      exact absurd c_129 (by omega)
    · skip
      refine ab_aload_n dX12_on_132 rfl ?_
      refine ab_getR dX12_on_133 fl_X12_70 hM1.hs hM1.p50_19 ?_
      refine ab_iload_n dX12_on_136 rfl ?_
      refine ab_aload_n dX12_on_137 rfl ?_
      refine ab_getR dX12_on_138 fl_X12_109 hM1.hs hM1.p50_42 ?_
      refine ab_iload_n dX12_on_141 rfl ?_
      refine ab_iald dX12_on_142 hM1.s77 rfl (by omega) (congrFun (f.2.2.2.2.1 77 (by decide) (by decide)).1 i) ?_
      refine ab_iast dX12_on_143 hM1.s64 rfl (by omega) ?_
      refine ab_nincR (ls' := [_, _]) dX12_on_144 rfl rfl ?_
      refine ab_goto 126 dX12_on_147 (by decide) ?_
      exact ih (i + 1) _ g (by omega) (f.si _ _ (by decide) (by decide)) ((ab_i_off (by decide)).trans e0) (fun t ht => (congrFun (ab_i_off (by decide)) t).trans (d0 t ht)) (fun t ht => (congrFun (ab_i_off (by decide)) t).trans (d1 t ht)) (fun t ht => (congrFun (ab_i_off (by decide)) t).trans (d2 t ht)) (fun t ht => by rw [ab_i_si_same]; exact cp_row hl ht)
set_option maxRecDepth 100000 in
set_option maxHeartbeats 4000000 in
theorem lp_mOn2 {k b : Nat} {h : ab_H} (hM : at_M (ab_sh h) (ab_r h)) : ∀ (j i : Nat) (h1 : ab_H) (g : Nat → Int32), i + j = 10 → ab_fM [57, 62, 63, 64] [] h h1 → ab_i h1 50 = g → (∀ t, t < 16 → ab_i h1 57 t = ab_i h 74 t) → (∀ t, t < 40 → ab_i h1 62 t = ab_i h 75 t) → (∀ t, t < i → ab_i h1 63 t = ab_i h 76 t) → ab_R k b mX12_on 100 [some (.ref 50), some (.int (nI i))] [] h1 (ab_pi (fun v h' => v = g 15 ∧ ab_fM [57, 62, 63, 64] [] h h' ∧ ab_i h' 50 = g ∧ (∀ t, t < 16 → ab_i h' 57 t = ab_i h 74 t) ∧ (∀ t, t < 40 → ab_i h' 62 t = ab_i h 75 t) ∧ (∀ t, t < 10 → ab_i h' 63 t = ab_i h 76 t) ∧ (∀ t, t < 30 → ab_i h' 64 t = ab_i h 77 t))) := by
  intro j
  induction j with
  | zero =>
    intro i h1 g hi f e0 d0 d1 hl
    obtain rfl : i = 10 := by omega
    have hM1 := at_M.fM f hM
    refine ab_iload_n dX12_on_100 rfl ?_
    refine ab_bipush (v := nI 10) dX12_on_101 (by decide) ?_
    refine ab_nicmp_ge 124 dX12_on_103 (by decide) (by omega) (by omega) (fun c_103 => ?_) (fun c_103 => ?_)
    · skip
      refine ab_iconst (v := nI 0) dX12_on_124 (by decide) ?_
      refine ab_sti_n (ls' := [_, _]) dX12_on_125 (by decide) rfl ?_
      exact lp_mOn3 hM 30 0 h1 g rfl f e0 d0 d1 hl (fun t ht => absurd ht (Nat.not_lt_zero t))
    · skip
      exact absurd (by omega) c_103
  | succ j ih =>
    intro i h1 g hi f e0 d0 d1 hl
    have hM1 := at_M.fM f hM
    refine ab_iload_n dX12_on_100 rfl ?_
    refine ab_bipush (v := nI 10) dX12_on_101 (by decide) ?_
    refine ab_nicmp_ge 124 dX12_on_103 (by decide) (by omega) (by omega) (fun c_103 => ?_) (fun c_103 => ?_)
    · skip
      exact absurd c_103 (by omega)
    · skip
      refine ab_aload_n dX12_on_106 rfl ?_
      refine ab_getR dX12_on_107 fl_X12_67 hM1.hs hM1.p50_18 ?_
      refine ab_iload_n dX12_on_110 rfl ?_
      refine ab_aload_n dX12_on_111 rfl ?_
      refine ab_getR dX12_on_112 fl_X12_106 hM1.hs hM1.p50_41 ?_
      refine ab_iload_n dX12_on_115 rfl ?_
      refine ab_iald dX12_on_116 hM1.s76 rfl (by omega) (congrFun (f.2.2.2.2.1 76 (by decide) (by decide)).1 i) ?_
      refine ab_iast dX12_on_117 hM1.s63 rfl (by omega) ?_
      refine ab_nincR (ls' := [_, _]) dX12_on_118 rfl rfl ?_
      refine ab_goto 100 dX12_on_121 (by decide) ?_
      exact ih (i + 1) _ g (by omega) (f.si _ _ (by decide) (by decide)) ((ab_i_off (by decide)).trans e0) (fun t ht => (congrFun (ab_i_off (by decide)) t).trans (d0 t ht)) (fun t ht => (congrFun (ab_i_off (by decide)) t).trans (d1 t ht)) (fun t ht => by rw [ab_i_si_same]; exact cp_row hl ht)
set_option maxRecDepth 100000 in
set_option maxHeartbeats 4000000 in
theorem lp_mOn1 {k b : Nat} {h : ab_H} (hM : at_M (ab_sh h) (ab_r h)) : ∀ (j i : Nat) (h1 : ab_H) (g : Nat → Int32), i + j = 40 → ab_fM [57, 62, 63, 64] [] h h1 → ab_i h1 50 = g → (∀ t, t < 16 → ab_i h1 57 t = ab_i h 74 t) → (∀ t, t < i → ab_i h1 62 t = ab_i h 75 t) → ab_R k b mX12_on 74 [some (.ref 50), some (.int (nI i))] [] h1 (ab_pi (fun v h' => v = g 15 ∧ ab_fM [57, 62, 63, 64] [] h h' ∧ ab_i h' 50 = g ∧ (∀ t, t < 16 → ab_i h' 57 t = ab_i h 74 t) ∧ (∀ t, t < 40 → ab_i h' 62 t = ab_i h 75 t) ∧ (∀ t, t < 10 → ab_i h' 63 t = ab_i h 76 t) ∧ (∀ t, t < 30 → ab_i h' 64 t = ab_i h 77 t))) := by
  intro j
  induction j with
  | zero =>
    intro i h1 g hi f e0 d0 hl
    obtain rfl : i = 40 := by omega
    have hM1 := at_M.fM f hM
    refine ab_iload_n dX12_on_74 rfl ?_
    refine ab_bipush (v := nI 40) dX12_on_75 (by decide) ?_
    refine ab_nicmp_ge 98 dX12_on_77 (by decide) (by omega) (by omega) (fun c_77 => ?_) (fun c_77 => ?_)
    · skip
      refine ab_iconst (v := nI 0) dX12_on_98 (by decide) ?_
      refine ab_sti_n (ls' := [_, _]) dX12_on_99 (by decide) rfl ?_
      exact lp_mOn2 hM 10 0 h1 g rfl f e0 d0 hl (fun t ht => absurd ht (Nat.not_lt_zero t))
    · skip
      exact absurd (by omega) c_77
  | succ j ih =>
    intro i h1 g hi f e0 d0 hl
    have hM1 := at_M.fM f hM
    refine ab_iload_n dX12_on_74 rfl ?_
    refine ab_bipush (v := nI 40) dX12_on_75 (by decide) ?_
    refine ab_nicmp_ge 98 dX12_on_77 (by decide) (by omega) (by omega) (fun c_77 => ?_) (fun c_77 => ?_)
    · skip
      exact absurd c_77 (by omega)
    · skip
      refine ab_aload_n dX12_on_80 rfl ?_
      refine ab_getR dX12_on_81 fl_X12_64 hM1.hs hM1.p50_16 ?_
      refine ab_iload_n dX12_on_84 rfl ?_
      refine ab_aload_n dX12_on_85 rfl ?_
      refine ab_getR dX12_on_86 fl_X12_103 hM1.hs hM1.p50_40 ?_
      refine ab_iload_n dX12_on_89 rfl ?_
      refine ab_iald dX12_on_90 hM1.s75 rfl (by omega) (congrFun (f.2.2.2.2.1 75 (by decide) (by decide)).1 i) ?_
      refine ab_iast dX12_on_91 hM1.s62 rfl (by omega) ?_
      refine ab_nincR (ls' := [_, _]) dX12_on_92 rfl rfl ?_
      refine ab_goto 74 dX12_on_95 (by decide) ?_
      exact ih (i + 1) _ g (by omega) (f.si _ _ (by decide) (by decide)) ((ab_i_off (by decide)).trans e0) (fun t ht => (congrFun (ab_i_off (by decide)) t).trans (d0 t ht)) (fun t ht => by rw [ab_i_si_same]; exact cp_row hl ht)
set_option maxRecDepth 100000 in
set_option maxHeartbeats 4000000 in
theorem lp_mOn0 {k b : Nat} {h : ab_H} (hM : at_M (ab_sh h) (ab_r h)) : ∀ (j i : Nat) (h1 : ab_H) (g : Nat → Int32), i + j = 16 → ab_fM [57, 62, 63, 64] [] h h1 → ab_i h1 50 = g → (∀ t, t < i → ab_i h1 57 t = ab_i h 74 t) → ab_R k b mX12_on 48 [some (.ref 50), some (.int (nI i))] [] h1 (ab_pi (fun v h' => v = g 15 ∧ ab_fM [57, 62, 63, 64] [] h h' ∧ ab_i h' 50 = g ∧ (∀ t, t < 16 → ab_i h' 57 t = ab_i h 74 t) ∧ (∀ t, t < 40 → ab_i h' 62 t = ab_i h 75 t) ∧ (∀ t, t < 10 → ab_i h' 63 t = ab_i h 76 t) ∧ (∀ t, t < 30 → ab_i h' 64 t = ab_i h 77 t))) := by
  intro j
  induction j with
  | zero =>
    intro i h1 g hi f e0 hl
    obtain rfl : i = 16 := by omega
    have hM1 := at_M.fM f hM
    refine ab_iload_n dX12_on_48 rfl ?_
    refine ab_bipush (v := nI 16) dX12_on_49 (by decide) ?_
    refine ab_nicmp_ge 72 dX12_on_51 (by decide) (by omega) (by omega) (fun c_51 => ?_) (fun c_51 => ?_)
    · skip
      refine ab_iconst (v := nI 0) dX12_on_72 (by decide) ?_
      refine ab_sti_n (ls' := [_, _]) dX12_on_73 (by decide) rfl ?_
      exact lp_mOn1 hM 40 0 h1 g rfl f e0 hl (fun t ht => absurd ht (Nat.not_lt_zero t))
    · skip
      exact absurd (by omega) c_51
  | succ j ih =>
    intro i h1 g hi f e0 hl
    have hM1 := at_M.fM f hM
    refine ab_iload_n dX12_on_48 rfl ?_
    refine ab_bipush (v := nI 16) dX12_on_49 (by decide) ?_
    refine ab_nicmp_ge 72 dX12_on_51 (by decide) (by omega) (by omega) (fun c_51 => ?_) (fun c_51 => ?_)
    · skip
      exact absurd c_51 (by omega)
    · skip
      refine ab_aload_n dX12_on_54 rfl ?_
      refine ab_getR dX12_on_55 fl_X12_48 hM1.hs hM1.p50_10 ?_
      refine ab_iload_n dX12_on_58 rfl ?_
      refine ab_aload_n dX12_on_59 rfl ?_
      refine ab_getR dX12_on_60 fl_X12_100 hM1.hs hM1.p50_39 ?_
      refine ab_iload_n dX12_on_63 rfl ?_
      refine ab_iald dX12_on_64 hM1.s74 rfl (by omega) (congrFun (f.2.2.2.2.1 74 (by decide) (by decide)).1 i) ?_
      refine ab_iast dX12_on_65 hM1.s57 rfl (by omega) ?_
      refine ab_nincR (ls' := [_, _]) dX12_on_66 rfl rfl ?_
      refine ab_goto 48 dX12_on_69 (by decide) ?_
      exact ih (i + 1) _ g (by omega) (f.si _ _ (by decide) (by decide)) ((ab_i_off (by decide)).trans e0)  (fun t ht => by rw [ab_i_si_same]; exact cp_row hl ht)
set_option maxRecDepth 100000 in
set_option maxHeartbeats 4000000 in
theorem m_image {k b n hx hy : Nat} {h : ab_H} {ρ : Nat → Nat} {s : sS} (hM : at_M (ab_sh h) (ab_r h)) (hB : bd_Mo n hx hy h) (hU : ab_rho h 57 ρ) (hD : sh_M s h) : ab_M k b mX12_image [.ref 50] h (ab_pi (ab_oX 51 (ab_fM [] [] h) (fun h' => ab_fM [74, 75, 76, 77] [33, 34, 35, 36, 37, 38] h h' ∧ im_M (some (n, hx, hy, ρ, s)) h') (.inr (nI s.1)))) := by
  refine ab_enter ?_
  refine ab_aload_n dX12_image_0 rfl ?_
  refine ab_iconst (v := nI 1) dX12_image_1 (by decide) ?_
  refine ab_putI dX12_image_2 fl_X12_367 hM.hs ?_
  refine ab_aload_n dX12_image_5 rfl ?_
  refine ab_aload_n dX12_image_6 rfl ?_
  refine ab_getI dX12_image_7 fl_X12_29 hM.hs (show _ = nI n by (repeat rw [ab_i_at, ab_up_ne _ _ (by decide)]); exact hB.f1) ?_
  refine ab_putI dX12_image_10 fl_X12_371 hM.hs ?_
  refine ab_aload_n dX12_image_13 rfl ?_
  refine ab_aload_n dX12_image_14 rfl ?_
  refine ab_getI dX12_image_15 fl_X12_127 hM.hs (show _ = nI hx by (repeat rw [ab_i_at, ab_up_ne _ _ (by decide)]); exact hB.f2) ?_
  refine ab_putI dX12_image_18 fl_X12_374 hM.hs ?_
  refine ab_aload_n dX12_image_21 rfl ?_
  refine ab_aload_n dX12_image_22 rfl ?_
  refine ab_getI dX12_image_23 fl_X12_130 hM.hs (show _ = nI hy by (repeat rw [ab_i_at, ab_up_ne _ _ (by decide)]); exact hB.f3) ?_
  refine ab_putI dX12_image_26 fl_X12_377 hM.hs ?_
  refine ab_aload_n dX12_image_29 rfl ?_
  refine ab_aload_n dX12_image_30 rfl ?_
  refine ab_getI dX12_image_31 fl_X12_207 hM.hs (show _ = nI s.1 by (repeat rw [ab_i_at, ab_up_ne _ _ (by decide)]); exact hD.np) ?_
  refine ab_putI dX12_image_34 fl_X12_380 hM.hs ?_
  refine ab_aload_n dX12_image_37 rfl ?_
  refine ab_aload_n dX12_image_38 rfl ?_
  refine ab_getI dX12_image_39 fl_X12_238 hM.hs (show _ = nI s.2.2.1 by (repeat rw [ab_i_at, ab_up_ne _ _ (by decide)]); exact hD.nt) ?_
  refine ab_putI dX12_image_42 fl_X12_383 hM.hs ?_
  refine ab_iconst (v := nI 0) dX12_image_45 (by decide) ?_
  refine ab_sti_n (ls' := [_, _]) dX12_image_46 (by decide) rfl ?_
  refine ab_mono ?_ (lp_mImg0 hM 16 0 _ _ rfl ((((((ab_fM.rf h).s50 _ (by decide)).s50 _ (by decide)).s50 _ (by decide)).s50 _ (by decide)).s50 _ (by decide) |>.s50 _ (by decide)) rfl (fun t ht => absurd ht (Nat.not_lt_zero t)))
  rintro v h9 ⟨x9, hx9, rfl, f, e0, d0, d1, d2, d3⟩
  refine ⟨_, hx9, ?_⟩
  have g15 : ab_i h9 50 15 = nI s.1 := (f.2.2.2.2.2 15 (by decide)).trans hD.np
  rw [e0] at g15
  rw [g15]
  refine ab_oX_ok rfl ⟨f, fun q => absurd q (by simp), fun n9 x9 y9 ρ9 s9 e => ?_⟩
  injection e with e
  injection e with z1 e
  injection e with z2 e
  injection e with z3 e
  injection e with z4 z5
  subst z1 z2 z3 z4 z5
  have hW := hD.W
  have h10 := hW.1
  have h11 := hW.2.1
  refine ⟨hB.n4, hB.hx, hB.hy, ?_, ?_, ?_, ?_, ?_, hW, ?_, ?_, ?_, ?_⟩
  · rw [e0]; (repeat rw [ab_i_at, ab_up_ne _ _ (by decide)]); rw [ab_i_at, ab_up_self]
  · rw [e0]; (repeat rw [ab_i_at, ab_up_ne _ _ (by decide)]); rw [ab_i_at, ab_up_self]
  · rw [e0]; (repeat rw [ab_i_at, ab_up_ne _ _ (by decide)]); rw [ab_i_at, ab_up_self]
  · rw [e0]; (repeat rw [ab_i_at, ab_up_ne _ _ (by decide)]); rw [ab_i_at, ab_up_self]
  · intro j hj; rw [d0 j hj]; exact hU j hj
  · rw [e0]; (repeat rw [ab_i_at, ab_up_ne _ _ (by decide)]); rw [ab_i_at, ab_up_self]
  · rw [e0, ab_i_at, ab_up_self]
  · intro i e hi he; rw [d1 _ (by omega), d1 _ (by omega)]; exact hD.nu hi he
  · intro i hi; rw [d2 _ (by omega), d3 _ (by omega), d3 _ (by omega), d3 _ (by omega)]; exact hD.tr hi
set_option maxRecDepth 100000 in
set_option maxHeartbeats 4000000 in
theorem m_on {k b : Nat} {h : ab_H} {im : iS} (hk : 6 ≤ k) (hM : at_M (ab_sh h) (ab_r h)) (hI : im_M im h) : ab_M k b mX12_on [.ref 50] h (ab_pi (ab_oX 51 (ab_fM [] [] h) (fun h' => ∀ n x y ρ s, im = some (n, x, y, ρ, s) → ab_fM [52, 53, 54, 55, 56, 57, 62, 63, 64] [1, 2, 3, 4, 15, 17] h h' ∧ bd_Mo n x y h' ∧ ab_rho h' 57 ρ ∧ sh_M s h') (sp_on im))) := by
  cases im with
  | none =>
    have hz := hI.1 rfl
    refine ab_enter ?_
    refine ab_aload_n dX12_on_0 rfl ?_
    refine ab_getI dX12_on_1 fl_X12_367 hM.hs hz ?_
    refine ab_if_ne 14 dX12_on_4 (by decide) (fun c_4 => ?_) (fun c_4 => ?_)
    · skip
      exact absurd rfl c_4
    · skip
      refine ab_aload_n dX12_on_7 rfl ?_
      refine ab_bipush (v := -3) dX12_on_8 (by decide) ?_
      refine ab_callVi [_] dX12_on_10 ml_X12_9 mk_X12_refused hM.hs (m_refused (k := 0) (b := 0) (c := 3) hM (by decide) (by omega) (by omega)) (fun v1 hh1 hq => ?_)
      obtain ⟨hv, hh⟩ := hq
      refine ab_reti dX12_on_13 ?_
      exact ab_oX_no (by rfl) (ab_fM.rf h) hv hh
  | some v =>
    obtain ⟨n, x, y, ρ, s⟩ := v
    obtain ⟨z1, z2, z3, z4, z5, z6, z7, z8, z9, z10⟩ := hI.2 n x y ρ s rfl
    have hz := z4
    refine ab_enter ?_
    refine ab_aload_n dX12_on_0 rfl ?_
    refine ab_getI dX12_on_1 fl_X12_367 hM.hs hz ?_
    refine ab_nif_ne 14 dX12_on_4 (by decide) (by omega) (fun c_4 => ?_) (fun c_4 => ?_)
    · skip
      refine ab_aload_n dX12_on_14 rfl ?_
      refine ab_aload_n dX12_on_15 rfl ?_
      refine ab_getI dX12_on_16 fl_X12_371 hM.hs z5 ?_
      refine ab_aload_n dX12_on_19 rfl ?_
      refine ab_getI dX12_on_20 fl_X12_374 hM.hs z6 ?_
      refine ab_aload_n dX12_on_23 rfl ?_
      refine ab_getI dX12_on_24 fl_X12_377 hM.hs z7 ?_
      refine ab_callVv [_, _, _] dX12_on_27 ml_X12_112 mk_X12_lays hM.hs (m_lays2 (k := 5) (b := 0) (Nat.le_refl _) hM z1 z2 z3) (fun h1 hq => ?_)
      obtain ⟨f1, hB⟩ := hq
      have hM1 := at_M.fM f1 hM
      have y1 : ab_i h1 50 37 = nI s.1 := (f1.2.2.2.2.2 37 (by decide)).trans z10.1
      have y2 : ab_i h1 50 38 = nI s.2.2.1 := (f1.2.2.2.2.2 38 (by decide)).trans z10.2.1
      refine ab_aload_n dX12_on_30 rfl ?_
      refine ab_aload_n dX12_on_31 rfl ?_
      refine ab_getI dX12_on_32 fl_X12_380 hM1.hs y1 ?_
      refine ab_putI dX12_on_35 fl_X12_207 hM1.hs ?_
      refine ab_aload_n dX12_on_38 rfl ?_
      refine ab_aload_n dX12_on_39 rfl ?_
      refine ab_getI dX12_on_40 fl_X12_383 hM1.hs (show _ = nI s.2.2.1 by rw [ab_i_at, ab_up_ne _ _ (by decide)]; exact y2) ?_
      refine ab_putI dX12_on_43 fl_X12_238 hM1.hs ?_
      refine ab_iconst (v := nI 0) dX12_on_46 (by decide) ?_
      refine ab_sti_n (ls' := [_, _]) dX12_on_47 (by decide) rfl ?_
      have f2 : ab_fM [52, 53, 54, 55, 56, 57, 62, 63, 64] [1, 2, 3, 4, 15, 17] h (ab_si (ab_si h1 50 15 (nI s.1)) 50 17 (nI s.2.2.1)) := ((f1.mono (by simp) (by simp)).s50 _ (by decide)).s50 _ (by decide)
      obtain ⟨h2, e2⟩ : ∃ h2, h2 = ab_si (ab_si h1 50 15 (nI s.1)) 50 17 (nI s.2.2.1) := ⟨_, rfl⟩
      rw [← e2] at f2 ⊢
      have fB : ab_fM [] [15, 17] h1 h2 := by rw [e2]; exact ((ab_fM.rf h1).s50 _ (by decide)).s50 _ (by decide)
      have hB2 := bd_Mo.fM fB (by simp) (by intro k q1 q2; simp; omega) hB
      have r2 : ∀ a, 74 ≤ a → ab_i h2 a = ab_i h a := fun a q => (f2.2.2.2.2.1 a (by omega) (by simp; omega)).1
      refine ab_mono ?_ (lp_mOn0 (at_M.fM f2 hM) 16 0 h2 _ rfl (ab_fM.rf h2) rfl (fun t ht => absurd ht (Nat.not_lt_zero t)))
      rintro v h9 ⟨x9, hx9, rfl, f, e0, d0, d1, d2, d3⟩
      refine ⟨_, hx9, ?_⟩
      have hW := z9
      have h10 := hW.1
      have h11 := hW.2.1
      rw [r2 74 (by omega)] at d0
      rw [r2 75 (by omega)] at d1
      rw [r2 76 (by omega)] at d2
      rw [r2 77 (by omega)] at d3
      have g15 : ab_i h9 50 15 = nI s.1 := by rw [e0, e2, ab_i_at, ab_up_ne _ _ (by decide), ab_i_at, ab_up_self]
      have g17 : ab_i h9 50 17 = nI s.2.2.1 := by rw [e0, e2, ab_i_at, ab_up_self]
      have g15b := g15
      rw [e0] at g15b
      rw [g15b]
      refine ab_oX_ok rfl (fun n9 x9 y9 ρ9 s9 e => ?_)
      injection e with e
      injection e with z1 e
      injection e with z2 e
      injection e with z3 e
      injection e with z4 z5
      subst z1 z2 z3 z4 z5
      refine ⟨f2.trans f (by simp) (by simp), bd_Mo.fM f (by intro a q1 q2; simp; omega) (by simp) hB2, fun j hj => by rw [d0 j hj]; exact z8 j hj, hW, g15, g17, ?_, ?_⟩
      · intro i e hi he; rw [d1 _ (by omega), d1 _ (by omega)]; exact z10.2.2.1 i e hi he
      · intro i hi; rw [d2 _ (by omega), d3 _ (by omega), d3 _ (by omega), d3 _ (by omega)]; exact z10.2.2.2 i hi
    · skip
      exact absurd c_4 (by omega)
