/-! ===== growth: new cells behind the old ones; of the old, rows S of numbers and rows T of references may change ===== -/
def ab_gr (S T : List Nat) (h h' : ab_H) : Prop := ab_n h ≤ ab_n h' ∧ ab_e h' = ab_e h ∧ ∀ a, a < 5 + ab_n h → ab_sh h' a = ab_sh h a ∧ (a ∉ S → ab_i h' a = ab_i h a ∧ ab_l h' a = ab_l h a) ∧ (a ∉ T → ab_r h' a = ab_r h a)
theorem ab_gr.rf {S T : List Nat} (h : ab_H) : ab_gr S T h h := ⟨Nat.le_refl _, rfl, fun _ _ => ⟨rfl, fun _ => ⟨rfl, rfl⟩, fun _ => rfl⟩⟩
theorem ab_gr.of {S : List Nat} {h h' : ab_H} (f : ab_fr S h h') : ab_gr S [] h h' := ⟨by rw [f.1]; exact Nat.le_refl _, f.2.2.2.1, fun a _ => ⟨by rw [f.2.1], fun q => f.2.2.2.2 a q, fun _ => by rw [f.2.2.1]⟩⟩
theorem ab_gr.trans {S T S' T' : List Nat} {h h1 h2 : ab_H} (f : ab_gr S T h h1) (g : ab_gr S' T' h1 h2) (hs : ∀ a, a ∈ S' → a ∈ S) (ht : ∀ a, a ∈ T' → a ∈ T) : ab_gr S T h h2 :=
  ⟨Nat.le_trans f.1 g.1, g.2.1.trans f.2.1, fun a ha => by
    have f3 := f.2.2 a ha
    have g3 := g.2.2 a (by have := f.1; omega)
    exact ⟨g3.1.trans f3.1, fun q => ⟨(g3.2.1 (fun z => q (hs a z))).1.trans (f3.2.1 q).1, (g3.2.1 (fun z => q (hs a z))).2.trans (f3.2.1 q).2⟩, fun q => (g3.2.2 (fun z => q (ht a z))).trans (f3.2.2 q)⟩⟩
theorem ab_gr.mono {S T S' T' : List Nat} {h h1 : ab_H} (f : ab_gr S' T' h h1) (hs : ∀ a, a ∈ S' → a ∈ S) (ht : ∀ a, a ∈ T' → a ∈ T) : ab_gr S T h h1 := (ab_gr.rf h).trans f hs ht
theorem ab_gr.new {S T : List Nat} {h h1 : ab_H} (f : ab_gr S T h h1) (s : Nat × Nat) : ab_gr S T h (ab_new h1 s) :=
  f.trans (S' := []) (T' := []) ⟨Nat.le_succ _, rfl, fun a ha => ⟨ab_up_ne _ _ (by omega), fun _ => ⟨ab_up_ne _ _ (by omega), ab_up_ne _ _ (by omega)⟩, fun _ => ab_up_ne _ _ (by omega)⟩⟩ (fun _ q => by cases q) (fun _ q => by cases q)
theorem ab_gr.siN {S T : List Nat} {h h1 : ab_H} (f : ab_gr S T h h1) {a : Nat} (k : Nat) (v : Int32) (ha : a ∈ S ∨ 5 + ab_n h ≤ a) : ab_gr S T h (ab_si h1 a k v) :=
  ⟨f.1, f.2.1, fun c hc => ⟨(f.2.2 c hc).1, fun q => ⟨(ab_up_ne _ _ (fun z => by subst z; rcases ha with u | u; exact q u; omega)).trans ((f.2.2 c hc).2.1 q).1, ((f.2.2 c hc).2.1 q).2⟩, (f.2.2 c hc).2.2⟩⟩
theorem ab_gr.slN {S T : List Nat} {h h1 : ab_H} (f : ab_gr S T h h1) {a : Nat} (k : Nat) (v : Int64) (ha : a ∈ S ∨ 5 + ab_n h ≤ a) : ab_gr S T h (ab_sl h1 a k v) :=
  ⟨f.1, f.2.1, fun c hc => ⟨(f.2.2 c hc).1, fun q => ⟨((f.2.2 c hc).2.1 q).1, (ab_up_ne _ _ (fun z => by subst z; rcases ha with u | u; exact q u; omega)).trans ((f.2.2 c hc).2.1 q).2⟩, (f.2.2 c hc).2.2⟩⟩
theorem ab_gr.srN {S T : List Nat} {h h1 : ab_H} (f : ab_gr S T h h1) {a : Nat} (k v : Nat) (ha : a ∈ T ∨ 5 + ab_n h ≤ a) : ab_gr S T h (ab_sr h1 a k v) :=
  ⟨f.1, f.2.1, fun c hc => ⟨(f.2.2 c hc).1, (f.2.2 c hc).2.1, fun q => (ab_up_ne _ _ (fun z => by subst z; rcases ha with u | u; exact q u; omega)).trans ((f.2.2 c hc).2.2 q)⟩⟩
/-- all that stands from the start on -/
def ab_bs (h : ab_H) : Prop := 73 ≤ ab_n h
theorem ab_bs.gr {S T : List Nat} {h h1 : ab_H} (f : ab_gr S T h h1) (H : ab_bs h) : ab_bs h1 := Nat.le_trans H f.1
theorem ab_lo {S : List Nat} (hs : ∀ a, a ∈ S → a < 78) {r : Nat} (h : 78 ≤ r) : r ∉ S := fun q => by have := hs r q; omega
/-- a fraction's cell -/
def fr_at (h : ab_H) (r : Nat) (p : Int × Nat) : Prop := 78 ≤ r ∧ r < 5 + ab_n h ∧ ab_sh h r = (2, 0) ∧ ab_l h r 0 = zI p.1 ∧ ab_l h r 1 = zI (p.2 : Int)
theorem fr_at.gr {S T : List Nat} {h h1 : ab_H} {r : Nat} {p : Int × Nat} (f : ab_gr S T h h1) (hs : ∀ a, a ∈ S → a < 78) (H : fr_at h r p) : fr_at h1 r p := by
  have g := f.2.2 r H.2.1
  have e := (g.2.1 (ab_lo hs H.1)).2
  exact ⟨H.1, by have := f.1; have := H.2.1; omega, g.1.trans H.2.2.1, by rw [e]; exact H.2.2.2.1, by rw [e]; exact H.2.2.2.2⟩
theorem nil78 : ∀ a, a ∈ ([] : List Nat) → a < 78 := fun _ q => by cases q
theorem fr_at.new {h h1 : ab_H} {p : Int × Nat} (hb : ab_bs h) (e : h1 = ab_sl (ab_sl (ab_new h (2, 0)) (5 + ab_n h) 0 (zI p.1)) (5 + ab_n h) 1 (zI (p.2 : Int))) : ab_gr [] [] h h1 ∧ fr_at h1 (5 + ab_n h) p := by
  subst e
  refine ⟨(((ab_gr.rf h).new _).slN _ _ (Or.inr (Nat.le_refl _))).slN _ _ (Or.inr (Nat.le_refl _)), ?_, ?_, ab_up_self _ _ _, ?_, ?_⟩
  · unfold ab_bs at hb; omega
  · show 5 + ab_n h < 5 + (ab_n h + 1); omega
  · rw [ab_l_sl, if_pos rfl, ab_up_ne _ _ (by decide), ab_l_sl, if_pos rfl, ab_up_self]
  · rw [ab_l_sl, if_pos rfl, ab_up_self]
/-! ===== the class: Fraction ===== -/
set_option maxRecDepth 100000 in
set_option maxHeartbeats 4000000 in
theorem c_frInit {k b r : Nat} {h : ab_H} {x y : Int64} (hk : 1 ≤ k) (h0 : r ≠ 0) (hs : ab_sh h r = (2, 0)) : ab_M k b mX2_init [.ref r, .long x, .long y] h (ab_pv (fun h' => h' = ab_sl (ab_sl h r 0 x) r 1 y)) := by
  refine ab_enter ?_
  refine ab_aload_n dX2_init_0 rfl ?_
  refine ab_objInit dX2_init_1 ml_X2_1 h0 ?_
  refine ab_aload_n dX2_init_4 rfl ?_
  refine ab_lload_n dX2_init_5 rfl ?_
  refine ab_putL dX2_init_6 fl_X2_7 hs ?_
  refine ab_aload_n dX2_init_9 rfl ?_
  refine ab_lload_n dX2_init_10 rfl ?_
  refine ab_putL dX2_init_11 fl_X2_13 hs ?_
  refine ab_retv dX2_init_14 ?_
  exact rfl
set_option maxRecDepth 100000 in
set_option maxHeartbeats 4000000 in
theorem lp_gcd {k b G : Nat} {h : ab_H} : ∀ (j x y i : Nat) (a0 a1 a2 a9 a10 : Option Value), nK x → nK y → i + j ≤ 200 → eu_ok j x y → Nat.gcd x y = G → ab_R k b mX2_greatestDivisor 9 [a0, a1, a2, none, some (.long (zI (x : Int))), none, some (.long (zI (y : Int))), none, some (.int (nI i)), a9, a10] [] h (ab_pl (fun v h' => h' = h ∧ v = zI (G : Int))) := by
  intro j
  induction j with
  | zero =>
    intro x y i a0 a1 a2 a9 a10 hx hy hi hs hG
    refine ab_iload dX2_greatestDivisor_9 rfl ?_
    refine ab_sipush (v := nI 200) dX2_greatestDivisor_11 (by decide) ?_
    refine ab_nicmp_ge 45 dX2_greatestDivisor_14 (by decide) (by omega) (by omega) (fun c_14 => ?_) (fun c_14 => ?_)
    · skip
      refine ab_lload (j := 4) dX2_greatestDivisor_45 rfl ?_
      refine ab_retl dX2_greatestDivisor_47 ?_
      exact ⟨rfl, by rw [← hG, eu_0 hs]⟩
    · skip
      refine ab_lload dX2_greatestDivisor_17 rfl ?_
      refine ab_lconst (v := 0) dX2_greatestDivisor_19 (by decide) ?_
      refine ab_lcmp dX2_greatestDivisor_20 ?_
      refine ab_if_eq 45 dX2_greatestDivisor_21 (by decide) (fun c_21 => ?_) (fun c_21 => ?_)
      · skip
        refine ab_lload (j := 4) dX2_greatestDivisor_45 rfl ?_
        refine ab_retl dX2_greatestDivisor_47 ?_
        exact ⟨rfl, by rw [← hG, eu_0 hs]⟩
      · skip
        exact absurd ((zc_eq0 hy).mpr hs) c_21
  | succ j ih =>
    intro x y i a0 a1 a2 a9 a10 hx hy hi hs hG
    refine ab_iload dX2_greatestDivisor_9 rfl ?_
    refine ab_sipush (v := nI 200) dX2_greatestDivisor_11 (by decide) ?_
    refine ab_nicmp_ge 45 dX2_greatestDivisor_14 (by decide) (by omega) (by omega) (fun c_14 => ?_) (fun c_14 => ?_)
    · skip
      exact absurd c_14 (by omega)
    · skip
      refine ab_lload dX2_greatestDivisor_17 rfl ?_
      refine ab_lconst (v := 0) dX2_greatestDivisor_19 (by decide) ?_
      refine ab_lcmp dX2_greatestDivisor_20 ?_
      refine ab_if_eq 45 dX2_greatestDivisor_21 (by decide) (fun c_21 => ?_) (fun c_21 => ?_)
      · skip
        refine ab_lload (j := 4) dX2_greatestDivisor_45 rfl ?_
        refine ab_retl dX2_greatestDivisor_47 ?_
        exact ⟨rfl, by rw [← hG, eu_0 ((zc_eq0 hy).mp c_21)]⟩
      · skip
        refine ab_lload dX2_greatestDivisor_24 rfl ?_
        refine ab_lload dX2_greatestDivisor_26 rfl ?_
        refine ab_lrem dX2_greatestDivisor_28 (zI_ne0 hy (fun q => c_21 ((zc_eq0 hy).mpr q))) ?_
        refine ab_topL (zI_remN hx hy) ?_
        refine ab_stl (ls' := [_, _, _, _, _, _, _, _, _, _, _]) dX2_greatestDivisor_29 (by decide) rfl ?_
        refine ab_lload dX2_greatestDivisor_31 rfl ?_
        refine ab_stl (ls' := [_, _, _, _, _, _, _, _, _, _, _]) dX2_greatestDivisor_33 (by decide) rfl ?_
        refine ab_lload dX2_greatestDivisor_35 rfl ?_
        refine ab_stl (ls' := [_, _, _, _, _, _, _, _, _, _, _]) dX2_greatestDivisor_37 (by decide) rfl ?_
        refine ab_nincR (ls' := [_, _, _, _, _, _, _, _, _, _, _]) dX2_greatestDivisor_39 rfl rfl ?_
        refine ab_goto 9 dX2_greatestDivisor_42 (by decide) ?_
        exact ih y (x % y) (i + 1) _ _ _ _ _ hy (nK.mod hx) (by omega) (eu_step hs (fun q => c_21 ((zc_eq0 hy).mpr q))) (eu_gcd.trans hG)
set_option maxRecDepth 100000 in
set_option maxHeartbeats 4000000 in
theorem c_gcd {k b x y : Nat} {h : ab_H} (hx : nK x) (hy : nK y) : ab_M k b mX2_greatestDivisor [.long (zI (x : Int)), .long (zI (y : Int))] h (ab_pl (fun v h' => h' = h ∧ v = zI ((Nat.gcd x y : Nat) : Int))) := by
  refine ab_enter ?_
  refine ab_lload_n dX2_greatestDivisor_0 rfl ?_
  refine ab_stl (ls' := [_, _, _, _, _, _, _, _, _, _, _]) dX2_greatestDivisor_1 (by decide) rfl ?_
  refine ab_lload_n dX2_greatestDivisor_3 rfl ?_
  refine ab_stl (ls' := [_, _, _, _, _, _, _, _, _, _, _]) dX2_greatestDivisor_4 (by decide) rfl ?_
  refine ab_iconst (v := nI 0) dX2_greatestDivisor_6 (by decide) ?_
  refine ab_sti (ls' := [_, _, _, _, _, _, _, _, _, _, _]) dX2_greatestDivisor_7 (by decide) rfl ?_
  exact lp_gcd 126 x y 0 _ _ _ _ _ hx hy (by omega) (eu_126 hy) rfl
theorem fR_gK {p : Int × Nat} (hp : 0 < p.2) (hd : nK p.2) : nK (fR_g p) := Nat.lt_of_le_of_lt (Nat.le_of_dvd hp (Nat.gcd_dvd_right _ _)) hd
theorem zc_le1 {g : Nat} (hg : nK g) : lg_cmp (zI (g : Int)) 1 ≤ 0 ↔ g ≤ 1 := by
  rw [lg_cmp_le, zI_1, zI_le hg.z zK_1]; omega
theorem fR_tdiv {p : Int × Nat} : p.1.tdiv (fR_g p : Int) = (fR p).1 := Int.tdiv_eq_ediv_of_dvd (Int.ofNat_dvd_left.mpr (Nat.gcd_dvd_left _ _))
theorem zK_abs {z : Int} (h : nK z.natAbs) : zK z := by unfold nK at h; unfold zK; omega
set_option maxRecDepth 100000 in
set_option maxHeartbeats 4000000 in
theorem c_least {k b : Nat} {h : ab_H} {p : Int × Nat} (hk : 2 ≤ k) (hb1 : 1 ≤ b) (hb : ab_bs h) (hn : nK p.1.natAbs) (hp : 0 < p.2) (hd : nK p.2) : ab_M k b mX2_inLeastTerms [.long (zI p.1), .long (zI (p.2 : Int))] h (ab_pr (fun r h' => ab_gr [] [] h h' ∧ fr_at h' r (fR p))) := by
  refine ab_enter ?_
  refine ab_lload_n dX2_inLeastTerms_0 rfl ?_
  refine ab_mabs dX2_inLeastTerms_1 ml_X2_16 ?_
  refine ab_topL (zI_abs hn) ?_
  refine ab_lload_n dX2_inLeastTerms_4 rfl ?_
  refine ab_callSl [_, _] dX2_inLeastTerms_5 ml_X2_22 mk_X2_greatestDivisor (c_gcd (k := 0) (b := 0) hn hd) (fun v1 hh1 hq => ?_)
  obtain ⟨hhe, rfl⟩ := hq
  rw [hhe]
  refine ab_stl (ls' := [_, _, _, _, _, _]) dX2_inLeastTerms_8 (by decide) rfl ?_
  refine ab_lload dX2_inLeastTerms_10 rfl ?_
  refine ab_lconst (v := 1) dX2_inLeastTerms_12 (by decide) ?_
  refine ab_lcmp dX2_inLeastTerms_13 ?_
  refine ab_if_le 35 dX2_inLeastTerms_14 (by decide) (fun c_14 => ?_) (fun c_14 => ?_)
  · replace c_14 := (zc_le1 (fR_gK hp hd)).mp c_14
    refine ab_newo (ci := 1) (b' := b - 1) (hb2 := (by have q : ab_N 1 ≤ 12 := (by decide); omega)) dX2_inLeastTerms_35 cl_X2_8 is_X2 it_X2 ?_
    refine ab_dup dX2_inLeastTerms_38 rfl ?_
    refine ab_lload_n dX2_inLeastTerms_39 rfl ?_
    refine ab_lload_n dX2_inLeastTerms_40 rfl ?_
    refine ab_callI [_, _] dX2_inLeastTerms_41 ml_X2_26 mk_X2_init (by omega) (c_frInit (k := 1) (b := 0) (Nat.le_refl _) (by omega) (ab_up_self _ _ _)) (fun _ hh hq => ?_)
    subst hq
    refine ab_retr dX2_inLeastTerms_44 ?_
    first | exact fr_at.new hb rfl | (rw [fR_one (Nat.le_antisymm c_14 (fR_gpos hp))]; exact fr_at.new hb rfl)
  · replace c_14 := mt (zc_le1 (fR_gK hp hd)).mpr c_14
    refine ab_newo (ci := 1) (b' := b - 1) (hb2 := (by have q : ab_N 1 ≤ 12 := (by decide); omega)) dX2_inLeastTerms_17 cl_X2_8 is_X2 it_X2 ?_
    refine ab_dup dX2_inLeastTerms_20 rfl ?_
    refine ab_lload_n dX2_inLeastTerms_21 rfl ?_
    refine ab_lload dX2_inLeastTerms_22 rfl ?_
    refine ab_ldiv dX2_inLeastTerms_24 (zI_ne0 (fR_gK hp hd) (Nat.ne_of_gt (fR_gpos hp))) ?_
    refine ab_topL ((zI_div (zK_abs hn) (fR_gK hp hd).z).trans (congrArg zI fR_tdiv)) ?_
    refine ab_lload_n dX2_inLeastTerms_25 rfl ?_
    refine ab_lload dX2_inLeastTerms_26 rfl ?_
    refine ab_ldiv dX2_inLeastTerms_28 (zI_ne0 (fR_gK hp hd) (Nat.ne_of_gt (fR_gpos hp))) ?_
    refine ab_topL ((zI_div hd.z (fR_gK hp hd).z).trans (congrArg zI (Int.ofNat_tdiv _ _).symm)) ?_
    refine ab_callI [_, _] dX2_inLeastTerms_29 ml_X2_26 mk_X2_init (by omega) (c_frInit (k := 1) (b := 0) (Nat.le_refl _) (by omega) (ab_up_self _ _ _)) (fun _ hh hq => ?_)
    subst hq
    refine ab_goto 44 dX2_inLeastTerms_32 (by decide) ?_
    refine ab_retr dX2_inLeastTerms_44 ?_
    first | exact fr_at.new hb rfl | (rw [fR_one (Nat.le_antisymm c_14 (fR_gpos hp))]; exact fr_at.new hb rfl)
