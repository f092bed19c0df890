/-! ===== constructors: image, class ===== -/
theorem gq_Board {S T : List Nat} {h h1 : ab_H} {a : Nat} (f : ab_gr S T h h1) (ha : a + 6 < 5 + ab_n h) (n : a ∉ T) (H : at_Board (ab_sh h) (ab_r h) a) : at_Board (ab_sh h1) (ab_r h1) a := by
  unfold at_Board at *
  rw [(f.2.2 a (by omega)).1, (f.2.2 (a + 1) (by omega)).1, (f.2.2 (a + 2) (by omega)).1, (f.2.2 (a + 3) (by omega)).1, (f.2.2 (a + 4) (by omega)).1, (f.2.2 (a + 5) (by omega)).1, (f.2.2 (a + 6) (by omega)).1, (f.2.2 a (by omega)).2.2 n]
  exact H
theorem gq_Rule {S T : List Nat} {h h1 : ab_H} {a : Nat} (f : ab_gr S T h h1) (ha : a + 5 < 5 + ab_n h) (n : a ∉ T) (H : at_Rule (ab_sh h) (ab_r h) a) : at_Rule (ab_sh h1) (ab_r h1) a := by
  unfold at_Rule at *
  rw [(f.2.2 a (by omega)).1, (f.2.2 (a + 1) (by omega)).1, (f.2.2 (a + 2) (by omega)).1, (f.2.2 (a + 3) (by omega)).1, (f.2.2 (a + 4) (by omega)).1, (f.2.2 (a + 5) (by omega)).1, (f.2.2 a (by omega)).2.2 n]
  exact H
theorem gq_Shapes {S T : List Nat} {h h1 : ab_H} {a : Nat} (f : ab_gr S T h h1) (ha : a + 2 < 5 + ab_n h) (n : a ∉ T) (H : at_Shapes (ab_sh h) (ab_r h) a) : at_Shapes (ab_sh h1) (ab_r h1) a := by
  unfold at_Shapes at *
  rw [(f.2.2 a (by omega)).1, (f.2.2 (a + 1) (by omega)).1, (f.2.2 (a + 2) (by omega)).1, (f.2.2 a (by omega)).2.2 n]
  exact H
theorem gq_Letters {S T : List Nat} {h h1 : ab_H} {a : Nat} (f : ab_gr S T h h1) (ha : a + 2 < 5 + ab_n h) (n : a ∉ T) (H : at_Letters (ab_sh h) (ab_r h) a) : at_Letters (ab_sh h1) (ab_r h1) a := by
  unfold at_Letters at *
  rw [(f.2.2 a (by omega)).1, (f.2.2 (a + 1) (by omega)).1, (f.2.2 (a + 2) (by omega)).1, (f.2.2 a (by omega)).2.2 n]
  exact H
theorem gq_Rack {S T : List Nat} {h h1 : ab_H} {a : Nat} (f : ab_gr S T h h1) (ha : a + 1 < 5 + ab_n h) (n : a ∉ T) (H : at_Rack (ab_sh h) (ab_r h) a) : at_Rack (ab_sh h1) (ab_r h1) a := by
  unfold at_Rack at *
  rw [(f.2.2 a (by omega)).1, (f.2.2 (a + 1) (by omega)).1, (f.2.2 a (by omega)).2.2 n]
  exact H
theorem gq_Numbers {S T : List Nat} {h h1 : ab_H} {a : Nat} (f : ab_gr S T h h1) (ha : a + 1 < 5 + ab_n h) (n : a ∉ T) (H : at_Numbers (ab_sh h) (ab_r h) a) : at_Numbers (ab_sh h1) (ab_r h1) a := by
  unfold at_Numbers at *
  rw [(f.2.2 a (by omega)).1, (f.2.2 (a + 1) (by omega)).1, (f.2.2 a (by omega)).2.2 n]
  exact H
/-- a component is made at a and hung on field k of r -/
def sg (h H : ab_H) (r k a : Nat) : Prop := ab_gr [] [r] h H ∧ ab_r H r k = a ∧ ∀ j, j ≠ k → ab_r H r j = ab_r h r j
theorem sg_of {S : List Nat} {h h1 : ab_H} {s : Nat × Nat} {a r k : Nat} (ha : 5 + ab_n h = a) (hr : r < a) (g : ab_gr S [a] (ab_new h s) h1) (hS : ∀ c, c ∈ S → c = a) : sg h (ab_sr h1 r k a) r k a := by
  have l1 : ab_n (ab_new h s) = ab_n h + 1 := rfl
  have old : ∀ c, c < a → ab_sh h1 c = ab_sh h c ∧ ab_i h1 c = ab_i h c ∧ ab_l h1 c = ab_l h c ∧ ab_r h1 c = ab_r h c := by
    intro c hc
    obtain ⟨q1, q2, q3⟩ := g.2.2 c (by omega)
    have q2 := q2 (fun z => by have := hS c z; omega)
    have q3 := q3 (fun z => by have := List.mem_singleton.mp z; omega)
    exact ⟨q1.trans (nw_sh (by omega)), q2.1.trans (ab_up_ne _ _ (by omega)), q2.2.trans (ab_up_ne _ _ (by omega)), q3.trans (ab_up_ne _ _ (by omega))⟩
  refine ⟨⟨?_, g.2.1, fun c hc => ?_⟩, ?_, fun j hj => ?_⟩
  · have := g.1
    show ab_n h ≤ ab_n h1
    omega
  · obtain ⟨q1, q2, q3, q4⟩ := old c (by omega)
    refine ⟨q1, fun _ => ⟨q2, q3⟩, fun z => ?_⟩
    show ab_up (ab_r h1) r _ c = _
    rw [ab_up_ne _ _ (fun y => z (by rw [y]; exact List.mem_singleton.mpr rfl))]
    exact q4
  · show ab_up (ab_r h1) r (ab_up (ab_r h1 r) k a) r k = _
    rw [ab_up_self, ab_up_self]
  · show ab_up (ab_r h1) r (ab_up (ab_r h1 r) k a) r j = _
    rw [ab_up_self, ab_up_ne _ _ hj, (old r hr).2.2.2]
theorem sr_gr {h : ab_H} {r k a : Nat} : ab_gr [] [r] h (ab_sr h r k a) := ⟨Nat.le_refl _, rfl, fun c _ => ⟨rfl, fun _ => ⟨rfl, rfl⟩, fun z => ab_up_ne _ _ (fun y => z (by rw [y]; exact List.mem_singleton.mpr rfl))⟩⟩
theorem nw_z {h h1 : ab_H} {s : Nat × Nat} {a : Nat} (ha : 5 + ab_n h = a) (g : ab_gr [] [a] (ab_new h s) h1) : ab_i h1 a = (fun _ => 0) := by
  subst ha
  have l1 : ab_n (ab_new h s) = ab_n h + 1 := rfl
  rw [((g.2.2 (5 + ab_n h) (by omega)).2.1 (by simp)).1]
  exact ab_up_self _ _ _
theorem nw_s {h : ab_H} {s : Nat × Nat} {a : Nat} (ha : 5 + ab_n h = a) : ab_sh (ab_new h s) a = s := by subst ha; exact ab_up_self _ _ _
set_option maxRecDepth 100000 in
set_option maxHeartbeats 4000000 in
theorem c_ImageInit {k r : Nat} {h0 : ab_H} (hk : 2 ≤ k) (n0 : 5 + ab_n h0 = r + 1) (hr0 : 5 ≤ r) (hs0 : ab_sh h0 r = (2 + 1, 0)) : ab_M k 12 mX3_init [.ref r] h0 (ab_pv (fun h' => ab_gr [] [r] h0 h' ∧ ab_n h' = ab_n h0 + 9 ∧ ab_r h' r 4 = r + 1 ∧ ab_r h' r 5 = r + 7 ∧ at_Rule (ab_sh h') (ab_r h') (r + 1) ∧ at_Shapes (ab_sh h') (ab_r h') (r + 7))) := by
  refine ab_enter ?_
  refine ab_aload_n dX3_init_0 rfl ?_
  refine ab_objInit dX3_init_1 ml_X3_1 (by omega) ?_
  refine ab_aload_n dX3_init_4 rfl ?_
  refine ab_newo (ci := 7) (b' := 11) (hb2 := (by have q : ab_N 7 ≤ 12 := (by decide); omega)) dX3_init_5 cl_X3_7 is_X8 it_X8 ?_
  rw [n0]
  refine ab_dup dX3_init_8 rfl ?_
  refine ab_callI [] dX3_init_9 ml_X3_9 mk_X8_init (by omega) (c_RuleInit (k := 1) (Nat.le_refl _) (by show 5 + (ab_n h0 + 1) = _; omega) (by omega) (nw_s n0)) (fun _ hh hq => ?_)
  obtain ⟨g1, m1, a1, -⟩ := hq
  have m1 : ab_n hh = ab_n h0 + 6 := m1
  have A1 := sg_of (r := r) (k := 4) n0 (by omega) g1 (fun c z => by cases z)
  have hsA : ab_sh hh r = (2 + 1, 0) := ((g1.2.2 r (by show _ < 5 + (ab_n h0 + 1); omega)).1).trans ((nw_sh (by omega)).trans hs0)
  refine ab_putR dX3_init_12 fl_X3_10 hsA ?_
  have a2 : at_Rule (ab_sh (ab_sr hh r 4 (r + 1))) (ab_r (ab_sr hh r 4 (r + 1))) (r + 1) := gq_Rule sr_gr (by omega) (by simp) a1
  have m2 : ab_n (ab_sr hh r 4 (r + 1)) = ab_n h0 + 6 := m1
  have hs2 : ab_sh (ab_sr hh r 4 (r + 1)) r = (2 + 1, 0) := hsA
  generalize ab_sr hh r 4 (r + 1) = h2 at A1 a2 m2 hs2 ⊢
  have n2 : 5 + ab_n h2 = r + 7 := by omega
  refine ab_aload_n dX3_init_15 rfl ?_
  refine ab_newo (ci := 8) (b' := 2) (hb2 := (by have q : ab_N 8 ≤ 12 := (by decide); omega)) dX3_init_16 cl_X3_16 is_X9 it_X9 ?_
  rw [n2]
  refine ab_dup dX3_init_19 rfl ?_
  refine ab_callI [] dX3_init_20 ml_X3_18 mk_X9_init (by omega) (c_ShapesInit (k := 1) (Nat.le_refl _) (by show 5 + (ab_n h2 + 1) = _; omega) (by omega) (nw_s n2)) (fun _ hh_1 hq => ?_)
  obtain ⟨g3, m3, a3, -, -⟩ := hq
  have m3 : ab_n hh_1 = ab_n h2 + 3 := m3
  have A3 := sg_of (r := r) (k := 5) n2 (by omega) g3 (fun c z => by cases z)
  have hsB : ab_sh hh_1 r = (2 + 1, 0) := ((g3.2.2 r (by show _ < 5 + (ab_n h2 + 1); omega)).1).trans ((nw_sh (by omega)).trans hs2)
  refine ab_putR dX3_init_23 fl_X3_19 hsB ?_
  refine ab_retv dX3_init_26 ?_
  exact ⟨A1.1.trans A3.1 (fun _ q => q) (fun _ q => q), by show ab_n hh_1 = _; omega, (A3.2.2 4 (by decide)).trans A1.2.1, A3.2.1, gq_Rule A3.1 (by omega) (by simp) a2, gq_Shapes sr_gr (by omega) (by simp) a3⟩
