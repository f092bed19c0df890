/-! ===== what holds between the calls ===== -/
/-- what the model reads is as before -/
def mq (h h1 : ab_H) : Prop := (∀ a, 50 ≤ a → a < 78 → ab_sh h1 a = ab_sh h a ∧ ab_i h1 a = ab_i h a) ∧ ab_r h1 50 = ab_r h 50
theorem mq_gr {S T : List Nat} {h h1 : ab_H} (f : ab_gr S T h h1) (hb : ab_bs h) (hS : ∀ a, a ∈ S → a < 50) (hT : ∀ a, a ∈ T → a < 50) : mq h h1 := by
  unfold ab_bs at hb
  exact ⟨fun a h1 h2 => ⟨(f.2.2 a (by omega)).1, ((f.2.2 a (by omega)).2.1 (fun q => by have := hS a q; omega)).1⟩, (f.2.2 50 (by omega)).2.2 (fun q => by have := hT 50 q; omega)⟩
theorem at_M.mq {h h1 : ab_H} (q : mq h h1) (H : at_M (ab_sh h) (ab_r h)) : at_M (ab_sh h1) (ab_r h1) := by
  have e : ∀ a, 50 ≤ a → a < 78 → ab_sh h1 a = ab_sh h a := fun a z1 z2 => (q.1 a z1 z2).1
  unfold at_M at *
  rw [e 50 (by decide) (by decide), e 51 (by decide) (by decide), e 52 (by decide) (by decide), e 53 (by decide) (by decide), e 54 (by decide) (by decide), e 55 (by decide) (by decide), e 56 (by decide) (by decide), e 57 (by decide) (by decide), e 58 (by decide) (by decide), e 59 (by decide) (by decide), e 60 (by decide) (by decide), e 61 (by decide) (by decide), e 62 (by decide) (by decide), e 63 (by decide) (by decide), e 64 (by decide) (by decide), e 65 (by decide) (by decide), e 66 (by decide) (by decide), e 67 (by decide) (by decide), e 68 (by decide) (by decide), e 69 (by decide) (by decide), e 70 (by decide) (by decide), e 71 (by decide) (by decide), e 72 (by decide) (by decide), e 73 (by decide) (by decide), e 74 (by decide) (by decide), e 75 (by decide) (by decide), e 76 (by decide) (by decide), e 77 (by decide) (by decide), q.2]
  exact H
theorem gp_M.mq {X : xS} {h h1 : ab_H} (q : mq h h1) (H : gp_M X h) : gp_M X h1 := by
  have e : ∀ a, 50 ≤ a → a < 78 → ab_i h1 a = ab_i h a := fun a z1 z2 => (q.1 a z1 z2).2
  unfold gp_M bd_Mo ab_rho sh_M at *
  rw [e 50 (by decide) (by decide), e 52 (by decide) (by decide), e 53 (by decide) (by decide), e 54 (by decide) (by decide), e 55 (by decide) (by decide), e 56 (by decide) (by decide), e 57 (by decide) (by decide), e 62 (by decide) (by decide), e 63 (by decide) (by decide), e 64 (by decide) (by decide)]
  exact H
theorem le_M.mq {x : eS} {h h1 : ab_H} (q : mq h h1) (H : le_M x h) : le_M x h1 := by
  have e : ∀ a, 50 ≤ a → a < 78 → ab_i h1 a = ab_i h a := fun a z1 z2 => (q.1 a z1 z2).2
  unfold le_M at *
  rw [e 50 (by decide) (by decide), e 71 (by decide) (by decide)]
  exact H
theorem im_M.mq {x : iS} {h h1 : ab_H} (q : mq h h1) (H : im_M x h) : im_M x h1 := by
  have e : ∀ a, 50 ≤ a → a < 78 → ab_i h1 a = ab_i h a := fun a z1 z2 => (q.1 a z1 z2).2
  unfold im_M ab_rho sh_K at *
  rw [e 50 (by decide) (by decide), e 74 (by decide) (by decide), e 75 (by decide) (by decide), e 76 (by decide) (by decide), e 77 (by decide) (by decide)]
  exact H
theorem rk_M.mq {x : rS} {h h1 : ab_H} (q : mq h h1) (H : rk_M x h) : rk_M x h1 := by
  have e : ∀ a, 50 ≤ a → a < 78 → ab_i h1 a = ab_i h a := fun a z1 z2 => (q.1 a z1 z2).2
  unfold rk_M at *
  rw [e 65 (by decide) (by decide), e 66 (by decide) (by decide), e 67 (by decide) (by decide), e 68 (by decide) (by decide)]
  exact H
theorem li_M.mq {x : lS} {h h1 : ab_H} (q : mq h h1) (H : li_M x h) : li_M x h1 := by
  have e : ∀ a, 50 ≤ a → a < 78 → ab_i h1 a = ab_i h a := fun a z1 z2 => (q.1 a z1 z2).2
  unfold li_M at *
  rw [e 69 (by decide) (by decide), e 70 (by decide) (by decide)]
  exact H
theorem ab_fM.gr {S K : List Nat} {h h1 : ab_H} (f : ab_fM S K h h1) : ab_gr (50 :: S) [] h h1 := ⟨by rw [f.1]; exact Nat.le_refl _, f.2.2.2.1, fun a _ => ⟨by rw [f.2.1], fun q => f.2.2.2.2.1 a (fun z => q (by rw [z]; exact List.mem_cons_self)) (fun z => q (List.mem_cons_of_mem _ z)), fun _ => by rw [f.2.2.1]⟩⟩
abbrev wS : Type := xS × eS × iS × rS × lS
/-- the class's half -/
def iC (W : wS) (h : ab_H) : Prop := gp_C W.1 h ∧ le_C W.2.1 h ∧ im_C W.2.2.1 h ∧ rk_C W.2.2.2.1 h ∧ li_C W.2.2.2.2 h
/-- the model's half -/
def iM (W : wS) (h : ab_H) : Prop := gp_M W.1 h ∧ le_M W.2.1 h ∧ im_M W.2.2.1 h ∧ rk_M W.2.2.2.1 h ∧ li_M W.2.2.2.2 h
/-- refusals counted alike -/
def iR (h : ab_H) : Prop := ∀ c, ab_i h 37 c = ab_i h 51 c
def INV (W : wS) (h : ab_H) : Prop := ab_bs h ∧ ab_cs h ∧ at_C (ab_sh h) (ab_r h) ∧ at_M (ab_sh h) (ab_r h) ∧ iC W h ∧ iM W h ∧ iR h
theorem iM.mq {W : wS} {h h1 : ab_H} (q : mq h h1) (H : iM W h) : iM W h1 := ⟨H.1.mq q, H.2.1.mq q, H.2.2.1.mq q, H.2.2.2.1.mq q, H.2.2.2.2.mq q⟩
/-- rows of the class that a question may leave otherwise -/
theorem iC.gr {S T : List Nat} {W : wS} {h h1 : ab_H} (f : ab_gr S T h h1) (hb : ab_bs h) (hS : ∀ a, a ∈ S → a < 78 ∧ (a = 12 ∨ a = 13 ∨ a = 15 ∨ a = 16 ∨ a = 17 ∨ a = 18 ∨ a = 37 ∨ 50 ≤ a)) (hT : T = []) (H : iC W h) : iC W h1 := by
  subst hT
  have ns : ∀ a, ¬ (a = 12 ∨ a = 13 ∨ a = 15 ∨ a = 16 ∨ a = 17 ∨ a = 18 ∨ a = 37 ∨ 50 ≤ a) → a ∉ S := fun a q z => q (hS a z).2
  have s78 : ∀ a, a ∈ S → a < 78 := fun a z => (hS a z).1
  refine ⟨H.1.gr f hb (fun a z => ?_) (fun a z => by cases z), H.2.1.gr f hb (ns 22 (by decide)) (ns 24 (by decide)), H.2.2.1.gr f hb s78 (fun a z => by cases z) (ns 25 (by decide)) (ns 27 (by decide)) (ns 32 (by decide)) (by simp) (by simp), ?_, H.2.2.2.2.gr f hb (fun a q1 q2 q3 => ns a (by omega))⟩
  · have := hS a z
    omega
  · exact H.2.2.2.1.gr f hb s78 (fun a z => by cases z) (fun a q1 q2 q3 => ns a (by omega)) (fun a _ _ _ z => by cases z)
theorem iM.fM {S K : List Nat} {W : wS} {h h1 : ab_H} (f : ab_fM S K h h1) (hS : ∀ a, a ∈ S → a = 51 ∨ (58 ≤ a ∧ a ≤ 61) ∨ a = 72 ∨ a = 73) (hK : ∀ k, k ∈ K → k = 20 ∨ k = 21 ∨ k = 30) (H : iM W h) : iM W h1 :=
  ⟨H.1.fM f (fun a z => by have := hS a z; omega) (fun k z => by have := hK k z; omega), H.2.1.fM f (fun z => by have := hK 29 z; omega) (fun z => by have := hS 71 z; omega), H.2.2.1.fM f (fun a q1 q2 z => by have := hS a z; omega) (fun k q1 q2 z => by have := hK k z; omega), H.2.2.2.1.fM f (fun a q1 q2 z => by have := hS a z; omega), H.2.2.2.2.fM f (fun z => by have := hS 69 z; omega) (fun z => by have := hS 70 z; omega)⟩
theorem T20 {T : List Nat} (hT : ∀ a, a ∈ T → a ∈ [20, 21, 33, 34, 39, 43, 47]) : ∀ a, a ∈ T → a < 50 := fun a q => by
  have := hT a q
  simp at this
  omega
/-- behind the class's call the model reads what it read before -/
theorem INV_mid {S T : List Nat} {W : wS} {h h1 : ab_H} (H : INV W h) (g : ab_gr S T h h1) (hS : ∀ a, a ∈ S → a < 50) (hT : ∀ a, a ∈ T → a < 50) : at_M (ab_sh h1) (ab_r h1) ∧ iM W h1 := by
  obtain ⟨b1, -, -, b4, -, b6, -⟩ := H
  exact ⟨b4.mq (mq_gr g b1 hS hT), b6.mq (mq_gr g b1 hS hT)⟩
/-- both have answered -/
theorem INV_ok {S T S' K : List Nat} {W W' : wS} {h h1 h2 : ab_H} (H : INV W h) (g : ab_gr S T h h1) (hS : ∀ a, a ∈ S → a < 50 ∧ a ≠ 37) (hT : ∀ a, a ∈ T → a ∈ [20, 21, 33, 34, 39, 43, 47]) (c : iC W' h1) (f : ab_fM S' K h1 h2) (hS' : ∀ a, a ∈ S' → 52 ≤ a ∧ a < 78) (m : iM W' h2) : INV W' h2 := by
  obtain ⟨b1, b2, b3, b4, -, -, b7⟩ := H
  have q := mq_gr g b1 (fun a z => (hS a z).1) (T20 hT)
  have c1 := b1.gr g
  have c3 : at_C (ab_sh h1) (ab_r h1) := b3.gr g b1 hT
  refine ⟨c1.gr f.gr, (b2.gr g).gr f.gr, c3.gr f.gr c1 (fun a z => by cases z), at_M.fM f (b4.mq q), c.gr f.gr c1 (fun a z => ?_) rfl, m, fun k => ?_⟩
  · rcases List.mem_cons.mp z with rfl | z
    · omega
    · have := hS' a z; omega
  · unfold ab_bs at b1
    rw [(f.2.2.2.2.1 37 (by decide) (fun z => by have := hS' 37 z; omega)).1, (f.2.2.2.2.1 51 (by decide) (fun z => by have := hS' 51 z; omega)).1, (q.1 51 (by decide) (by decide)).2, ((g.2.2 37 (by omega)).2.1 (fun z => (hS 37 z).2 rfl)).1]
    exact b7 k
/-- both have refused -/
theorem INV_no {W : wS} {h h0 h1 h2 h3 : ab_H} {c : Nat} (H : INV W h) (g : ab_gr [] [] h h0) (e1 : h1 = ab_si h0 37 c (ab_i h0 37 c + 1)) (f : ab_fM [] [] h1 h3) (e2 : h2 = ab_si h3 51 c (ab_i h3 51 c + 1)) : INV W h2 := by
  obtain ⟨b1, b2, b3, b4, b5, b6, b7⟩ := H
  have g1 : ab_gr [37] [] h h1 := by rw [e1]; exact (g.mono (fun _ q => by cases q) (fun _ q => q)).siN _ _ (Or.inl (by simp))
  have q := mq_gr g1 b1 (by simp) (by simp)
  have c1 := b1.gr g1
  have c3 : at_C (ab_sh h1) (ab_r h1) := b3.gr g1 b1 (fun a z => by cases z)
  have f2 : ab_fM [51] [] h1 h2 := by rw [e2]; exact (f.mono (fun _ q => by cases q) (fun _ q => q)).si _ _ (by simp) (by decide)
  have c5 : iC W h1 := b5.gr g1 b1 (fun a z => by have := List.mem_singleton.mp z; omega) rfl
  refine ⟨c1.gr f2.gr, (b2.gr g1).gr f2.gr, c3.gr f2.gr c1 (fun a z => by cases z), at_M.fM f2 (b4.mq q), c5.gr f2.gr c1 (fun a z => by simp at z; omega) rfl, (b6.mq q).fM f2 (fun a z => by have := List.mem_singleton.mp z; omega) (fun k z => by cases z), fun k => ?_⟩
  unfold ab_bs at b1
  have r1 : ab_i h1 51 = ab_i h 51 := (q.1 51 (by decide) (by decide)).2
  have r2 : ab_i h3 51 = ab_i h1 51 := (f.2.2.2.2.1 51 (by decide) (by simp)).1
  have r3 : ab_i h0 37 = ab_i h 37 := ((g.2.2 37 (by omega)).2.1 (by simp)).1
  have r4 : ab_i h3 37 = ab_i h1 37 := (f.2.2.2.2.1 37 (by decide) (by simp)).1
  rw [e2, ab_i_off (by decide), ab_i_si_same, r4, e1, ab_i_si_same, r2, r1, r3]
  by_cases z : k = c
  · rw [if_pos z, if_pos z, b7 c]
  · rw [if_neg z, if_neg z]; exact b7 k
