/-! ===== UInt32 ===== -/
def FB32 (lo hi : Nat) (x : UInt32) : Prop := x = 0 ∨ ∃ E t, t < 2 ^ 23 ∧ x = UInt32.ofNat (E * 2 ^ 23 + t) ∧ lo ≤ E ∧ E ≤ hi
theorem fb32_nat {E t : Nat} (ht : t < 2 ^ 23) (hE : E ≤ 2 * 127) : (UInt32.ofNat (E * 2 ^ 23 + t)).toNat = E * 2 ^ 23 + t := by
  rw [UInt32.toNat_ofNat', Nat.mod_eq_of_lt (by omega)]
theorem fb32_nat0 {E : Nat} (hE : E ≤ 2 * 127) : (UInt32.ofNat (E * 2 ^ 23)).toNat = E * 2 ^ 23 := by
  rw [UInt32.toNat_ofNat', Nat.mod_eq_of_lt (by omega)]
theorem FB32.mono {lo hi lo' hi' : Nat} {x : UInt32} (h : FB32 lo hi x) (h1 : lo' ≤ lo) (h2 : hi ≤ hi') : FB32 lo' hi' x := h.elim Or.inl (fun ⟨E, t, a, b, c, d⟩ => Or.inr ⟨E, t, a, b, by omega, by omega⟩)
theorem FB32.n {lo hi : Nat} {x : UInt32} (h : FB32 lo hi x) (hh : hi ≤ 2 * 127) : vf_n32 x := by
  rcases h with rfl | ⟨E, t, ht, rfl, h1, h2⟩
  · unfold vf_n32; decide
  · unfold vf_n32
    rw [UInt32.le_iff_toNat_le, UInt32.toNat_and]
    refine Nat.le_trans Nat.and_le_left ?_
    rw [fb32_nat ht (by omega)]
    rw [show (2139095040 : UInt32).toNat = 2139095040 by decide]
    omega
theorem fb32_l2 {a : Nat} (h0 : 0 < a) (h : nK a) : ∃ E t, t < 2 ^ 23 ∧ FP.l2f (zI (a : Int)) = UInt32.ofNat (E * 2 ^ 23 + t) ∧ 127 ≤ E ∧ E ≤ 127 + 63 := by
  obtain ⟨E, t, ht, he, e1, e2⟩ := fo_int fG_32 (by decide) h0 (show a < 2 ^ 63 by unfold nK at h; omega)
  refine ⟨E, t, ht, ?_, e1, e2⟩
  show UInt32.ofNat (FP.Core.fromInt FP.Core.b32 (zI (a : Int)).toInt) = _
  rw [zI_int h.z, he]
theorem sp_f_B {P : Int × Nat} (h0 : 0 ≤ P.1) (hn : nK P.1.natAbs) (hp : 0 < P.2) (hd : nK P.2) : FB32 (127 - 64) (127 + 64) (sp_f P) := by
  obtain ⟨E2, t2, ht2, he2, a2, b2⟩ := fb32_l2 hp hd
  unfold sp_f
  rw [he2]
  by_cases c : P.1 = 0
  · refine Or.inl ?_
    have e1 : FP.l2f (zI P.1) = 0 := by
      show UInt32.ofNat (FP.Core.fromInt FP.Core.b32 (zI P.1).toInt) = _
      rw [c, zI_int zK_0, fo_int0 fG_32]
      rfl
    rw [e1]
    show UInt32.ofNat (FP.Core.div FP.Core.b32 0 (UInt32.ofNat (E2 * 2 ^ 23 + t2)).toNat) = 0
    rw [fb32_nat ht2 (by omega), fo_div0 fG_32 ht2 (by omega) (by omega)]
    rfl
  · have e9 : P.1 = ((P.1.natAbs : Nat) : Int) := by omega
    obtain ⟨E1, t1, ht1, he1, a1, b1⟩ := fb32_l2 (show 0 < P.1.natAbs by omega) hn
    rw [← e9] at he1
    rw [he1]
    obtain ⟨E, t, ht, he, c1, c2⟩ := fo_div fG_32 ht1 ht2 (show 1 ≤ E1 by omega) (by omega) (show 1 ≤ E2 by omega) (by omega) (by omega) (by omega)
    refine Or.inr ⟨E, t, ht, ?_, by omega, by omega⟩
    show UInt32.ofNat (FP.Core.div FP.Core.b32 (UInt32.ofNat (E1 * 2 ^ 23 + t1)).toNat (UInt32.ofNat (E2 * 2 ^ 23 + t2)).toNat) = _
    rw [fb32_nat ht1 (by omega), fb32_nat ht2 (by omega), he]
theorem FB32.add {lo hi : Nat} {x y : UInt32} (hx : FB32 lo hi x) (hy : FB32 lo hi y) (hlo : 1 ≤ lo) (hh : hi + 2 ≤ 2 * 127) : FB32 lo (hi + 2) (FP.fadd x y) := by
  show FB32 lo (hi + 2) (UInt32.ofNat (FP.Core.add FP.Core.b32 x.toNat y.toNat))
  rcases hx with rfl | ⟨E1, t1, ht1, rfl, a1, b1⟩
  · rcases hy with rfl | ⟨E2, t2, ht2, rfl, a2, b2⟩
    · exact Or.inl (by show UInt32.ofNat (FP.Core.add FP.Core.b32 0 0) = 0; rw [fo_add00 fG_32]; rfl)
    · rw [fb32_nat ht2 (by omega)]
      show FB32 lo (hi + 2) (UInt32.ofNat (FP.Core.add FP.Core.b32 0 _))
      rw [fo_add0l fG_32 ht2 (by omega) (by omega)]
      exact Or.inr ⟨E2, t2, ht2, rfl, a2, by omega⟩
  · rcases hy with rfl | ⟨E2, t2, ht2, rfl, a2, b2⟩
    · rw [fb32_nat ht1 (by omega)]
      show FB32 lo (hi + 2) (UInt32.ofNat (FP.Core.add FP.Core.b32 _ 0))
      rw [fo_add0r fG_32 ht1 (by omega) (by omega)]
      exact Or.inr ⟨E1, t1, ht1, rfl, a1, by omega⟩
    · rw [fb32_nat ht1 (by omega), fb32_nat ht2 (by omega)]
      obtain ⟨E, t, ht, he, c1, c2, c3⟩ := fo_add fG_32 ht1 ht2 (show 1 ≤ E1 by omega) (by omega) (show 1 ≤ E2 by omega) (by omega)
      rw [he]
      exact Or.inr ⟨E, t, ht, rfl, by omega, by omega⟩
/-- doubled, halved -/
theorem fb32_m2 {E t E2 : Nat} {c : UInt32} (hc : c.toNat = E2 * 2 ^ 23) (ht : t < 2 ^ 23) (a1 : 1 ≤ E) (a2 : E ≤ 2 * 127) (b1 : 1 ≤ E2) (b2 : E2 ≤ 2 * 127) (c1 : 127 + 1 ≤ E + E2) (c2 : E + E2 ≤ 3 * 127) : FP.fmul (UInt32.ofNat (E * 2 ^ 23 + t)) c = UInt32.ofNat ((E + E2 - 127) * 2 ^ 23 + t) := by
  show UInt32.ofNat (FP.Core.mul FP.Core.b32 (UInt32.ofNat (E * 2 ^ 23 + t)).toNat c.toNat) = _
  rw [fb32_nat ht a2, hc, fo_mul2 fG_32 ht a1 a2 b1 b2 c1 c2]
theorem fb32_cmp {E t E2 : Nat} {c : UInt32} {op : CmpOp} (hc : c.toNat = E2 * 2 ^ 23) (ht : t < 2 ^ 23) (a1 : 1 ≤ E) (a2 : E ≤ 2 * 127) (b1 : 1 ≤ E2) (b2 : E2 ≤ 2 * 127) : Op.cmpValue (FP.fcmp (UInt32.ofNat (E * 2 ^ 23 + t)) c) op < 0 ↔ E < E2 := by
  show Op.cmpValue (FP.Core.cmp FP.Core.b32 (UInt32.ofNat (E * 2 ^ 23 + t)).toNat c.toNat) op < 0 ↔ _
  rw [fb32_nat ht a2, hc]
  rcases fo_cmp fG_32 ht a1 a2 b1 b2 with ⟨q, e⟩ | ⟨q, e | e⟩
  · rw [e]
    exact ⟨fun _ => q, fun _ => by cases op <;> decide⟩
  · rw [e]
    exact ⟨fun z => absurd z (by cases op <;> decide), fun z => by omega⟩
  · rw [e]
    exact ⟨fun z => absurd z (by cases op <;> decide), fun z => by omega⟩
theorem fb32_cmp0 {E t : Nat} {op : CmpOp} (ht : t < 2 ^ 23) (a1 : 1 ≤ E) (a2 : E ≤ 2 * 127) : Op.cmpValue (FP.fcmp (UInt32.ofNat (E * 2 ^ 23 + t)) FP.fconst0) op = 1 := by
  show Op.cmpValue (FP.Core.cmp FP.Core.b32 (UInt32.ofNat (E * 2 ^ 23 + t)).toNat 0) op = 1
  rw [fb32_nat ht a2, fo_cmp0 fG_32 ht a1 a2]
  cases op <;> decide
theorem FB32.self {lo hi : Nat} {x : UInt32} {op : CmpOp} (h : FB32 lo hi x) (hl : 1 ≤ lo) (hh : hi ≤ 2 * 127) : Op.cmpValue (FP.fcmp x x) op = 0 := by
  rcases h with rfl | ⟨E, t, ht, rfl, h1, h2⟩
  · show Op.cmpValue (FP.Core.cmp FP.Core.b32 0 0) op = 0
    rw [fo_cmp00 fG_32]
    cases op <;> decide
  · show Op.cmpValue (FP.Core.cmp FP.Core.b32 (UInt32.ofNat (E * 2 ^ 23 + t)).toNat (UInt32.ofNat (E * 2 ^ 23 + t)).toNat) op = 0
    rw [fb32_nat ht (by omega), fo_cmps fG_32 ht (by omega) (by omega)]
    cases op <;> decide
/-- what stands behind the first digit -/
theorem fb32_rest {t : Nat} {c : UInt32} (hc : c.toNat = (127 + 23) * 2 ^ 23) (ht : t < 2 ^ 23) : vf_n32 (FP.fsub (UInt32.ofNat (127 * 2 ^ 23 + t)) FP.fconst1) ∧ vf_n32 (FP.fmul (FP.fsub (UInt32.ofNat (127 * 2 ^ 23 + t)) FP.fconst1) c) ∧ FP.f2i (FP.fmul (FP.fsub (UInt32.ofNat (127 * 2 ^ 23 + t)) FP.fconst1) c) = Int32.ofInt (t : Int) := by
  have e1 : FP.fsub (UInt32.ofNat (127 * 2 ^ 23 + t)) FP.fconst1 = UInt32.ofNat (FP.Core.sub FP.Core.b32 (127 * 2 ^ 23 + t) (127 * 2 ^ 23)) := by
    show UInt32.ofNat (FP.Core.sub FP.Core.b32 (UInt32.ofNat (127 * 2 ^ 23 + t)).toNat FP.fconst1.toNat) = _
    rw [fb32_nat ht (by omega)]
    rfl
  rw [e1]
  rcases fo_sub1 fG_32 (by decide) ht with ⟨rfl, e⟩ | ⟨E, u, j, hu, e, h1, h2, h3⟩
  · rw [e]
    have e3 : FP.fmul (UInt32.ofNat 0) c = UInt32.ofNat 0 := by
      show UInt32.ofNat (FP.Core.mul FP.Core.b32 0 c.toNat) = _
      have q := fo_mul0 (t := 0) fG_32 (by decide) (show 1 ≤ 127 + 23 by decide) (by decide)
      rw [hc]
      exact congrArg UInt32.ofNat q
    rw [e3]
    refine ⟨by unfold vf_n32; decide, by unfold vf_n32; decide, ?_⟩
    show Int32.ofInt (FP.Core.toInt (-2 ^ 31) (2 ^ 31 - 1) (FP.Core.decode FP.Core.b32 0)) = _
    rw [fo_trunc0 fG_32 (by decide) (by decide)]
    rfl
  · have hE1 : 1 ≤ E := by omega
    have hE2 : E ≤ 2 * 127 := by omega
    rw [e, fb32_m2 (E2 := 127 + 23) hc hu hE1 hE2 (by decide) (by decide) (by omega) (by omega)]
    refine ⟨FB32.n (lo := E) (hi := E) (Or.inr ⟨E, u, hu, rfl, Nat.le_refl _, Nat.le_refl _⟩) hE2, FB32.n (lo := E + (127 + 23) - 127) (hi := E + (127 + 23) - 127) (Or.inr ⟨_, u, hu, rfl, Nat.le_refl _, Nat.le_refl _⟩) (by omega), ?_⟩
    show Int32.ofInt (FP.Core.toInt (-2 ^ 31) (2 ^ 31 - 1) (FP.Core.decode FP.Core.b32 (UInt32.ofNat ((E + (127 + 23) - 127) * 2 ^ 23 + u)).toNat)) = _
    rw [fb32_nat hu (by omega), fo_trunc (j := j) fG_32 hu (by omega) (by omega) h1 (by omega) (by decide) (by omega)]
/-! ===== UInt64 ===== -/
def FB64 (lo hi : Nat) (x : UInt64) : Prop := x = 0 ∨ ∃ E t, t < 2 ^ 52 ∧ x = UInt64.ofNat (E * 2 ^ 52 + t) ∧ lo ≤ E ∧ E ≤ hi
theorem fb64_nat {E t : Nat} (ht : t < 2 ^ 52) (hE : E ≤ 2 * 1023) : (UInt64.ofNat (E * 2 ^ 52 + t)).toNat = E * 2 ^ 52 + t := by
  rw [UInt64.toNat_ofNat', Nat.mod_eq_of_lt (by omega)]
theorem fb64_nat0 {E : Nat} (hE : E ≤ 2 * 1023) : (UInt64.ofNat (E * 2 ^ 52)).toNat = E * 2 ^ 52 := by
  rw [UInt64.toNat_ofNat', Nat.mod_eq_of_lt (by omega)]
theorem FB64.mono {lo hi lo' hi' : Nat} {x : UInt64} (h : FB64 lo hi x) (h1 : lo' ≤ lo) (h2 : hi ≤ hi') : FB64 lo' hi' x := h.elim Or.inl (fun ⟨E, t, a, b, c, d⟩ => Or.inr ⟨E, t, a, b, by omega, by omega⟩)
theorem FB64.n {lo hi : Nat} {x : UInt64} (h : FB64 lo hi x) (hh : hi ≤ 2 * 1023) : vf_n64 x := by
  rcases h with rfl | ⟨E, t, ht, rfl, h1, h2⟩
  · unfold vf_n64; decide
  · unfold vf_n64
    rw [UInt64.le_iff_toNat_le, UInt64.toNat_and]
    refine Nat.le_trans Nat.and_le_left ?_
    rw [fb64_nat ht (by omega)]
    rw [show (9218868437227405312 : UInt64).toNat = 9218868437227405312 by decide]
    omega
theorem fb64_l2 {a : Nat} (h0 : 0 < a) (h : nK a) : ∃ E t, t < 2 ^ 52 ∧ FP.l2d (zI (a : Int)) = UInt64.ofNat (E * 2 ^ 52 + t) ∧ 1023 ≤ E ∧ E ≤ 1023 + 63 := by
  obtain ⟨E, t, ht, he, e1, e2⟩ := fo_int fG_64 (by decide) h0 (show a < 2 ^ 63 by unfold nK at h; omega)
  refine ⟨E, t, ht, ?_, e1, e2⟩
  show UInt64.ofNat (FP.Core.fromInt FP.Core.b64 (zI (a : Int)).toInt) = _
  rw [zI_int h.z, he]
theorem sp_d_B {P : Int × Nat} (h0 : 0 ≤ P.1) (hn : nK P.1.natAbs) (hp : 0 < P.2) (hd : nK P.2) : FB64 (1023 - 64) (1023 + 64) (sp_d P) := by
  obtain ⟨E2, t2, ht2, he2, a2, b2⟩ := fb64_l2 hp hd
  unfold sp_d
  rw [he2]
  by_cases c : P.1 = 0
  · refine Or.inl ?_
    have e1 : FP.l2d (zI P.1) = 0 := by
      show UInt64.ofNat (FP.Core.fromInt FP.Core.b64 (zI P.1).toInt) = _
      rw [c, zI_int zK_0, fo_int0 fG_64]
      rfl
    rw [e1]
    show UInt64.ofNat (FP.Core.div FP.Core.b64 0 (UInt64.ofNat (E2 * 2 ^ 52 + t2)).toNat) = 0
    rw [fb64_nat ht2 (by omega), fo_div0 fG_64 ht2 (by omega) (by omega)]
    rfl
  · have e9 : P.1 = ((P.1.natAbs : Nat) : Int) := by omega
    obtain ⟨E1, t1, ht1, he1, a1, b1⟩ := fb64_l2 (show 0 < P.1.natAbs by omega) hn
    rw [← e9] at he1
    rw [he1]
    obtain ⟨E, t, ht, he, c1, c2⟩ := fo_div fG_64 ht1 ht2 (show 1 ≤ E1 by omega) (by omega) (show 1 ≤ E2 by omega) (by omega) (by omega) (by omega)
    refine Or.inr ⟨E, t, ht, ?_, by omega, by omega⟩
    show UInt64.ofNat (FP.Core.div FP.Core.b64 (UInt64.ofNat (E1 * 2 ^ 52 + t1)).toNat (UInt64.ofNat (E2 * 2 ^ 52 + t2)).toNat) = _
    rw [fb64_nat ht1 (by omega), fb64_nat ht2 (by omega), he]
theorem FB64.add {lo hi : Nat} {x y : UInt64} (hx : FB64 lo hi x) (hy : FB64 lo hi y) (hlo : 1 ≤ lo) (hh : hi + 2 ≤ 2 * 1023) : FB64 lo (hi + 2) (FP.dadd x y) := by
  show FB64 lo (hi + 2) (UInt64.ofNat (FP.Core.add FP.Core.b64 x.toNat y.toNat))
  rcases hx with rfl | ⟨E1, t1, ht1, rfl, a1, b1⟩
  · rcases hy with rfl | ⟨E2, t2, ht2, rfl, a2, b2⟩
    · exact Or.inl (by show UInt64.ofNat (FP.Core.add FP.Core.b64 0 0) = 0; rw [fo_add00 fG_64]; rfl)
    · rw [fb64_nat ht2 (by omega)]
      show FB64 lo (hi + 2) (UInt64.ofNat (FP.Core.add FP.Core.b64 0 _))
      rw [fo_add0l fG_64 ht2 (by omega) (by omega)]
      exact Or.inr ⟨E2, t2, ht2, rfl, a2, by omega⟩
  · rcases hy with rfl | ⟨E2, t2, ht2, rfl, a2, b2⟩
    · rw [fb64_nat ht1 (by omega)]
      show FB64 lo (hi + 2) (UInt64.ofNat (FP.Core.add FP.Core.b64 _ 0))
      rw [fo_add0r fG_64 ht1 (by omega) (by omega)]
      exact Or.inr ⟨E1, t1, ht1, rfl, a1, by omega⟩
    · rw [fb64_nat ht1 (by omega), fb64_nat ht2 (by omega)]
      obtain ⟨E, t, ht, he, c1, c2, c3⟩ := fo_add fG_64 ht1 ht2 (show 1 ≤ E1 by omega) (by omega) (show 1 ≤ E2 by omega) (by omega)
      rw [he]
      exact Or.inr ⟨E, t, ht, rfl, by omega, by omega⟩
/-- doubled, halved -/
theorem fb64_m2 {E t E2 : Nat} {c : UInt64} (hc : c.toNat = E2 * 2 ^ 52) (ht : t < 2 ^ 52) (a1 : 1 ≤ E) (a2 : E ≤ 2 * 1023) (b1 : 1 ≤ E2) (b2 : E2 ≤ 2 * 1023) (c1 : 1023 + 1 ≤ E + E2) (c2 : E + E2 ≤ 3 * 1023) : FP.dmul (UInt64.ofNat (E * 2 ^ 52 + t)) c = UInt64.ofNat ((E + E2 - 1023) * 2 ^ 52 + t) := by
  show UInt64.ofNat (FP.Core.mul FP.Core.b64 (UInt64.ofNat (E * 2 ^ 52 + t)).toNat c.toNat) = _
  rw [fb64_nat ht a2, hc, fo_mul2 fG_64 ht a1 a2 b1 b2 c1 c2]
theorem fb64_cmp {E t E2 : Nat} {c : UInt64} {op : CmpOp} (hc : c.toNat = E2 * 2 ^ 52) (ht : t < 2 ^ 52) (a1 : 1 ≤ E) (a2 : E ≤ 2 * 1023) (b1 : 1 ≤ E2) (b2 : E2 ≤ 2 * 1023) : Op.cmpValue (FP.dcmp (UInt64.ofNat (E * 2 ^ 52 + t)) c) op < 0 ↔ E < E2 := by
  show Op.cmpValue (FP.Core.cmp FP.Core.b64 (UInt64.ofNat (E * 2 ^ 52 + t)).toNat c.toNat) op < 0 ↔ _
  rw [fb64_nat ht a2, hc]
  rcases fo_cmp fG_64 ht a1 a2 b1 b2 with ⟨q, e⟩ | ⟨q, e | e⟩
  · rw [e]
    exact ⟨fun _ => q, fun _ => by cases op <;> decide⟩
  · rw [e]
    exact ⟨fun z => absurd z (by cases op <;> decide), fun z => by omega⟩
  · rw [e]
    exact ⟨fun z => absurd z (by cases op <;> decide), fun z => by omega⟩
theorem fb64_cmp0 {E t : Nat} {op : CmpOp} (ht : t < 2 ^ 52) (a1 : 1 ≤ E) (a2 : E ≤ 2 * 1023) : Op.cmpValue (FP.dcmp (UInt64.ofNat (E * 2 ^ 52 + t)) FP.dconst0) op = 1 := by
  show Op.cmpValue (FP.Core.cmp FP.Core.b64 (UInt64.ofNat (E * 2 ^ 52 + t)).toNat 0) op = 1
  rw [fb64_nat ht a2, fo_cmp0 fG_64 ht a1 a2]
  cases op <;> decide
theorem FB64.self {lo hi : Nat} {x : UInt64} {op : CmpOp} (h : FB64 lo hi x) (hl : 1 ≤ lo) (hh : hi ≤ 2 * 1023) : Op.cmpValue (FP.dcmp x x) op = 0 := by
  rcases h with rfl | ⟨E, t, ht, rfl, h1, h2⟩
  · show Op.cmpValue (FP.Core.cmp FP.Core.b64 0 0) op = 0
    rw [fo_cmp00 fG_64]
    cases op <;> decide
  · show Op.cmpValue (FP.Core.cmp FP.Core.b64 (UInt64.ofNat (E * 2 ^ 52 + t)).toNat (UInt64.ofNat (E * 2 ^ 52 + t)).toNat) op = 0
    rw [fb64_nat ht (by omega), fo_cmps fG_64 ht (by omega) (by omega)]
    cases op <;> decide
/-- what stands behind the first digit -/
theorem fb64_rest {t : Nat} {c : UInt64} (hc : c.toNat = (1023 + 52) * 2 ^ 52) (ht : t < 2 ^ 52) : vf_n64 (FP.dsub (UInt64.ofNat (1023 * 2 ^ 52 + t)) FP.dconst1) ∧ vf_n64 (FP.dmul (FP.dsub (UInt64.ofNat (1023 * 2 ^ 52 + t)) FP.dconst1) c) ∧ FP.d2l (FP.dmul (FP.dsub (UInt64.ofNat (1023 * 2 ^ 52 + t)) FP.dconst1) c) = Int64.ofInt (t : Int) := by
  have e1 : FP.dsub (UInt64.ofNat (1023 * 2 ^ 52 + t)) FP.dconst1 = UInt64.ofNat (FP.Core.sub FP.Core.b64 (1023 * 2 ^ 52 + t) (1023 * 2 ^ 52)) := by
    show UInt64.ofNat (FP.Core.sub FP.Core.b64 (UInt64.ofNat (1023 * 2 ^ 52 + t)).toNat FP.dconst1.toNat) = _
    rw [fb64_nat ht (by omega)]
    rfl
  rw [e1]
  rcases fo_sub1 fG_64 (by decide) ht with ⟨rfl, e⟩ | ⟨E, u, j, hu, e, h1, h2, h3⟩
  · rw [e]
    have e3 : FP.dmul (UInt64.ofNat 0) c = UInt64.ofNat 0 := by
      show UInt64.ofNat (FP.Core.mul FP.Core.b64 0 c.toNat) = _
      have q := fo_mul0 (t := 0) fG_64 (by decide) (show 1 ≤ 1023 + 52 by decide) (by decide)
      rw [hc]
      exact congrArg UInt64.ofNat q
    rw [e3]
    refine ⟨by unfold vf_n64; decide, by unfold vf_n64; decide, ?_⟩
    show Int64.ofInt (FP.Core.toInt (-2 ^ 63) (2 ^ 63 - 1) (FP.Core.decode FP.Core.b64 0)) = _
    rw [fo_trunc0 fG_64 (by decide) (by decide)]
    rfl
  · have hE1 : 1 ≤ E := by omega
    have hE2 : E ≤ 2 * 1023 := by omega
    rw [e, fb64_m2 (E2 := 1023 + 52) hc hu hE1 hE2 (by decide) (by decide) (by omega) (by omega)]
    refine ⟨FB64.n (lo := E) (hi := E) (Or.inr ⟨E, u, hu, rfl, Nat.le_refl _, Nat.le_refl _⟩) hE2, FB64.n (lo := E + (1023 + 52) - 1023) (hi := E + (1023 + 52) - 1023) (Or.inr ⟨_, u, hu, rfl, Nat.le_refl _, Nat.le_refl _⟩) (by omega), ?_⟩
    show Int64.ofInt (FP.Core.toInt (-2 ^ 63) (2 ^ 63 - 1) (FP.Core.decode FP.Core.b64 (UInt64.ofNat ((E + (1023 + 52) - 1023) * 2 ^ 52 + u)).toNat)) = _
    rw [fb64_nat hu (by omega), fo_trunc (j := j) fG_64 hu (by omega) (by omega) h1 (by omega) (by decide) (by omega)]
