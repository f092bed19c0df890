/-! ===== numbers: ints that are small naturals ===== -/
theorem ab_nadd (a b : Nat) : nI a + nI b = nI (a + b) := (Int32.ofNat_add a b).symm
theorem ab_nmul (a b : Nat) : nI a * nI b = nI (a * b) := (Int32.ofNat_mul a b).symm
theorem ab_nsub {a b : Nat} (h : b ≤ a) : nI a - nI b = nI (a - b) := (Int32.ofNat_sub a b h).symm
theorem ab_ndiv {a b : Nat} (ha : a < 2147483648) (hb : b < 2147483648) : nI a / nI b = nI (a / b) := (Int32.ofNat_div ha hb).symm
theorem ab_nrem {a b : Nat} (ha : a < 2147483648) (hb : b < 2147483648) : nI a - nI a / nI b * nI b = nI (a % b) := by
  rw [ab_ndiv ha hb, ab_nmul, ab_nsub (Nat.div_mul_le_self a b)]
  congr 1
  have := Nat.div_add_mod a b
  rw [Nat.mul_comm] at this
  omega
theorem ab_nbv (a : Nat) : (nI a).toBitVec = BitVec.ofNat 32 a := rfl
theorem ab_nand (a b : Nat) : nI a &&& nI b = nI (a &&& b) := by
  apply Int32.toBitVec_inj.mp
  rw [Int32.toBitVec_and, ab_nbv, ab_nbv, ab_nbv, BitVec.ofNat_and]
theorem ab_nor (a b : Nat) : nI a ||| nI b = nI (a ||| b) := by
  apply Int32.toBitVec_inj.mp
  rw [Int32.toBitVec_or, ab_nbv, ab_nbv, ab_nbv, BitVec.ofNat_or]
theorem ab_nxor (a b : Nat) : nI a ^^^ nI b = nI (a ^^^ b) := by
  apply Int32.toBitVec_inj.mp
  rw [Int32.toBitVec_xor, ab_nbv, ab_nbv, ab_nbv, BitVec.ofNat_xor]
theorem ab_ninj {a b : Nat} (ha : a < 2147483648) (hb : b < 2147483648) : nI a = nI b ↔ a = b := by
  constructor
  · intro h
    have h1 := congrArg Int32.toInt h
    rw [nI_toInt ha, nI_toInt hb] at h1
    omega
  · rintro rfl; rfl
theorem ab_nlt {a b : Nat} (ha : a < 2147483648) (hb : b < 2147483648) : nI a < nI b ↔ a < b := by
  rw [Int32.lt_iff_toInt_lt, nI_toInt ha, nI_toInt hb]; omega
theorem ab_nle {a b : Nat} (ha : a < 2147483648) (hb : b < 2147483648) : nI a ≤ nI b ↔ a ≤ b := by
  rw [Int32.le_iff_toInt_le, nI_toInt ha, nI_toInt hb]; omega
theorem ab_n31 : (31 : Int32) = nI 31 := by decide
theorem ab_and31 {b : Nat} (hb : b < 32) : nI b &&& 31 = nI b := by
  rw [ab_n31, ab_nand]
  congr 1
  rw [show (31 : Nat) = 2 ^ 5 - 1 from rfl, Nat.and_two_pow_sub_one_eq_mod]
  omega
theorem ab_nshl {a b : Nat} (hb : b < 32) : nI a <<< (nI b &&& 31) = nI (a <<< b) := by
  rw [ab_and31 hb]
  apply Int32.toBitVec_inj.mp
  rw [Int32.toBitVec_shiftLeft, ab_nbv, ab_nbv]
  have e : (BitVec.ofNat 32 b).smod 32 = BitVec.ofNat 32 b := by
    revert b hb
    decide
  rw [e]
  apply BitVec.eq_of_toNat_eq
  rw [ab_nbv]
  simp [BitVec.toNat_shiftLeft, Nat.mod_eq_of_lt (show b < 4294967296 by omega), Nat.shiftLeft_eq, Nat.mod_mul_mod]
theorem ab_nshr {a b : Nat} (ha : a < 2147483648) (hb : b < 32) : nI a >>> (nI b &&& 31) = nI (a >>> b) := by
  rw [ab_and31 hb]
  apply Int32.toBitVec_inj.mp
  rw [Int32.toBitVec_shiftRight, ab_nbv, ab_nbv]
  have e : (BitVec.ofNat 32 b).smod 32 = BitVec.ofNat 32 b := by
    revert b hb
    decide
  rw [e]
  apply BitVec.eq_of_toNat_eq
  have h1 : (BitVec.ofNat 32 a).msb = false := by
    rw [BitVec.msb_eq_decide]
    simp
    omega
  rw [BitVec.sshiftRight_eq', BitVec.sshiftRight_eq_of_msb_false h1]
  have h2 : a >>> b ≤ a := by rw [Nat.shiftRight_eq_div_pow]; exact Nat.div_le_self _ _
  rw [ab_nbv]
  simp [BitVec.toNat_ushiftRight, Nat.mod_eq_of_lt (show b < 4294967296 by omega), Nat.mod_eq_of_lt (show a < 4294967296 by omega), Nat.mod_eq_of_lt (show a >>> b < 4294967296 by omega)]
theorem ab_ninc (a : Nat) : nI a + Int32.ofInt 1 = nI (a + 1) := ab_nadd a 1
theorem ab_of0 {x : Int32} (h : 0 ≤ x) : ∃ n, x = nI n ∧ n < 2147483648 := by
  refine ⟨x.toNatClampNeg, (Int32.ofNat_toNatClampNeg x h).symm, ?_⟩
  have h1 := Int32.toInt_lt x
  show x.toInt.toNat < _
  omega
theorem ab_range {x : Int32} {n : Nat} (h : 0 ≤ x) (h1 : ¬ nI n ≤ x) (hn : n < 2147483648) : ∃ j, x = nI j ∧ j < n := by
  obtain ⟨j, rfl, hj⟩ := ab_of0 h
  exact ⟨j, rfl, by rw [ab_nle hn hj] at h1; omega⟩
theorem ab_0 : (0 : Int32) = nI 0 := by decide
theorem ab_naddR {k b : Nat} {M : ab_MK} {pc : Nat} {ls : List (Option Value)} {st : List Value} {h : ab_H} {post : Value → ab_H → Prop} {x y : Nat} (hd : decode M.2.1 pc = .ok (.iadd, 1))  (kk : ab_R k b M (pc + 1) ls (.int (nI (x + y)) :: st) h post) : ab_R k b M pc ls (.int (nI y) :: .int (nI x) :: st) h post :=
  ab_iadd hd (by rw [ab_nadd]; exact kk)
theorem ab_nmulR {k b : Nat} {M : ab_MK} {pc : Nat} {ls : List (Option Value)} {st : List Value} {h : ab_H} {post : Value → ab_H → Prop} {x y : Nat} (hd : decode M.2.1 pc = .ok (.imul, 1))  (kk : ab_R k b M (pc + 1) ls (.int (nI (x * y)) :: st) h post) : ab_R k b M pc ls (.int (nI y) :: .int (nI x) :: st) h post :=
  ab_imul hd (by rw [ab_nmul]; exact kk)
theorem ab_nsubR {k b : Nat} {M : ab_MK} {pc : Nat} {ls : List (Option Value)} {st : List Value} {h : ab_H} {post : Value → ab_H → Prop} {x y : Nat} (hd : decode M.2.1 pc = .ok (.isub, 1)) (hle : y ≤ x) (kk : ab_R k b M (pc + 1) ls (.int (nI (x - y)) :: st) h post) : ab_R k b M pc ls (.int (nI y) :: .int (nI x) :: st) h post :=
  ab_isub hd (by rw [ab_nsub hle]; exact kk)
theorem ab_nandR {k b : Nat} {M : ab_MK} {pc : Nat} {ls : List (Option Value)} {st : List Value} {h : ab_H} {post : Value → ab_H → Prop} {x y : Nat} (hd : decode M.2.1 pc = .ok (.iand, 1))  (kk : ab_R k b M (pc + 1) ls (.int (nI (x &&& y)) :: st) h post) : ab_R k b M pc ls (.int (nI y) :: .int (nI x) :: st) h post :=
  ab_iand hd (by rw [ab_nand]; exact kk)
theorem ab_norR {k b : Nat} {M : ab_MK} {pc : Nat} {ls : List (Option Value)} {st : List Value} {h : ab_H} {post : Value → ab_H → Prop} {x y : Nat} (hd : decode M.2.1 pc = .ok (.ior, 1))  (kk : ab_R k b M (pc + 1) ls (.int (nI (x ||| y)) :: st) h post) : ab_R k b M pc ls (.int (nI y) :: .int (nI x) :: st) h post :=
  ab_ior hd (by rw [ab_nor]; exact kk)
theorem ab_nxorR {k b : Nat} {M : ab_MK} {pc : Nat} {ls : List (Option Value)} {st : List Value} {h : ab_H} {post : Value → ab_H → Prop} {x y : Nat} (hd : decode M.2.1 pc = .ok (.ixor, 1))  (kk : ab_R k b M (pc + 1) ls (.int (nI (x ^^^ y)) :: st) h post) : ab_R k b M pc ls (.int (nI y) :: .int (nI x) :: st) h post :=
  ab_ixor hd (by rw [ab_nxor]; exact kk)
theorem ab_nshlR {k b : Nat} {M : ab_MK} {pc : Nat} {ls : List (Option Value)} {st : List Value} {h : ab_H} {post : Value → ab_H → Prop} {x y : Nat} (hd : decode M.2.1 pc = .ok (.ishl, 1)) (hy : y < 32) (kk : ab_R k b M (pc + 1) ls (.int (nI (x <<< y)) :: st) h post) : ab_R k b M pc ls (.int (nI y) :: .int (nI x) :: st) h post :=
  ab_ishl hd (by rw [ab_nshl hy]; exact kk)
theorem ab_nshrR {k b : Nat} {M : ab_MK} {pc : Nat} {ls : List (Option Value)} {st : List Value} {h : ab_H} {post : Value → ab_H → Prop} {x y : Nat} (hd : decode M.2.1 pc = .ok (.ishr, 1)) (hx : x < 2147483648) (hy : y < 32) (kk : ab_R k b M (pc + 1) ls (.int (nI (x >>> y)) :: st) h post) : ab_R k b M pc ls (.int (nI y) :: .int (nI x) :: st) h post :=
  ab_ishr hd (by rw [ab_nshr hx hy]; exact kk)
theorem ab_ndivR {k b : Nat} {M : ab_MK} {pc : Nat} {ls : List (Option Value)} {st : List Value} {h : ab_H} {post : Value → ab_H → Prop} {x y : Nat} (hd : decode M.2.1 pc = .ok (.idiv, 1)) (hx : x < 2147483648) (hy : y < 2147483648) (h0 : y ≠ 0) (kk : ab_R k b M (pc + 1) ls (.int (nI (x / y)) :: st) h post) : ab_R k b M pc ls (.int (nI y) :: .int (nI x) :: st) h post :=
  ab_idiv hd (fun q => h0 ((ab_ninj hy (by omega)).mp (q.trans ab_0))) (by rw [ab_ndiv hx hy]; exact kk)
theorem ab_nremR {k b : Nat} {M : ab_MK} {pc : Nat} {ls : List (Option Value)} {st : List Value} {h : ab_H} {post : Value → ab_H → Prop} {x y : Nat} (hd : decode M.2.1 pc = .ok (.irem, 1)) (hx : x < 2147483648) (hy : y < 2147483648) (h0 : y ≠ 0) (kk : ab_R k b M (pc + 1) ls (.int (nI (x % y)) :: st) h post) : ab_R k b M pc ls (.int (nI y) :: .int (nI x) :: st) h post :=
  ab_irem hd (fun q => h0 ((ab_ninj hy (by omega)).mp (q.trans ab_0))) (by rw [ab_nrem hx hy]; exact kk)
theorem ab_nincR {k b : Nat} {M : ab_MK} {pc : Nat} {ls : List (Option Value)} {st : List Value} {h : ab_H} {post : Value → ab_H → Prop} {ls' : List (Option Value)} {j x : Nat} (hd : decode M.2.1 pc = .ok (.iinc j 1, 3)) (hx : ls[j]? = some (some (.int (nI x)))) (hls : ab_st1 ls j (.int (nI (x + 1))) = ls') (kk : ab_R k b M (pc + 3) ls' st h post) : ab_R k b M pc ls st h post :=
  ab_iinc hd hx (ab_ninc x) (by rw [hls]; exact kk)
theorem ab_nicmp_eq {k b : Nat} {M : ab_MK} {pc : Nat} {ls : List (Option Value)} {st : List Value} {h : ab_H} {post : Value → ab_H → Prop} {x y : Nat} {off : Int} (tgt : Nat) (hd : decode M.2.1 pc = .ok (.if_icmp .eq off, 3)) (ht : (pc : Int) + off = (tgt : Int)) (hx : x < 2147483648) (hy : y < 2147483648) (kt : x = y → ab_R k b M tgt ls st h post) (kf : ¬ (x = y) → ab_R k b M (pc + 3) ls st h post) : ab_R k b M pc ls (.int (nI y) :: .int (nI x) :: st) h post :=
  ab_icmp_eq tgt hd ht (fun q => kt ((ab_ninj hx hy).mp q)) (fun q => kf (fun z => q ((ab_ninj hx hy).mpr z)))
theorem ab_nif_eq {k b : Nat} {M : ab_MK} {pc : Nat} {ls : List (Option Value)} {st : List Value} {h : ab_H} {post : Value → ab_H → Prop} {x : Nat} {off : Int} (tgt : Nat) (hd : decode M.2.1 pc = .ok (.ifCond .eq off, 3)) (ht : (pc : Int) + off = (tgt : Int)) (hx : x < 2147483648) (kt : x = 0 → ab_R k b M tgt ls st h post) (kf : ¬ (x = 0) → ab_R k b M (pc + 3) ls st h post) : ab_R k b M pc ls (.int (nI x) :: st) h post :=
  ab_if_eq tgt hd ht (fun q => kt ((ab_ninj hx (show 0 < 2147483648 by omega)).mp (q.trans ab_0))) (fun q => kf (fun z => q ((congrArg nI z).trans ab_0.symm)))
theorem ab_nicmp_ne {k b : Nat} {M : ab_MK} {pc : Nat} {ls : List (Option Value)} {st : List Value} {h : ab_H} {post : Value → ab_H → Prop} {x y : Nat} {off : Int} (tgt : Nat) (hd : decode M.2.1 pc = .ok (.if_icmp .ne off, 3)) (ht : (pc : Int) + off = (tgt : Int)) (hx : x < 2147483648) (hy : y < 2147483648) (kt : ¬ x = y → ab_R k b M tgt ls st h post) (kf : x = y → ab_R k b M (pc + 3) ls st h post) : ab_R k b M pc ls (.int (nI y) :: .int (nI x) :: st) h post :=
  ab_icmp_ne tgt hd ht (fun q => kt (fun z => q ((ab_ninj hx hy).mpr z))) (fun q => kf ((ab_ninj hx hy).mp q))
theorem ab_nif_ne {k b : Nat} {M : ab_MK} {pc : Nat} {ls : List (Option Value)} {st : List Value} {h : ab_H} {post : Value → ab_H → Prop} {x : Nat} {off : Int} (tgt : Nat) (hd : decode M.2.1 pc = .ok (.ifCond .ne off, 3)) (ht : (pc : Int) + off = (tgt : Int)) (hx : x < 2147483648) (kt : ¬ x = 0 → ab_R k b M tgt ls st h post) (kf : x = 0 → ab_R k b M (pc + 3) ls st h post) : ab_R k b M pc ls (.int (nI x) :: st) h post :=
  ab_if_ne tgt hd ht (fun q => kt (fun z => q ((congrArg nI z).trans ab_0.symm))) (fun q => kf ((ab_ninj hx (show 0 < 2147483648 by omega)).mp (q.trans ab_0)))
theorem ab_nicmp_lt {k b : Nat} {M : ab_MK} {pc : Nat} {ls : List (Option Value)} {st : List Value} {h : ab_H} {post : Value → ab_H → Prop} {x y : Nat} {off : Int} (tgt : Nat) (hd : decode M.2.1 pc = .ok (.if_icmp .lt off, 3)) (ht : (pc : Int) + off = (tgt : Int)) (hx : x < 2147483648) (hy : y < 2147483648) (kt : x < y → ab_R k b M tgt ls st h post) (kf : ¬ (x < y) → ab_R k b M (pc + 3) ls st h post) : ab_R k b M pc ls (.int (nI y) :: .int (nI x) :: st) h post :=
  ab_icmp_lt tgt hd ht (fun q => kt ((ab_nlt hx hy).mp q)) (fun q => kf (fun z => q ((ab_nlt hx hy).mpr z)))
theorem ab_nicmp_ge {k b : Nat} {M : ab_MK} {pc : Nat} {ls : List (Option Value)} {st : List Value} {h : ab_H} {post : Value → ab_H → Prop} {x y : Nat} {off : Int} (tgt : Nat) (hd : decode M.2.1 pc = .ok (.if_icmp .ge off, 3)) (ht : (pc : Int) + off = (tgt : Int)) (hx : x < 2147483648) (hy : y < 2147483648) (kt : y ≤ x → ab_R k b M tgt ls st h post) (kf : ¬ (y ≤ x) → ab_R k b M (pc + 3) ls st h post) : ab_R k b M pc ls (.int (nI y) :: .int (nI x) :: st) h post :=
  ab_icmp_ge tgt hd ht (fun q => kt ((ab_nle hy hx).mp q)) (fun q => kf (fun z => q ((ab_nle hy hx).mpr z)))
theorem ab_nicmp_gt {k b : Nat} {M : ab_MK} {pc : Nat} {ls : List (Option Value)} {st : List Value} {h : ab_H} {post : Value → ab_H → Prop} {x y : Nat} {off : Int} (tgt : Nat) (hd : decode M.2.1 pc = .ok (.if_icmp .gt off, 3)) (ht : (pc : Int) + off = (tgt : Int)) (hx : x < 2147483648) (hy : y < 2147483648) (kt : y < x → ab_R k b M tgt ls st h post) (kf : ¬ (y < x) → ab_R k b M (pc + 3) ls st h post) : ab_R k b M pc ls (.int (nI y) :: .int (nI x) :: st) h post :=
  ab_icmp_gt tgt hd ht (fun q => kt ((ab_nlt hy hx).mp q)) (fun q => kf (fun z => q ((ab_nlt hy hx).mpr z)))
theorem ab_nicmp_le {k b : Nat} {M : ab_MK} {pc : Nat} {ls : List (Option Value)} {st : List Value} {h : ab_H} {post : Value → ab_H → Prop} {x y : Nat} {off : Int} (tgt : Nat) (hd : decode M.2.1 pc = .ok (.if_icmp .le off, 3)) (ht : (pc : Int) + off = (tgt : Int)) (hx : x < 2147483648) (hy : y < 2147483648) (kt : x ≤ y → ab_R k b M tgt ls st h post) (kf : ¬ (x ≤ y) → ab_R k b M (pc + 3) ls st h post) : ab_R k b M pc ls (.int (nI y) :: .int (nI x) :: st) h post :=
  ab_icmp_le tgt hd ht (fun q => kt ((ab_nle hx hy).mp q)) (fun q => kf (fun z => q ((ab_nle hx hy).mpr z)))
theorem ab_nif_lt {k b : Nat} {M : ab_MK} {pc : Nat} {ls : List (Option Value)} {st : List Value} {h : ab_H} {post : Value → ab_H → Prop} {x : Nat} {off : Int} (hd : decode M.2.1 pc = .ok (.ifCond .lt off, 3)) (tgt : Nat) (ht : (pc : Int) + off = (tgt : Int)) (hx : x < 2147483648) (kf : ab_R k b M (pc + 3) ls st h post) : ab_R k b M pc ls (.int (nI x) :: st) h post :=
  ab_if_lt tgt hd ht (fun q => absurd q (nI_pos hx)) (fun _ => kf)
theorem ab_nif_ge {k b : Nat} {M : ab_MK} {pc : Nat} {ls : List (Option Value)} {st : List Value} {h : ab_H} {post : Value → ab_H → Prop} {x : Nat} {off : Int} (hd : decode M.2.1 pc = .ok (.ifCond .ge off, 3)) (tgt : Nat) (ht : (pc : Int) + off = (tgt : Int)) (hx : x < 2147483648) (kt : ab_R k b M tgt ls st h post) : ab_R k b M pc ls (.int (nI x) :: st) h post :=
  ab_if_ge tgt hd ht (fun _ => kt) (fun q => absurd (nI_pos' hx) q)
/-- frames: all but the rows S of ints, of longs is as it was -/
def ab_fr (S : List Nat) (h h' : ab_H) : Prop := ab_n h' = ab_n h ∧ ab_sh h' = ab_sh h ∧ ab_r h' = ab_r h ∧ ab_e h' = ab_e h ∧ ∀ a, a ∉ S → ab_i h' a = ab_i h a ∧ ab_l h' a = ab_l h a
theorem ab_fr.rf {S : List Nat} (h : ab_H) : ab_fr S h h := ⟨rfl, rfl, rfl, rfl, fun _ _ => ⟨rfl, rfl⟩⟩
theorem ab_fr.trans {S S' : List Nat} {h h1 h2 : ab_H} (f : ab_fr S h h1) (g : ab_fr S' h1 h2) (hs : ∀ a, a ∈ S' → a ∈ S) : ab_fr S h h2 :=
  ⟨g.1.trans f.1, g.2.1.trans f.2.1, g.2.2.1.trans f.2.2.1, g.2.2.2.1.trans f.2.2.2.1, fun a ha => ⟨(g.2.2.2.2 a (fun q => ha (hs a q))).1.trans (f.2.2.2.2 a ha).1, (g.2.2.2.2 a (fun q => ha (hs a q))).2.trans (f.2.2.2.2 a ha).2⟩⟩
theorem ab_fr.si {S : List Nat} {h h1 : ab_H} (f : ab_fr S h h1) (a k : Nat) (v : Int32) (ha : a ∈ S) : ab_fr S h (ab_si h1 a k v) :=
  ⟨f.1, f.2.1, f.2.2.1, f.2.2.2.1, fun c hc => ⟨(ab_up_ne _ _ (fun q => hc (by rw [q]; exact ha))).trans (f.2.2.2.2 c hc).1, (f.2.2.2.2 c hc).2⟩⟩
theorem ab_fr.sl {S : List Nat} {h h1 : ab_H} (f : ab_fr S h h1) (a k : Nat) (v : Int64) (ha : a ∈ S) : ab_fr S h (ab_sl h1 a k v) :=
  ⟨f.1, f.2.1, f.2.2.1, f.2.2.2.1, fun c hc => ⟨(f.2.2.2.2 c hc).1, (ab_up_ne _ _ (fun q => hc (by rw [q]; exact ha))).trans (f.2.2.2.2 c hc).2⟩⟩
theorem ab_fr.sI {S : List Nat} {h h1 : ab_H} (f : ab_fr S h h1) (a : Nat) (g : Nat → Int32) (ha : a ∈ S) : ab_fr S h (ab_sI h1 a g) :=
  ⟨f.1, f.2.1, f.2.2.1, f.2.2.2.1, fun c hc => ⟨(ab_up_ne _ _ (fun q => hc (by rw [q]; exact ha))).trans (f.2.2.2.2 c hc).1, (f.2.2.2.2 c hc).2⟩⟩
theorem ab_fr.sL {S : List Nat} {h h1 : ab_H} (f : ab_fr S h h1) (a : Nat) (g : Nat → Int64) (ha : a ∈ S) : ab_fr S h (ab_sL h1 a g) :=
  ⟨f.1, f.2.1, f.2.2.1, f.2.2.2.1, fun c hc => ⟨(f.2.2.2.2 c hc).1, (ab_up_ne _ _ (fun q => hc (by rw [q]; exact ha))).trans (f.2.2.2.2 c hc).2⟩⟩
/-- reads behind writes -/
theorem ab_i_si (h : ab_H) (a k : Nat) (v : Int32) (c : Nat) : ab_i (ab_si h a k v) c = if c = a then ab_up (ab_i h a) k v else ab_i h c := rfl
theorem ab_l_sl (h : ab_H) (a k : Nat) (v : Int64) (c : Nat) : ab_l (ab_sl h a k v) c = if c = a then ab_up (ab_l h a) k v else ab_l h c := rfl
theorem ab_i_sI (h : ab_H) (a : Nat) (g : Nat → Int32) (c : Nat) : ab_i (ab_sI h a g) c = if c = a then g else ab_i h c := rfl
theorem ab_l_sL (h : ab_H) (a : Nat) (g : Nat → Int64) (c : Nat) : ab_l (ab_sL h a g) c = if c = a then g else ab_l h c := rfl
theorem ab_i_sl (h : ab_H) (a k : Nat) (v : Int64) : ab_i (ab_sl h a k v) = ab_i h := rfl
theorem ab_l_si (h : ab_H) (a k : Nat) (v : Int32) : ab_l (ab_si h a k v) = ab_l h := rfl
theorem ab_i_sL (h : ab_H) (a : Nat) (g : Nat → Int64) : ab_i (ab_sL h a g) = ab_i h := rfl
theorem ab_l_sI (h : ab_H) (a : Nat) (g : Nat → Int32) : ab_l (ab_sI h a g) = ab_l h := rfl
theorem ab_i_sr (h : ab_H) (a k v : Nat) : ab_i (ab_sr h a k v) = ab_i h := rfl
theorem ab_l_sr (h : ab_H) (a k v : Nat) : ab_l (ab_sr h a k v) = ab_l h := rfl
theorem ab_up_at {α : Type} (f : Nat → α) (k : Nat) (v : α) (j : Nat) : ab_up f k v j = if j = k then v else f j := rfl
theorem ab_sti_n {k b : Nat} {M : ab_MK} {pc : Nat} {ls : List (Option Value)} {st : List Value} {h : ab_H} {post : Value → ab_H → Prop} {ls' : List (Option Value)} {j : Fin 4} {x : Int32} (hd : decode M.2.1 pc = .ok (.istore_n j, 1)) (hj : (j : Nat) < M.2.2.1) (hls : ab_st1 ls j (.int x) = ls') (kk : ab_R k b M (pc + 1) ls' st h post) : ab_R k b M pc ls (.int x :: st) h post :=
  ab_istore_n hd hj (by rw [hls]; exact kk)
theorem ab_sti {k b : Nat} {M : ab_MK} {pc : Nat} {ls : List (Option Value)} {st : List Value} {h : ab_H} {post : Value → ab_H → Prop} {ls' : List (Option Value)} {j : Nat} {x : Int32} (hd : decode M.2.1 pc = .ok (.istore j, 2)) (hj : (j : Nat) < M.2.2.1) (hls : ab_st1 ls j (.int x) = ls') (kk : ab_R k b M (pc + 2) ls' st h post) : ab_R k b M pc ls (.int x :: st) h post :=
  ab_istore hd hj (by rw [hls]; exact kk)
theorem ab_stl_n {k b : Nat} {M : ab_MK} {pc : Nat} {ls : List (Option Value)} {st : List Value} {h : ab_H} {post : Value → ab_H → Prop} {ls' : List (Option Value)} {j : Fin 4} {x : Int64} (hd : decode M.2.1 pc = .ok (.lstore_n j, 1)) (hj : (j : Nat) + 1 < M.2.2.1) (hls : ab_st2 ls j (.long x) = ls') (kk : ab_R k b M (pc + 1) ls' st h post) : ab_R k b M pc ls (.long x :: st) h post :=
  ab_lstore_n hd hj (by rw [hls]; exact kk)
theorem ab_stl {k b : Nat} {M : ab_MK} {pc : Nat} {ls : List (Option Value)} {st : List Value} {h : ab_H} {post : Value → ab_H → Prop} {ls' : List (Option Value)} {j : Nat} {x : Int64} (hd : decode M.2.1 pc = .ok (.lstore j, 2)) (hj : (j : Nat) + 1 < M.2.2.1) (hls : ab_st2 ls j (.long x) = ls') (kk : ab_R k b M (pc + 2) ls' st h post) : ab_R k b M pc ls (.long x :: st) h post :=
  ab_lstore hd hj (by rw [hls]; exact kk)
theorem ab_stf_n {k b : Nat} {M : ab_MK} {pc : Nat} {ls : List (Option Value)} {st : List Value} {h : ab_H} {post : Value → ab_H → Prop} {ls' : List (Option Value)} {j : Fin 4} {x : UInt32} (hd : decode M.2.1 pc = .ok (.fstore_n j, 1)) (hj : (j : Nat) < M.2.2.1) (hls : ab_st1 ls j (.float x) = ls') (kk : ab_R k b M (pc + 1) ls' st h post) : ab_R k b M pc ls (.float x :: st) h post :=
  ab_fstore_n hd hj (by rw [hls]; exact kk)
theorem ab_stf {k b : Nat} {M : ab_MK} {pc : Nat} {ls : List (Option Value)} {st : List Value} {h : ab_H} {post : Value → ab_H → Prop} {ls' : List (Option Value)} {j : Nat} {x : UInt32} (hd : decode M.2.1 pc = .ok (.fstore j, 2)) (hj : (j : Nat) < M.2.2.1) (hls : ab_st1 ls j (.float x) = ls') (kk : ab_R k b M (pc + 2) ls' st h post) : ab_R k b M pc ls (.float x :: st) h post :=
  ab_fstore hd hj (by rw [hls]; exact kk)
theorem ab_std_n {k b : Nat} {M : ab_MK} {pc : Nat} {ls : List (Option Value)} {st : List Value} {h : ab_H} {post : Value → ab_H → Prop} {ls' : List (Option Value)} {j : Fin 4} {x : UInt64} (hd : decode M.2.1 pc = .ok (.dstore_n j, 1)) (hj : (j : Nat) + 1 < M.2.2.1) (hls : ab_st2 ls j (.double x) = ls') (kk : ab_R k b M (pc + 1) ls' st h post) : ab_R k b M pc ls (.double x :: st) h post :=
  ab_dstore_n hd hj (by rw [hls]; exact kk)
theorem ab_std {k b : Nat} {M : ab_MK} {pc : Nat} {ls : List (Option Value)} {st : List Value} {h : ab_H} {post : Value → ab_H → Prop} {ls' : List (Option Value)} {j : Nat} {x : UInt64} (hd : decode M.2.1 pc = .ok (.dstore j, 2)) (hj : (j : Nat) + 1 < M.2.2.1) (hls : ab_st2 ls j (.double x) = ls') (kk : ab_R k b M (pc + 2) ls' st h post) : ab_R k b M pc ls (.double x :: st) h post :=
  ab_dstore hd hj (by rw [hls]; exact kk)
theorem ab_sta_n {k b : Nat} {M : ab_MK} {pc : Nat} {ls : List (Option Value)} {st : List Value} {h : ab_H} {post : Value → ab_H → Prop} {ls' : List (Option Value)} {j : Fin 4} {x : Nat} (hd : decode M.2.1 pc = .ok (.astore_n j, 1)) (hj : (j : Nat) < M.2.2.1) (hls : ab_st1 ls j (.ref x) = ls') (kk : ab_R k b M (pc + 1) ls' st h post) : ab_R k b M pc ls (.ref x :: st) h post :=
  ab_astore_n hd hj (by rw [hls]; exact kk)
theorem ab_sta {k b : Nat} {M : ab_MK} {pc : Nat} {ls : List (Option Value)} {st : List Value} {h : ab_H} {post : Value → ab_H → Prop} {ls' : List (Option Value)} {j : Nat} {x : Nat} (hd : decode M.2.1 pc = .ok (.astore j, 2)) (hj : (j : Nat) < M.2.2.1) (hls : ab_st1 ls j (.ref x) = ls') (kk : ab_R k b M (pc + 2) ls' st h post) : ab_R k b M pc ls (.ref x :: st) h post :=
  ab_astore hd hj (by rw [hls]; exact kk)
theorem ab_iinc' {k b : Nat} {M : ab_MK} {pc : Nat} {ls : List (Option Value)} {st : List Value} {h : ab_H} {post : Value → ab_H → Prop} {ls' : List (Option Value)} {j : Nat} {n : Int} {x y : Int32} (hd : decode M.2.1 pc = .ok (.iinc j n, 3)) (hx : ls[j]? = some (some (.int x))) (hy : x + Int32.ofInt n = y) (hls : ab_st1 ls j (.int y) = ls') (kk : ab_R k b M (pc + 3) ls' st h post) : ab_R k b M pc ls st h post :=
  ab_iinc hd hx hy (by rw [hls]; exact kk)
/-- forms of what a method says at its end -/
def ab_pi (P : Int32 → ab_H → Prop) (v : Value) (h : ab_H) : Prop := ∃ x, v = .int x ∧ P x h
def ab_pn (P : Nat → ab_H → Prop) (v : Value) (h : ab_H) : Prop := ∃ n, v = .int (nI n) ∧ P n h
def ab_pb (P : Bool → ab_H → Prop) (v : Value) (h : ab_H) : Prop := ∃ t : Bool, v = .int (nI t.toNat) ∧ P t h
def ab_pl (P : Int64 → ab_H → Prop) (v : Value) (h : ab_H) : Prop := ∃ x, v = .long x ∧ P x h
def ab_pf (P : UInt32 → ab_H → Prop) (v : Value) (h : ab_H) : Prop := ∃ x, v = .float x ∧ P x h
def ab_pd (P : UInt64 → ab_H → Prop) (v : Value) (h : ab_H) : Prop := ∃ x, v = .double x ∧ P x h
def ab_pr (P : Nat → ab_H → Prop) (v : Value) (h : ab_H) : Prop := ∃ x, v = .ref x ∧ P x h
def ab_pv (P : ab_H → Prop) (_ : Value) (h : ab_H) : Prop := P h
theorem ab_callVi {k b : Nat} {M : ab_MK} {pc : Nat} {ls : List (Option Value)} {st : List Value} {h : ab_H} {post : Value → ab_H → Prop} {k' b' i n : Nat} {a ci xx : Nat} {M' : ab_MK} (as : List Value) {P : Int32 → ab_H → Prop} (hd : decode M.2.1 pc = .ok (.invokevirtual i, 3)) (hl : ab_kv M.1.cls i M') (hm : ab_mk M' n) (hs : ab_sh h a = (ci + 1, xx)) (hc : ab_M k' b' M' (.ref a :: as) h (ab_pi P)) (kk : ∀ x h', P x h' → ab_R k (b - b') M (pc + 3) ls (.int x :: st) h' post) (hcl : ab_C ci = M'.1.cls := by rfl) (hci : ci < 12 := by decide) (hrt : M'.2.2.2 ≠ none := by exact Option.some_ne_none _) (hk : k' + 1 ≤ k := by omega) (hb : b' ≤ b := by omega) (hn : as.length = n := by rfl) (hW : (st.map fun v => v.category).sum ≤ 8 := by exact Nat.le_of_ble_eq_true rfl) : ab_R k b M pc ls (as.reverse ++ .ref a :: st) h post := by
  refine ab_callV as hd hl hm hs hc (fun v h' hq => ?_) hcl hci hk hb hn hW
  obtain ⟨x, rfl, hq⟩ := hq
  have e9 : ∀ w : Value, ab_rv M'.2.2.2 w ++ st = w :: st := fun w => by
    revert hrt
    generalize M'.2.2.2 = rt
    intro hrt
    cases rt with
    | none => exact absurd rfl hrt
    | some t => rfl
  rw [e9]
  exact kk x h' hq
theorem ab_callSi {k b : Nat} {M : ab_MK} {pc : Nat} {ls : List (Option Value)} {st : List Value} {h : ab_H} {post : Value → ab_H → Prop} {k' b' i n : Nat} {M' : ab_MK} (as : List Value) {P : Int32 → ab_H → Prop} (hd : decode M.2.1 pc = .ok (.invokestatic i, 3)) (hl : ab_ks M.1.cls i M') (hm : ab_mk M' n) (hc : ab_M k' b' M' as h (ab_pi P)) (kk : ∀ x h', P x h' → ab_R k (b - b') M (pc + 3) ls (.int x :: st) h' post) (hrt : M'.2.2.2 ≠ none := by exact Option.some_ne_none _) (hk : k' + 1 ≤ k := by omega) (hb : b' ≤ b := by omega) (hn : as.length = n := by rfl) (hW : (st.map fun v => v.category).sum ≤ 8 := by exact Nat.le_of_ble_eq_true rfl) : ab_R k b M pc ls (as.reverse ++ st) h post := by
  refine ab_callS as hd hl hm hc (fun v h' hq => ?_) hk hb hn hW
  obtain ⟨x, rfl, hq⟩ := hq
  have e9 : ∀ w : Value, ab_rv M'.2.2.2 w ++ st = w :: st := fun w => by
    revert hrt
    generalize M'.2.2.2 = rt
    intro hrt
    cases rt with
    | none => exact absurd rfl hrt
    | some t => rfl
  rw [e9]
  exact kk x h' hq
theorem ab_callVn {k b : Nat} {M : ab_MK} {pc : Nat} {ls : List (Option Value)} {st : List Value} {h : ab_H} {post : Value → ab_H → Prop} {k' b' i n : Nat} {a ci xx : Nat} {M' : ab_MK} (as : List Value) {P : Nat → ab_H → Prop} (hd : decode M.2.1 pc = .ok (.invokevirtual i, 3)) (hl : ab_kv M.1.cls i M') (hm : ab_mk M' n) (hs : ab_sh h a = (ci + 1, xx)) (hc : ab_M k' b' M' (.ref a :: as) h (ab_pn P)) (kk : ∀ x h', P x h' → ab_R k (b - b') M (pc + 3) ls (.int (nI x) :: st) h' post) (hcl : ab_C ci = M'.1.cls := by rfl) (hci : ci < 12 := by decide) (hrt : M'.2.2.2 ≠ none := by exact Option.some_ne_none _) (hk : k' + 1 ≤ k := by omega) (hb : b' ≤ b := by omega) (hn : as.length = n := by rfl) (hW : (st.map fun v => v.category).sum ≤ 8 := by exact Nat.le_of_ble_eq_true rfl) : ab_R k b M pc ls (as.reverse ++ .ref a :: st) h post := by
  refine ab_callV as hd hl hm hs hc (fun v h' hq => ?_) hcl hci hk hb hn hW
  obtain ⟨x, rfl, hq⟩ := hq
  have e9 : ∀ w : Value, ab_rv M'.2.2.2 w ++ st = w :: st := fun w => by
    revert hrt
    generalize M'.2.2.2 = rt
    intro hrt
    cases rt with
    | none => exact absurd rfl hrt
    | some t => rfl
  rw [e9]
  exact kk x h' hq
theorem ab_callSn {k b : Nat} {M : ab_MK} {pc : Nat} {ls : List (Option Value)} {st : List Value} {h : ab_H} {post : Value → ab_H → Prop} {k' b' i n : Nat} {M' : ab_MK} (as : List Value) {P : Nat → ab_H → Prop} (hd : decode M.2.1 pc = .ok (.invokestatic i, 3)) (hl : ab_ks M.1.cls i M') (hm : ab_mk M' n) (hc : ab_M k' b' M' as h (ab_pn P)) (kk : ∀ x h', P x h' → ab_R k (b - b') M (pc + 3) ls (.int (nI x) :: st) h' post) (hrt : M'.2.2.2 ≠ none := by exact Option.some_ne_none _) (hk : k' + 1 ≤ k := by omega) (hb : b' ≤ b := by omega) (hn : as.length = n := by rfl) (hW : (st.map fun v => v.category).sum ≤ 8 := by exact Nat.le_of_ble_eq_true rfl) : ab_R k b M pc ls (as.reverse ++ st) h post := by
  refine ab_callS as hd hl hm hc (fun v h' hq => ?_) hk hb hn hW
  obtain ⟨x, rfl, hq⟩ := hq
  have e9 : ∀ w : Value, ab_rv M'.2.2.2 w ++ st = w :: st := fun w => by
    revert hrt
    generalize M'.2.2.2 = rt
    intro hrt
    cases rt with
    | none => exact absurd rfl hrt
    | some t => rfl
  rw [e9]
  exact kk x h' hq
theorem ab_callVb {k b : Nat} {M : ab_MK} {pc : Nat} {ls : List (Option Value)} {st : List Value} {h : ab_H} {post : Value → ab_H → Prop} {k' b' i n : Nat} {a ci xx : Nat} {M' : ab_MK} (as : List Value) {P : Bool → ab_H → Prop} (hd : decode M.2.1 pc = .ok (.invokevirtual i, 3)) (hl : ab_kv M.1.cls i M') (hm : ab_mk M' n) (hs : ab_sh h a = (ci + 1, xx)) (hc : ab_M k' b' M' (.ref a :: as) h (ab_pb P)) (kk : ∀ x h', P x h' → ab_R k (b - b') M (pc + 3) ls (.int (nI x.toNat) :: st) h' post) (hcl : ab_C ci = M'.1.cls := by rfl) (hci : ci < 12 := by decide) (hrt : M'.2.2.2 ≠ none := by exact Option.some_ne_none _) (hk : k' + 1 ≤ k := by omega) (hb : b' ≤ b := by omega) (hn : as.length = n := by rfl) (hW : (st.map fun v => v.category).sum ≤ 8 := by exact Nat.le_of_ble_eq_true rfl) : ab_R k b M pc ls (as.reverse ++ .ref a :: st) h post := by
  refine ab_callV as hd hl hm hs hc (fun v h' hq => ?_) hcl hci hk hb hn hW
  obtain ⟨x, rfl, hq⟩ := hq
  have e9 : ∀ w : Value, ab_rv M'.2.2.2 w ++ st = w :: st := fun w => by
    revert hrt
    generalize M'.2.2.2 = rt
    intro hrt
    cases rt with
    | none => exact absurd rfl hrt
    | some t => rfl
  rw [e9]
  exact kk x h' hq
theorem ab_callSb {k b : Nat} {M : ab_MK} {pc : Nat} {ls : List (Option Value)} {st : List Value} {h : ab_H} {post : Value → ab_H → Prop} {k' b' i n : Nat} {M' : ab_MK} (as : List Value) {P : Bool → ab_H → Prop} (hd : decode M.2.1 pc = .ok (.invokestatic i, 3)) (hl : ab_ks M.1.cls i M') (hm : ab_mk M' n) (hc : ab_M k' b' M' as h (ab_pb P)) (kk : ∀ x h', P x h' → ab_R k (b - b') M (pc + 3) ls (.int (nI x.toNat) :: st) h' post) (hrt : M'.2.2.2 ≠ none := by exact Option.some_ne_none _) (hk : k' + 1 ≤ k := by omega) (hb : b' ≤ b := by omega) (hn : as.length = n := by rfl) (hW : (st.map fun v => v.category).sum ≤ 8 := by exact Nat.le_of_ble_eq_true rfl) : ab_R k b M pc ls (as.reverse ++ st) h post := by
  refine ab_callS as hd hl hm hc (fun v h' hq => ?_) hk hb hn hW
  obtain ⟨x, rfl, hq⟩ := hq
  have e9 : ∀ w : Value, ab_rv M'.2.2.2 w ++ st = w :: st := fun w => by
    revert hrt
    generalize M'.2.2.2 = rt
    intro hrt
    cases rt with
    | none => exact absurd rfl hrt
    | some t => rfl
  rw [e9]
  exact kk x h' hq
theorem ab_callVl {k b : Nat} {M : ab_MK} {pc : Nat} {ls : List (Option Value)} {st : List Value} {h : ab_H} {post : Value → ab_H → Prop} {k' b' i n : Nat} {a ci xx : Nat} {M' : ab_MK} (as : List Value) {P : Int64 → ab_H → Prop} (hd : decode M.2.1 pc = .ok (.invokevirtual i, 3)) (hl : ab_kv M.1.cls i M') (hm : ab_mk M' n) (hs : ab_sh h a = (ci + 1, xx)) (hc : ab_M k' b' M' (.ref a :: as) h (ab_pl P)) (kk : ∀ x h', P x h' → ab_R k (b - b') M (pc + 3) ls (.long x :: st) h' post) (hcl : ab_C ci = M'.1.cls := by rfl) (hci : ci < 12 := by decide) (hrt : M'.2.2.2 ≠ none := by exact Option.some_ne_none _) (hk : k' + 1 ≤ k := by omega) (hb : b' ≤ b := by omega) (hn : as.length = n := by rfl) (hW : (st.map fun v => v.category).sum ≤ 8 := by exact Nat.le_of_ble_eq_true rfl) : ab_R k b M pc ls (as.reverse ++ .ref a :: st) h post := by
  refine ab_callV as hd hl hm hs hc (fun v h' hq => ?_) hcl hci hk hb hn hW
  obtain ⟨x, rfl, hq⟩ := hq
  have e9 : ∀ w : Value, ab_rv M'.2.2.2 w ++ st = w :: st := fun w => by
    revert hrt
    generalize M'.2.2.2 = rt
    intro hrt
    cases rt with
    | none => exact absurd rfl hrt
    | some t => rfl
  rw [e9]
  exact kk x h' hq
theorem ab_callSl {k b : Nat} {M : ab_MK} {pc : Nat} {ls : List (Option Value)} {st : List Value} {h : ab_H} {post : Value → ab_H → Prop} {k' b' i n : Nat} {M' : ab_MK} (as : List Value) {P : Int64 → ab_H → Prop} (hd : decode M.2.1 pc = .ok (.invokestatic i, 3)) (hl : ab_ks M.1.cls i M') (hm : ab_mk M' n) (hc : ab_M k' b' M' as h (ab_pl P)) (kk : ∀ x h', P x h' → ab_R k (b - b') M (pc + 3) ls (.long x :: st) h' post) (hrt : M'.2.2.2 ≠ none := by exact Option.some_ne_none _) (hk : k' + 1 ≤ k := by omega) (hb : b' ≤ b := by omega) (hn : as.length = n := by rfl) (hW : (st.map fun v => v.category).sum ≤ 8 := by exact Nat.le_of_ble_eq_true rfl) : ab_R k b M pc ls (as.reverse ++ st) h post := by
  refine ab_callS as hd hl hm hc (fun v h' hq => ?_) hk hb hn hW
  obtain ⟨x, rfl, hq⟩ := hq
  have e9 : ∀ w : Value, ab_rv M'.2.2.2 w ++ st = w :: st := fun w => by
    revert hrt
    generalize M'.2.2.2 = rt
    intro hrt
    cases rt with
    | none => exact absurd rfl hrt
    | some t => rfl
  rw [e9]
  exact kk x h' hq
theorem ab_callVf {k b : Nat} {M : ab_MK} {pc : Nat} {ls : List (Option Value)} {st : List Value} {h : ab_H} {post : Value → ab_H → Prop} {k' b' i n : Nat} {a ci xx : Nat} {M' : ab_MK} (as : List Value) {P : UInt32 → ab_H → Prop} (hd : decode M.2.1 pc = .ok (.invokevirtual i, 3)) (hl : ab_kv M.1.cls i M') (hm : ab_mk M' n) (hs : ab_sh h a = (ci + 1, xx)) (hc : ab_M k' b' M' (.ref a :: as) h (ab_pf P)) (kk : ∀ x h', P x h' → ab_R k (b - b') M (pc + 3) ls (.float x :: st) h' post) (hcl : ab_C ci = M'.1.cls := by rfl) (hci : ci < 12 := by decide) (hrt : M'.2.2.2 ≠ none := by exact Option.some_ne_none _) (hk : k' + 1 ≤ k := by omega) (hb : b' ≤ b := by omega) (hn : as.length = n := by rfl) (hW : (st.map fun v => v.category).sum ≤ 8 := by exact Nat.le_of_ble_eq_true rfl) : ab_R k b M pc ls (as.reverse ++ .ref a :: st) h post := by
  refine ab_callV as hd hl hm hs hc (fun v h' hq => ?_) hcl hci hk hb hn hW
  obtain ⟨x, rfl, hq⟩ := hq
  have e9 : ∀ w : Value, ab_rv M'.2.2.2 w ++ st = w :: st := fun w => by
    revert hrt
    generalize M'.2.2.2 = rt
    intro hrt
    cases rt with
    | none => exact absurd rfl hrt
    | some t => rfl
  rw [e9]
  exact kk x h' hq
theorem ab_callSf {k b : Nat} {M : ab_MK} {pc : Nat} {ls : List (Option Value)} {st : List Value} {h : ab_H} {post : Value → ab_H → Prop} {k' b' i n : Nat} {M' : ab_MK} (as : List Value) {P : UInt32 → ab_H → Prop} (hd : decode M.2.1 pc = .ok (.invokestatic i, 3)) (hl : ab_ks M.1.cls i M') (hm : ab_mk M' n) (hc : ab_M k' b' M' as h (ab_pf P)) (kk : ∀ x h', P x h' → ab_R k (b - b') M (pc + 3) ls (.float x :: st) h' post) (hrt : M'.2.2.2 ≠ none := by exact Option.some_ne_none _) (hk : k' + 1 ≤ k := by omega) (hb : b' ≤ b := by omega) (hn : as.length = n := by rfl) (hW : (st.map fun v => v.category).sum ≤ 8 := by exact Nat.le_of_ble_eq_true rfl) : ab_R k b M pc ls (as.reverse ++ st) h post := by
  refine ab_callS as hd hl hm hc (fun v h' hq => ?_) hk hb hn hW
  obtain ⟨x, rfl, hq⟩ := hq
  have e9 : ∀ w : Value, ab_rv M'.2.2.2 w ++ st = w :: st := fun w => by
    revert hrt
    generalize M'.2.2.2 = rt
    intro hrt
    cases rt with
    | none => exact absurd rfl hrt
    | some t => rfl
  rw [e9]
  exact kk x h' hq
theorem ab_callVd {k b : Nat} {M : ab_MK} {pc : Nat} {ls : List (Option Value)} {st : List Value} {h : ab_H} {post : Value → ab_H → Prop} {k' b' i n : Nat} {a ci xx : Nat} {M' : ab_MK} (as : List Value) {P : UInt64 → ab_H → Prop} (hd : decode M.2.1 pc = .ok (.invokevirtual i, 3)) (hl : ab_kv M.1.cls i M') (hm : ab_mk M' n) (hs : ab_sh h a = (ci + 1, xx)) (hc : ab_M k' b' M' (.ref a :: as) h (ab_pd P)) (kk : ∀ x h', P x h' → ab_R k (b - b') M (pc + 3) ls (.double x :: st) h' post) (hcl : ab_C ci = M'.1.cls := by rfl) (hci : ci < 12 := by decide) (hrt : M'.2.2.2 ≠ none := by exact Option.some_ne_none _) (hk : k' + 1 ≤ k := by omega) (hb : b' ≤ b := by omega) (hn : as.length = n := by rfl) (hW : (st.map fun v => v.category).sum ≤ 8 := by exact Nat.le_of_ble_eq_true rfl) : ab_R k b M pc ls (as.reverse ++ .ref a :: st) h post := by
  refine ab_callV as hd hl hm hs hc (fun v h' hq => ?_) hcl hci hk hb hn hW
  obtain ⟨x, rfl, hq⟩ := hq
  have e9 : ∀ w : Value, ab_rv M'.2.2.2 w ++ st = w :: st := fun w => by
    revert hrt
    generalize M'.2.2.2 = rt
    intro hrt
    cases rt with
    | none => exact absurd rfl hrt
    | some t => rfl
  rw [e9]
  exact kk x h' hq
theorem ab_callSd {k b : Nat} {M : ab_MK} {pc : Nat} {ls : List (Option Value)} {st : List Value} {h : ab_H} {post : Value → ab_H → Prop} {k' b' i n : Nat} {M' : ab_MK} (as : List Value) {P : UInt64 → ab_H → Prop} (hd : decode M.2.1 pc = .ok (.invokestatic i, 3)) (hl : ab_ks M.1.cls i M') (hm : ab_mk M' n) (hc : ab_M k' b' M' as h (ab_pd P)) (kk : ∀ x h', P x h' → ab_R k (b - b') M (pc + 3) ls (.double x :: st) h' post) (hrt : M'.2.2.2 ≠ none := by exact Option.some_ne_none _) (hk : k' + 1 ≤ k := by omega) (hb : b' ≤ b := by omega) (hn : as.length = n := by rfl) (hW : (st.map fun v => v.category).sum ≤ 8 := by exact Nat.le_of_ble_eq_true rfl) : ab_R k b M pc ls (as.reverse ++ st) h post := by
  refine ab_callS as hd hl hm hc (fun v h' hq => ?_) hk hb hn hW
  obtain ⟨x, rfl, hq⟩ := hq
  have e9 : ∀ w : Value, ab_rv M'.2.2.2 w ++ st = w :: st := fun w => by
    revert hrt
    generalize M'.2.2.2 = rt
    intro hrt
    cases rt with
    | none => exact absurd rfl hrt
    | some t => rfl
  rw [e9]
  exact kk x h' hq
theorem ab_callVr {k b : Nat} {M : ab_MK} {pc : Nat} {ls : List (Option Value)} {st : List Value} {h : ab_H} {post : Value → ab_H → Prop} {k' b' i n : Nat} {a ci xx : Nat} {M' : ab_MK} (as : List Value) {P : Nat → ab_H → Prop} (hd : decode M.2.1 pc = .ok (.invokevirtual i, 3)) (hl : ab_kv M.1.cls i M') (hm : ab_mk M' n) (hs : ab_sh h a = (ci + 1, xx)) (hc : ab_M k' b' M' (.ref a :: as) h (ab_pr P)) (kk : ∀ x h', P x h' → ab_R k (b - b') M (pc + 3) ls (.ref x :: st) h' post) (hcl : ab_C ci = M'.1.cls := by rfl) (hci : ci < 12 := by decide) (hrt : M'.2.2.2 ≠ none := by exact Option.some_ne_none _) (hk : k' + 1 ≤ k := by omega) (hb : b' ≤ b := by omega) (hn : as.length = n := by rfl) (hW : (st.map fun v => v.category).sum ≤ 8 := by exact Nat.le_of_ble_eq_true rfl) : ab_R k b M pc ls (as.reverse ++ .ref a :: st) h post := by
  refine ab_callV as hd hl hm hs hc (fun v h' hq => ?_) hcl hci hk hb hn hW
  obtain ⟨x, rfl, hq⟩ := hq
  have e9 : ∀ w : Value, ab_rv M'.2.2.2 w ++ st = w :: st := fun w => by
    revert hrt
    generalize M'.2.2.2 = rt
    intro hrt
    cases rt with
    | none => exact absurd rfl hrt
    | some t => rfl
  rw [e9]
  exact kk x h' hq
theorem ab_callSr {k b : Nat} {M : ab_MK} {pc : Nat} {ls : List (Option Value)} {st : List Value} {h : ab_H} {post : Value → ab_H → Prop} {k' b' i n : Nat} {M' : ab_MK} (as : List Value) {P : Nat → ab_H → Prop} (hd : decode M.2.1 pc = .ok (.invokestatic i, 3)) (hl : ab_ks M.1.cls i M') (hm : ab_mk M' n) (hc : ab_M k' b' M' as h (ab_pr P)) (kk : ∀ x h', P x h' → ab_R k (b - b') M (pc + 3) ls (.ref x :: st) h' post) (hrt : M'.2.2.2 ≠ none := by exact Option.some_ne_none _) (hk : k' + 1 ≤ k := by omega) (hb : b' ≤ b := by omega) (hn : as.length = n := by rfl) (hW : (st.map fun v => v.category).sum ≤ 8 := by exact Nat.le_of_ble_eq_true rfl) : ab_R k b M pc ls (as.reverse ++ st) h post := by
  refine ab_callS as hd hl hm hc (fun v h' hq => ?_) hk hb hn hW
  obtain ⟨x, rfl, hq⟩ := hq
  have e9 : ∀ w : Value, ab_rv M'.2.2.2 w ++ st = w :: st := fun w => by
    revert hrt
    generalize M'.2.2.2 = rt
    intro hrt
    cases rt with
    | none => exact absurd rfl hrt
    | some t => rfl
  rw [e9]
  exact kk x h' hq
theorem ab_callVv {k b : Nat} {M : ab_MK} {pc : Nat} {ls : List (Option Value)} {st : List Value} {h : ab_H} {post : Value → ab_H → Prop} {k' b' i n : Nat} {a ci xx : Nat} {M' : ab_MK} (as : List Value) {P : ab_H → Prop} (hd : decode M.2.1 pc = .ok (.invokevirtual i, 3)) (hl : ab_kv M.1.cls i M') (hm : ab_mk M' n) (hs : ab_sh h a = (ci + 1, xx)) (hc : ab_M k' b' M' (.ref a :: as) h (ab_pv P)) (kk : ∀ h', P h' → ab_R k (b - b') M (pc + 3) ls st h' post) (hcl : ab_C ci = M'.1.cls := by rfl) (hci : ci < 12 := by decide) (hrt : M'.2.2.2 = none := by rfl) (hk : k' + 1 ≤ k := by omega) (hb : b' ≤ b := by omega) (hn : as.length = n := by rfl) (hW : (st.map fun v => v.category).sum ≤ 8 := by exact Nat.le_of_ble_eq_true rfl) : ab_R k b M pc ls (as.reverse ++ .ref a :: st) h post := by
  refine ab_callV as hd hl hm hs hc (fun v h' hq => ?_) hcl hci hk hb hn hW
  rw [hrt]
  exact kk h' hq
theorem ab_callSv {k b : Nat} {M : ab_MK} {pc : Nat} {ls : List (Option Value)} {st : List Value} {h : ab_H} {post : Value → ab_H → Prop} {k' b' i n : Nat} {M' : ab_MK} (as : List Value) {P : ab_H → Prop} (hd : decode M.2.1 pc = .ok (.invokestatic i, 3)) (hl : ab_ks M.1.cls i M') (hm : ab_mk M' n) (hc : ab_M k' b' M' as h (ab_pv P)) (kk : ∀ h', P h' → ab_R k (b - b') M (pc + 3) ls st h' post) (hrt : M'.2.2.2 = none := by rfl) (hk : k' + 1 ≤ k := by omega) (hb : b' ≤ b := by omega) (hn : as.length = n := by rfl) (hW : (st.map fun v => v.category).sum ≤ 8 := by exact Nat.le_of_ble_eq_true rfl) : ab_R k b M pc ls (as.reverse ++ st) h post := by
  refine ab_callS as hd hl hm hc (fun v h' hq => ?_) hk hb hn hW
  rw [hrt]
  exact kk h' hq
theorem ab_reti {k b : Nat} {M : ab_MK} {pc : Nat} {ls : List (Option Value)} {h : ab_H} {P : Int32 → ab_H → Prop} {x : Int32} (hd : decode M.2.1 pc = .ok (.ireturn, 1)) (hp : P x h) (hrt : M.2.2.2 = some .int := by rfl) : ab_R k b M pc ls [.int x] h (ab_pi P) :=
  ab_iret hd ⟨x, rfl, hp⟩ (by rw [hrt]; rfl) (by rw [hrt]; rfl) (by rw [hrt]; exact ⟨_, rfl, rfl⟩)
theorem ab_retn {k b : Nat} {M : ab_MK} {pc : Nat} {ls : List (Option Value)} {h : ab_H} {P : Nat → ab_H → Prop} {x : Nat} (hd : decode M.2.1 pc = .ok (.ireturn, 1)) (hp : P x h) (hrt : M.2.2.2 = some .int := by rfl) : ab_R k b M pc ls [.int (nI x)] h (ab_pn P) :=
  ab_iret hd ⟨x, rfl, hp⟩ (by rw [hrt]; rfl) (by rw [hrt]; rfl) (by rw [hrt]; exact ⟨_, rfl, rfl⟩)
theorem ab_retb {k b : Nat} {M : ab_MK} {pc : Nat} {ls : List (Option Value)} {h : ab_H} {P : Bool → ab_H → Prop} {x : Bool} (hd : decode M.2.1 pc = .ok (.ireturn, 1)) (hp : P x h) (hrt : M.2.2.2 = some .boolean := by rfl) : ab_R k b M pc ls [.int (nI x.toNat)] h (ab_pb P) :=
  ab_iret hd ⟨x, rfl, hp⟩ (by rw [hrt]; rfl) (by rw [hrt]; rfl) (by rw [hrt]; exact ⟨_, rfl, by cases x <;> decide⟩)
theorem ab_retl {k b : Nat} {M : ab_MK} {pc : Nat} {ls : List (Option Value)} {h : ab_H} {P : Int64 → ab_H → Prop} {x : Int64} (hd : decode M.2.1 pc = .ok (.lreturn, 1)) (hp : P x h) (hrt : M.2.2.2 = some .long := by rfl) : ab_R k b M pc ls [.long x] h (ab_pl P) :=
  ab_lret hd ⟨x, rfl, hp⟩ (by rw [hrt]; rfl) (by rw [hrt]; rfl) (by rw [hrt]; exact ⟨_, rfl⟩)
theorem ab_retf {k b : Nat} {M : ab_MK} {pc : Nat} {ls : List (Option Value)} {h : ab_H} {P : UInt32 → ab_H → Prop} {x : UInt32} (hd : decode M.2.1 pc = .ok (.freturn, 1)) (hp : P x h) (hrt : M.2.2.2 = some .float := by rfl) : ab_R k b M pc ls [.float x] h (ab_pf P) :=
  ab_fret hd ⟨x, rfl, hp⟩ (by rw [hrt]; rfl) (by rw [hrt]; rfl) (by rw [hrt]; exact ⟨_, rfl⟩)
theorem ab_retd {k b : Nat} {M : ab_MK} {pc : Nat} {ls : List (Option Value)} {h : ab_H} {P : UInt64 → ab_H → Prop} {x : UInt64} (hd : decode M.2.1 pc = .ok (.dreturn, 1)) (hp : P x h) (hrt : M.2.2.2 = some .double := by rfl) : ab_R k b M pc ls [.double x] h (ab_pd P) :=
  ab_dret hd ⟨x, rfl, hp⟩ (by rw [hrt]; rfl) (by rw [hrt]; rfl) (by rw [hrt]; exact ⟨_, rfl⟩)
theorem ab_retr {k b : Nat} {M : ab_MK} {pc : Nat} {ls : List (Option Value)} {h : ab_H} {P : Nat → ab_H → Prop} {x : Nat} (hd : decode M.2.1 pc = .ok (.areturn, 1)) (hp : P x h) {cn : String} (hrt : M.2.2.2 = some (.object cn) := by rfl) : ab_R k b M pc ls [.ref x] h (ab_pr P) :=
  ab_aret hd ⟨x, rfl, hp⟩ (by rw [hrt]; rfl) (by rw [hrt]; rfl) (by rw [hrt]; exact ⟨_, rfl⟩)
theorem ab_retv {k b : Nat} {M : ab_MK} {pc : Nat} {ls : List (Option Value)} {h : ab_H} {P : ab_H → Prop} (hd : decode M.2.1 pc = .ok (.return_, 1)) (hp : P h) (hrt : M.2.2.2 = none := by rfl) : ab_R k b M pc ls [] h (ab_pv P) :=
  ab_vret hd hp (by rw [hrt]; rfl) (by rw [hrt]; rfl) (by rw [hrt]; exact trivial)
theorem ab_bif_eq {k b : Nat} {M : ab_MK} {pc : Nat} {ls : List (Option Value)} {st : List Value} {h : ab_H} {post : Value → ab_H → Prop} {x : Bool} {off : Int} (tgt : Nat) (hd : decode M.2.1 pc = .ok (.ifCond .eq off, 3)) (ht : (pc : Int) + off = (tgt : Int)) (kt : x = false → ab_R k b M tgt ls st h post) (kf : x = true → ab_R k b M (pc + 3) ls st h post) : ab_R k b M pc ls (.int (nI x.toNat) :: st) h post := by
  cases x
  · exact ab_if_eq tgt hd ht (fun _ => kt rfl) (fun q => absurd (by decide) q)
  · exact ab_if_eq tgt hd ht (fun q => absurd q (by decide)) (fun _ => kf rfl)
theorem ab_bif_ne {k b : Nat} {M : ab_MK} {pc : Nat} {ls : List (Option Value)} {st : List Value} {h : ab_H} {post : Value → ab_H → Prop} {x : Bool} {off : Int} (tgt : Nat) (hd : decode M.2.1 pc = .ok (.ifCond .ne off, 3)) (ht : (pc : Int) + off = (tgt : Int)) (kt : x = true → ab_R k b M tgt ls st h post) (kf : x = false → ab_R k b M (pc + 3) ls st h post) : ab_R k b M pc ls (.int (nI x.toNat) :: st) h post := by
  cases x
  · exact ab_if_ne tgt hd ht (fun q => absurd (by decide) q) (fun _ => kf rfl)
  · exact ab_if_ne tgt hd ht (fun _ => kt rfl) (fun q => absurd q (by decide))
theorem ab_swc (n : Nat) (x : Int32) : (x.toInt < 0 ∨ (n : Int) < x.toInt) ∨ ∃ j, j ≤ n ∧ x = nI j := by
  by_cases h0 : x.toInt < 0
  · exact Or.inl (Or.inl h0)
  · by_cases h1 : (n : Int) < x.toInt
    · exact Or.inl (Or.inr h1)
    · obtain ⟨j, rfl, hj⟩ := ab_of0 (x := x) (by rw [Int32.le_iff_toInt_le, Int32.toInt_zero]; omega)
      rw [nI_toInt hj] at h1
      exact Or.inr ⟨j, by omega, rfl⟩
