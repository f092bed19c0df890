/-! ===== THE ABSTRACT FRAME: locals as a list, and the judgement ab_R ===== -/
def ab_loc (B : Nat) (ex : Nat → Nat) (A : Array Slot) (nL : Nat) (ls : List (Option Value)) : Prop := A.size = nL ∧ ls.length = nL ∧ lv_wf A ∧ ∀ (i : Nat) (v : Value), ls[i]? = some (some v) → A[i]? = some (.val (ab_vv B ex v))
def ab_w2 (o : Option (Option Value)) : Bool := match o with
  | some (some (.long _)) => true
  | some (some (.double _)) => true
  | _ => false
def ab_clr (ls : List (Option Value)) (i : Nat) : List (Option Value) := match i with
  | 0 => ls
  | j + 1 => if ab_w2 ls[j]? then ls.set j none else ls
def ab_st1 (ls : List (Option Value)) (i : Nat) (v : Value) : List (Option Value) := (ab_clr ls i).set i (some v)
def ab_st2 (ls : List (Option Value)) (i : Nat) (v : Value) : List (Option Value) := ((ab_clr ls i).set i (some v)).set (i + 1) none
theorem ab_clr_len (ls : List (Option Value)) (i : Nat) : (ab_clr ls i).length = ls.length := by
  unfold ab_clr
  split
  · rfl
  · split <;> simp
theorem ab_w2_cat {v : Value} (h : v.category = 2) : ab_w2 (some (some v)) = true := by
  cases v <;> first | rfl | (simp [Value.category] at h)
/-- what stands behind a store stood before, and isn't clobbered -/
theorem ab_clr_get {ls : List (Option Value)} {i j : Nat} {w : Value} (h : (ab_clr ls i)[j]? = some (some w)) : ls[j]? = some (some w) ∧ ¬ (j + 1 = i ∧ w.category = 2) := by
  unfold ab_clr at h
  split at h
  · exact ⟨h, fun q => by omega⟩
  · rename_i i
    split at h
    · rename_i hw
      rw [List.getElem?_set] at h
      split at h
      · split at h <;> cases h
      · rename_i hij
        exact ⟨h, fun q => hij (by omega)⟩
    · rename_i hw
      refine ⟨h, fun q => hw ?_⟩
      have e : i = j := by omega
      subst e
      rw [h]
      exact ab_w2_cat q.2
def ab_al (B : Nat) (ex : Nat → Nat) (ls : List (Option Value)) : List (Nat × Value) := (List.range ls.length).filterMap (fun i => match ls[i]? with
  | some (some v) => some (i, ab_vv B ex v)
  | _ => none)
theorem ab_al_mem {B : Nat} {ex : Nat → Nat} {ls : List (Option Value)} {i : Nat} {w : Value} : (i, w) ∈ ab_al B ex ls ↔ ∃ v, ls[i]? = some (some v) ∧ w = ab_vv B ex v := by
  unfold ab_al
  rw [List.mem_filterMap]
  constructor
  · rintro ⟨j, -, hj⟩
    split at hj
    · rename_i v hv
      cases hj
      exact ⟨v, hv, rfl⟩
    · cases hj
  · rintro ⟨v, hv, rfl⟩
    refine ⟨i, List.mem_range.mpr (List.getElem?_eq_some_iff.mp hv).1, ?_⟩
    rw [hv]
theorem ab_al_has {B : Nat} {ex : Nat → Nat} {A : Array Slot} {nL : Nat} {ls : List (Option Value)} (h : ab_loc B ex A nL ls) : lv_has A nL (ab_al B ex ls) := by
  refine ⟨h.1, h.2.2.1, fun q hq => ?_⟩
  obtain ⟨v, hv, e⟩ := ab_al_mem.mp (show (q.1, q.2) ∈ ab_al B ex ls from hq)
  rw [e]
  exact h.2.2.2 _ _ hv
theorem ab_st1_loc {B : Nat} {ex : Nat → Nat} {A A' : Array Slot} {nL i : Nat} {ls : List (Option Value)} {v : Value} (h : ab_loc B ex A nL ls) (hc : v.category = 1) (hA : lv_has A' nL ((i, ab_vv B ex v) :: (ab_al B ex ls).filter (fun q => !(q.1 == i) && !(q.1 + 1 == i && q.2.category == 2)))) : ab_loc B ex A' nL (ab_st1 ls i v) := by
  refine ⟨hA.1, by rw [ab_st1, List.length_set, ab_clr_len]; exact h.2.1, hA.2.1, fun j w hj => ?_⟩
  unfold ab_st1 at hj
  rw [List.getElem?_set] at hj
  split at hj
  · rename_i e
    subst e
    split at hj
    · cases hj
      exact hA.2.2 _ List.mem_cons_self
    · cases hj
  · rename_i e
    obtain ⟨h1, h2⟩ := ab_clr_get hj
    refine hA.2.2 (j, ab_vv B ex w) (List.mem_cons_of_mem _ (List.mem_filter.mpr ⟨ab_al_mem.mpr ⟨w, h1, rfl⟩, ?_⟩))
    have e1 : ¬ j = i := fun q => e q.symm
    have e2 : (ab_vv B ex w).category = w.category := ab_vv_cat B ex w
    simp only [e2]
    by_cases e3 : j + 1 = i
    · have : ¬ w.category = 2 := fun q => h2 ⟨e3, q⟩
      simp [e1, this]
    · simp [e1, e3]
theorem ab_st2_loc {B : Nat} {ex : Nat → Nat} {A A' : Array Slot} {nL i : Nat} {ls : List (Option Value)} {v : Value} (h : ab_loc B ex A nL ls) (hc : v.category = 2) (hA : lv_has A' nL ((i, ab_vv B ex v) :: (ab_al B ex ls).filter (fun q => !(q.1 == i) && (!(q.1 == i + 1) && !(q.1 + 1 == i && q.2.category == 2))))) : ab_loc B ex A' nL (ab_st2 ls i v) := by
  refine ⟨hA.1, by rw [ab_st2, List.length_set, List.length_set, ab_clr_len]; exact h.2.1, hA.2.1, fun j w hj => ?_⟩
  unfold ab_st2 at hj
  rw [List.getElem?_set] at hj
  split at hj
  · split at hj <;> cases hj
  · rename_i e0
    rw [List.getElem?_set] at hj
    split at hj
    · rename_i e
      subst e
      split at hj
      · cases hj
        exact hA.2.2 _ List.mem_cons_self
      · cases hj
    · rename_i e
      obtain ⟨h1, h2⟩ := ab_clr_get hj
      refine hA.2.2 (j, ab_vv B ex w) (List.mem_cons_of_mem _ (List.mem_filter.mpr ⟨ab_al_mem.mpr ⟨w, h1, rfl⟩, ?_⟩))
      have e1 : ¬ j = i := fun q => e q.symm
      have e4 : ¬ j = i + 1 := fun q => e0 q.symm
      have e2 : (ab_vv B ex w).category = w.category := ab_vv_cat B ex w
      simp only [e2]
      by_cases e3 : j + 1 = i
      · have : ¬ w.category = 2 := fun q => h2 ⟨e3, q⟩
        simp [e1, e4, this]
      · simp [e1, e3, e4]
/-- fewer locals known -/
def ab_le : List (Option Value) → List (Option Value) → Prop
  | [], [] => True
  | none :: t, _ :: u => ab_le t u
  | some v :: t, o :: u => o = some v ∧ ab_le t u
  | _, _ => False
theorem ab_le_get : ∀ {a c : List (Option Value)}, ab_le a c → a.length = c.length ∧ ∀ (i : Nat) (v : Value), a[i]? = some (some v) → c[i]? = some (some v)
  | [], [], _ => ⟨rfl, fun i v h => by simp at h⟩
  | [], _ :: _, h => h.elim
  | none :: _, [], h => h.elim
  | some _ :: _, [], h => h.elim
  | none :: t, o :: u, h => by
    obtain ⟨h1, h2⟩ := ab_le_get (a := t) (c := u) h
    refine ⟨by simp [h1], fun i v hi => ?_⟩
    cases i with
    | zero => simp at hi
    | succ i => simpa using h2 i v (by simpa using hi)
  | some w :: t, o :: u, h => by
    obtain ⟨h1, h2⟩ := ab_le_get (a := t) (c := u) h.2
    refine ⟨by simp [h1], fun i v hi => ?_⟩
    cases i with
    | zero => simp at hi; rw [h.1, hi]; rfl
    | succ i => simpa using h2 i v (by simpa using hi)
theorem ab_loc_le {B : Nat} {ex : Nat → Nat} {A : Array Slot} {nL : Nat} {ls ls' : List (Option Value)} (h : ab_loc B ex A nL ls) (hl : ab_le ls' ls) : ab_loc B ex A nL ls' :=
  ⟨h.1, (ab_le_get hl).1.trans h.2.1, h.2.2.1, fun i v hi => h.2.2.2 i v ((ab_le_get hl).2 i v hi)⟩
/-! the judgement -/
abbrev ab_tg : List Cond := lw_tbl.filter goodWord
def ab_ctx (B : Nat) (ex : Nat → Nat) (eA : Nat → Cell) (dA : Nat → ClassId) (D : va_G) (M : ab_MK) (k : Nat) (p : Program) (l : Launch) (R : Room) (s : State) (m : MethodId) (args : Array Value) (meth : Method) (c : Code) : Prop :=
  p.tables.exec = Jvm.exec ∧ c.code = M.2.1 ∧ c.maxLocals = M.2.2.1 ∧ s.vm.findClass M.1.cls = some m.cls ∧ (∀ w ∈ ab_tg, w.before args s = true) ∧ ab_K B ex eA dA D s s.heap ∧ meth.name = M.1.name ∧ k ≤ R.frames ∧ 100 * k ≤ R.locals ∧ B ≤ s.heap.size
def ab_ri (ret : Option FieldType) : Instr := match ret with
  | none => .return_
  | some .long => .lreturn
  | some .float => .freturn
  | some .double => .dreturn
  | some (.object _) => .areturn
  | some (.array _) => .areturn
  | _ => .ireturn
def ab_rv (ret : Option FieldType) (v : Value) : List Value := match ret with
  | none => []
  | some _ => [v]
def ab_rok (ret : Option FieldType) (v : Value) : Prop := match ret with
  | none => True
  | some .long => ∃ x, v = .long x
  | some .float => ∃ x, v = .float x
  | some .double => ∃ x, v = .double x
  | some (.object _) => ∃ a, v = .ref a
  | some (.array _) => ∃ a, v = .ref a
  | some ty => ∃ x, v = .int x ∧ narrow ty (.int x) = .int x
def ab_exit (B : Nat) (ex : Nat → Nat) (eA : Nat → Cell) (dA : Nat → ClassId) (D : va_G) (M : ab_MK) (p : Program) (l : Launch) (e : Env) (R : Room) (s : State) (m : MethodId) (args : Array Value) (below : List Frame) (meth : Method) (c : Code) (cm sm : Nat) (Q : State → Prop) (post : Value → ab_H → Prop) : Prop :=
  ∀ (pc : Nat) (v : Value) (h : ab_H) (H : Heap) (locs : List Loc) (A : Array Slot) (cells slots : Nat), decode M.2.1 pc = .ok (ab_ri M.2.2.2, 1) → ab_rok M.2.2.2 v → post v h → ab_rep B ex eA dA D h H → va_S (fun q => B ≤ q) s.heap H locs → cells ≤ cm → slots ≤ sm →
    W p l e R s m args below meth c H locs cells slots Q (F0 m pc A (ab_rv M.2.2.2 (ab_vv B ex v)))
/-- from this frame with this heap the method comes to an end with 'post': at level k (frames), at most b cells and 12 b slots made -/
def ab_R (k b : Nat) (M : ab_MK) (pc : Nat) (ls : List (Option Value)) (st : List Value) (h : ab_H) (post : Value → ab_H → Prop) : Prop :=
  ∀ (B : Nat) (ex : Nat → Nat) (eA : Nat → Cell) (dA : Nat → ClassId) (D : va_G) (p : Program) (l : Launch) (e : Env) (R : Room) (s : State) (m : MethodId) (args : Array Value) (below : List Frame) (meth : Method) (c : Code) (cm sm : Nat) (Q : State → Prop),
    ab_ctx B ex eA dA D M k p l R s m args meth c → cm ≤ R.cells → sm ≤ R.slots → ab_exit B ex eA dA D M p l e R s m args below meth c cm sm Q post →
    ∀ (H : Heap) (locs : List Loc) (A : Array Slot) (cells slots : Nat), ab_rep B ex eA dA D h H → va_S (fun q => B ≤ q) s.heap H locs → ab_loc B ex A M.2.2.1 ls → cells + b ≤ cm → slots + 12 * b ≤ sm →
    W p l e R s m args below meth c H locs cells slots Q (F0 m pc A (st.map (ab_vv B ex)))
theorem ab_weak {k b : Nat} {M : ab_MK} {pc : Nat} {ls ls' : List (Option Value)} {st : List Value} {h : ab_H} {post : Value → ab_H → Prop} (kk : ab_R k b M pc ls' st h post) (hl : ab_le ls' ls) : ab_R k b M pc ls st h post := by
  intro B ex eA dA D p l e R s m args below meth c cm sm Q C hcm hsm hex H locs A cells slots hr hS hA h1 h2
  exact kk B ex eA dA D p l e R s m args below meth c cm sm Q C hcm hsm hex H locs A cells slots hr hS (ab_loc_le hA hl) h1 h2
theorem ab_less {k b b' : Nat} {M : ab_MK} {pc : Nat} {ls : List (Option Value)} {st : List Value} {h : ab_H} {post : Value → ab_H → Prop} (hb : b' ≤ b) (kk : ab_R k b' M pc ls st h post) : ab_R k b M pc ls st h post := by
  intro B ex eA dA D p l e R s m args below meth c cm sm Q C hcm hsm hex H locs A cells slots hr hS hA h1 h2
  exact kk B ex eA dA D p l e R s m args below meth c cm sm Q C hcm hsm hex H locs A cells slots hr hS hA (by omega) (by omega)
theorem ab_mono {k b : Nat} {M : ab_MK} {pc : Nat} {ls : List (Option Value)} {st : List Value} {h : ab_H} {post post' : Value → ab_H → Prop} (hp : ∀ v h', post v h' → post' v h') (kk : ab_R k b M pc ls st h post) : ab_R k b M pc ls st h post' := by
  intro B ex eA dA D p l e R s m args below meth c cm sm Q C hcm hsm hex H locs A cells slots hr hS hA h1 h2
  exact kk B ex eA dA D p l e R s m args below meth c cm sm Q C hcm hsm (fun pc v h H locs A cells slots a1 a2 a3 => hex pc v h H locs A cells slots a1 a2 (hp v h a3)) H locs A cells slots hr hS hA h1 h2
-- rows by program: constants, arithmetic
theorem ab_iconst {k b : Nat} {M : ab_MK} {pc : Nat} {ls : List (Option Value)} {st : List Value} {h : ab_H} {post : Value → ab_H → Prop} {n : Int} {v : Int32} (hd : decode M.2.1 pc = .ok (.iconst n, 1)) (hv : Int32.ofInt n = v := by decide) (kk : ab_R k b M (pc + 1) ls (.int v :: st) h post) : ab_R k b M pc ls ( st) h post := by
  intro B ex eA dA D p l e R s m args below meth c cm sm Q C hcm hsm hex H locs A cells slots hr hS hl h1 h2
  exact lv_iconst C.1 C.2.1 hd hv (kk B ex eA dA D p l e R s m args below meth c cm sm Q C hcm hsm hex H locs A cells slots hr hS hl h1 h2)
theorem ab_bipush {k b : Nat} {M : ab_MK} {pc : Nat} {ls : List (Option Value)} {st : List Value} {h : ab_H} {post : Value → ab_H → Prop} {n : Int} {v : Int32} (hd : decode M.2.1 pc = .ok (.bipush n, 2)) (hv : (Int8.ofInt n).toInt32 = v := by decide) (kk : ab_R k b M (pc + 2) ls (.int v :: st) h post) : ab_R k b M pc ls ( st) h post := by
  intro B ex eA dA D p l e R s m args below meth c cm sm Q C hcm hsm hex H locs A cells slots hr hS hl h1 h2
  exact lv_bipush C.1 C.2.1 hd hv (kk B ex eA dA D p l e R s m args below meth c cm sm Q C hcm hsm hex H locs A cells slots hr hS hl h1 h2)
theorem ab_sipush {k b : Nat} {M : ab_MK} {pc : Nat} {ls : List (Option Value)} {st : List Value} {h : ab_H} {post : Value → ab_H → Prop} {n : Int} {v : Int32} (hd : decode M.2.1 pc = .ok (.sipush n, 3)) (hv : (Int16.ofInt n).toInt32 = v := by decide) (kk : ab_R k b M (pc + 3) ls (.int v :: st) h post) : ab_R k b M pc ls ( st) h post := by
  intro B ex eA dA D p l e R s m args below meth c cm sm Q C hcm hsm hex H locs A cells slots hr hS hl h1 h2
  exact lv_sipush C.1 C.2.1 hd hv (kk B ex eA dA D p l e R s m args below meth c cm sm Q C hcm hsm hex H locs A cells slots hr hS hl h1 h2)
theorem ab_lconst {k b : Nat} {M : ab_MK} {pc : Nat} {ls : List (Option Value)} {st : List Value} {h : ab_H} {post : Value → ab_H → Prop} {n : Fin 2} {v : Int64} (hd : decode M.2.1 pc = .ok (.lconst n, 1)) (hv : Int64.ofNat (n : Nat) = v := by decide) (kk : ab_R k b M (pc + 1) ls (.long v :: st) h post) : ab_R k b M pc ls ( st) h post := by
  intro B ex eA dA D p l e R s m args below meth c cm sm Q C hcm hsm hex H locs A cells slots hr hS hl h1 h2
  exact lv_lconst C.1 C.2.1 hd hv (kk B ex eA dA D p l e R s m args below meth c cm sm Q C hcm hsm hex H locs A cells slots hr hS hl h1 h2)
theorem ab_fconst0 {k b : Nat} {M : ab_MK} {pc : Nat} {ls : List (Option Value)} {st : List Value} {h : ab_H} {post : Value → ab_H → Prop}  (hd : decode M.2.1 pc = .ok (.fconst 0, 1))  (kk : ab_R k b M (pc + 1) ls (.float FP.fconst0 :: st) h post) : ab_R k b M pc ls ( st) h post := by
  intro B ex eA dA D p l e R s m args below meth c cm sm Q C hcm hsm hex H locs A cells slots hr hS hl h1 h2
  exact lv_fconst0 C.1 C.2.1 hd (kk B ex eA dA D p l e R s m args below meth c cm sm Q C hcm hsm hex H locs A cells slots hr hS hl h1 h2)
theorem ab_fconst1 {k b : Nat} {M : ab_MK} {pc : Nat} {ls : List (Option Value)} {st : List Value} {h : ab_H} {post : Value → ab_H → Prop}  (hd : decode M.2.1 pc = .ok (.fconst 1, 1))  (kk : ab_R k b M (pc + 1) ls (.float FP.fconst1 :: st) h post) : ab_R k b M pc ls ( st) h post := by
  intro B ex eA dA D p l e R s m args below meth c cm sm Q C hcm hsm hex H locs A cells slots hr hS hl h1 h2
  exact lv_fconst1 C.1 C.2.1 hd (kk B ex eA dA D p l e R s m args below meth c cm sm Q C hcm hsm hex H locs A cells slots hr hS hl h1 h2)
theorem ab_fconst2 {k b : Nat} {M : ab_MK} {pc : Nat} {ls : List (Option Value)} {st : List Value} {h : ab_H} {post : Value → ab_H → Prop}  (hd : decode M.2.1 pc = .ok (.fconst 2, 1))  (kk : ab_R k b M (pc + 1) ls (.float FP.fconst2 :: st) h post) : ab_R k b M pc ls ( st) h post := by
  intro B ex eA dA D p l e R s m args below meth c cm sm Q C hcm hsm hex H locs A cells slots hr hS hl h1 h2
  exact lv_fconst2 C.1 C.2.1 hd (kk B ex eA dA D p l e R s m args below meth c cm sm Q C hcm hsm hex H locs A cells slots hr hS hl h1 h2)
theorem ab_dconst0 {k b : Nat} {M : ab_MK} {pc : Nat} {ls : List (Option Value)} {st : List Value} {h : ab_H} {post : Value → ab_H → Prop}  (hd : decode M.2.1 pc = .ok (.dconst 0, 1))  (kk : ab_R k b M (pc + 1) ls (.double FP.dconst0 :: st) h post) : ab_R k b M pc ls ( st) h post := by
  intro B ex eA dA D p l e R s m args below meth c cm sm Q C hcm hsm hex H locs A cells slots hr hS hl h1 h2
  exact lv_dconst0 C.1 C.2.1 hd (kk B ex eA dA D p l e R s m args below meth c cm sm Q C hcm hsm hex H locs A cells slots hr hS hl h1 h2)
theorem ab_dconst1 {k b : Nat} {M : ab_MK} {pc : Nat} {ls : List (Option Value)} {st : List Value} {h : ab_H} {post : Value → ab_H → Prop}  (hd : decode M.2.1 pc = .ok (.dconst 1, 1))  (kk : ab_R k b M (pc + 1) ls (.double FP.dconst1 :: st) h post) : ab_R k b M pc ls ( st) h post := by
  intro B ex eA dA D p l e R s m args below meth c cm sm Q C hcm hsm hex H locs A cells slots hr hS hl h1 h2
  exact lv_dconst1 C.1 C.2.1 hd (kk B ex eA dA D p l e R s m args below meth c cm sm Q C hcm hsm hex H locs A cells slots hr hS hl h1 h2)
theorem ab_iadd {k b : Nat} {M : ab_MK} {pc : Nat} {ls : List (Option Value)} {st : List Value} {h : ab_H} {post : Value → ab_H → Prop} {x y : Int32} (hd : decode M.2.1 pc = .ok (.iadd, 1))  (kk : ab_R k b M (pc + 1) ls (.int (x + y) :: st) h post) : ab_R k b M pc ls (.int y :: .int x :: st) h post := by
  intro B ex eA dA D p l e R s m args below meth c cm sm Q C hcm hsm hex H locs A cells slots hr hS hl h1 h2
  exact lv_iadd C.1 C.2.1 hd (kk B ex eA dA D p l e R s m args below meth c cm sm Q C hcm hsm hex H locs A cells slots hr hS hl h1 h2)
theorem ab_ladd {k b : Nat} {M : ab_MK} {pc : Nat} {ls : List (Option Value)} {st : List Value} {h : ab_H} {post : Value → ab_H → Prop} {x y : Int64} (hd : decode M.2.1 pc = .ok (.ladd, 1))  (kk : ab_R k b M (pc + 1) ls (.long (x + y) :: st) h post) : ab_R k b M pc ls (.long y :: .long x :: st) h post := by
  intro B ex eA dA D p l e R s m args below meth c cm sm Q C hcm hsm hex H locs A cells slots hr hS hl h1 h2
  exact lv_ladd C.1 C.2.1 hd (kk B ex eA dA D p l e R s m args below meth c cm sm Q C hcm hsm hex H locs A cells slots hr hS hl h1 h2)
theorem ab_isub {k b : Nat} {M : ab_MK} {pc : Nat} {ls : List (Option Value)} {st : List Value} {h : ab_H} {post : Value → ab_H → Prop} {x y : Int32} (hd : decode M.2.1 pc = .ok (.isub, 1))  (kk : ab_R k b M (pc + 1) ls (.int (x - y) :: st) h post) : ab_R k b M pc ls (.int y :: .int x :: st) h post := by
  intro B ex eA dA D p l e R s m args below meth c cm sm Q C hcm hsm hex H locs A cells slots hr hS hl h1 h2
  exact lv_isub C.1 C.2.1 hd (kk B ex eA dA D p l e R s m args below meth c cm sm Q C hcm hsm hex H locs A cells slots hr hS hl h1 h2)
theorem ab_lsub {k b : Nat} {M : ab_MK} {pc : Nat} {ls : List (Option Value)} {st : List Value} {h : ab_H} {post : Value → ab_H → Prop} {x y : Int64} (hd : decode M.2.1 pc = .ok (.lsub, 1))  (kk : ab_R k b M (pc + 1) ls (.long (x - y) :: st) h post) : ab_R k b M pc ls (.long y :: .long x :: st) h post := by
  intro B ex eA dA D p l e R s m args below meth c cm sm Q C hcm hsm hex H locs A cells slots hr hS hl h1 h2
  exact lv_lsub C.1 C.2.1 hd (kk B ex eA dA D p l e R s m args below meth c cm sm Q C hcm hsm hex H locs A cells slots hr hS hl h1 h2)
theorem ab_imul {k b : Nat} {M : ab_MK} {pc : Nat} {ls : List (Option Value)} {st : List Value} {h : ab_H} {post : Value → ab_H → Prop} {x y : Int32} (hd : decode M.2.1 pc = .ok (.imul, 1))  (kk : ab_R k b M (pc + 1) ls (.int (x * y) :: st) h post) : ab_R k b M pc ls (.int y :: .int x :: st) h post := by
  intro B ex eA dA D p l e R s m args below meth c cm sm Q C hcm hsm hex H locs A cells slots hr hS hl h1 h2
  exact lv_imul C.1 C.2.1 hd (kk B ex eA dA D p l e R s m args below meth c cm sm Q C hcm hsm hex H locs A cells slots hr hS hl h1 h2)
theorem ab_lmul {k b : Nat} {M : ab_MK} {pc : Nat} {ls : List (Option Value)} {st : List Value} {h : ab_H} {post : Value → ab_H → Prop} {x y : Int64} (hd : decode M.2.1 pc = .ok (.lmul, 1))  (kk : ab_R k b M (pc + 1) ls (.long (x * y) :: st) h post) : ab_R k b M pc ls (.long y :: .long x :: st) h post := by
  intro B ex eA dA D p l e R s m args below meth c cm sm Q C hcm hsm hex H locs A cells slots hr hS hl h1 h2
  exact lv_lmul C.1 C.2.1 hd (kk B ex eA dA D p l e R s m args below meth c cm sm Q C hcm hsm hex H locs A cells slots hr hS hl h1 h2)
theorem ab_iand {k b : Nat} {M : ab_MK} {pc : Nat} {ls : List (Option Value)} {st : List Value} {h : ab_H} {post : Value → ab_H → Prop} {x y : Int32} (hd : decode M.2.1 pc = .ok (.iand, 1))  (kk : ab_R k b M (pc + 1) ls (.int (x &&& y) :: st) h post) : ab_R k b M pc ls (.int y :: .int x :: st) h post := by
  intro B ex eA dA D p l e R s m args below meth c cm sm Q C hcm hsm hex H locs A cells slots hr hS hl h1 h2
  exact lv_iand C.1 C.2.1 hd (kk B ex eA dA D p l e R s m args below meth c cm sm Q C hcm hsm hex H locs A cells slots hr hS hl h1 h2)
theorem ab_ior {k b : Nat} {M : ab_MK} {pc : Nat} {ls : List (Option Value)} {st : List Value} {h : ab_H} {post : Value → ab_H → Prop} {x y : Int32} (hd : decode M.2.1 pc = .ok (.ior, 1))  (kk : ab_R k b M (pc + 1) ls (.int (x ||| y) :: st) h post) : ab_R k b M pc ls (.int y :: .int x :: st) h post := by
  intro B ex eA dA D p l e R s m args below meth c cm sm Q C hcm hsm hex H locs A cells slots hr hS hl h1 h2
  exact lv_ior C.1 C.2.1 hd (kk B ex eA dA D p l e R s m args below meth c cm sm Q C hcm hsm hex H locs A cells slots hr hS hl h1 h2)
theorem ab_ixor {k b : Nat} {M : ab_MK} {pc : Nat} {ls : List (Option Value)} {st : List Value} {h : ab_H} {post : Value → ab_H → Prop} {x y : Int32} (hd : decode M.2.1 pc = .ok (.ixor, 1))  (kk : ab_R k b M (pc + 1) ls (.int (x ^^^ y) :: st) h post) : ab_R k b M pc ls (.int y :: .int x :: st) h post := by
  intro B ex eA dA D p l e R s m args below meth c cm sm Q C hcm hsm hex H locs A cells slots hr hS hl h1 h2
  exact lv_ixor C.1 C.2.1 hd (kk B ex eA dA D p l e R s m args below meth c cm sm Q C hcm hsm hex H locs A cells slots hr hS hl h1 h2)
theorem ab_land {k b : Nat} {M : ab_MK} {pc : Nat} {ls : List (Option Value)} {st : List Value} {h : ab_H} {post : Value → ab_H → Prop} {x y : Int64} (hd : decode M.2.1 pc = .ok (.land, 1))  (kk : ab_R k b M (pc + 1) ls (.long (x &&& y) :: st) h post) : ab_R k b M pc ls (.long y :: .long x :: st) h post := by
  intro B ex eA dA D p l e R s m args below meth c cm sm Q C hcm hsm hex H locs A cells slots hr hS hl h1 h2
  exact lv_land C.1 C.2.1 hd (kk B ex eA dA D p l e R s m args below meth c cm sm Q C hcm hsm hex H locs A cells slots hr hS hl h1 h2)
theorem ab_idiv {k b : Nat} {M : ab_MK} {pc : Nat} {ls : List (Option Value)} {st : List Value} {h : ab_H} {post : Value → ab_H → Prop} {x y : Int32} (hd : decode M.2.1 pc = .ok (.idiv, 1)) (hne : ¬ y = 0) (kk : ab_R k b M (pc + 1) ls (.int (x / y) :: st) h post) : ab_R k b M pc ls (.int y :: .int x :: st) h post := by
  intro B ex eA dA D p l e R s m args below meth c cm sm Q C hcm hsm hex H locs A cells slots hr hS hl h1 h2
  exact lv_idiv C.1 C.2.1 hd hne (kk B ex eA dA D p l e R s m args below meth c cm sm Q C hcm hsm hex H locs A cells slots hr hS hl h1 h2)
theorem ab_irem {k b : Nat} {M : ab_MK} {pc : Nat} {ls : List (Option Value)} {st : List Value} {h : ab_H} {post : Value → ab_H → Prop} {x y : Int32} (hd : decode M.2.1 pc = .ok (.irem, 1)) (hne : ¬ y = 0) (kk : ab_R k b M (pc + 1) ls (.int (x - x / y * y) :: st) h post) : ab_R k b M pc ls (.int y :: .int x :: st) h post := by
  intro B ex eA dA D p l e R s m args below meth c cm sm Q C hcm hsm hex H locs A cells slots hr hS hl h1 h2
  exact lv_irem C.1 C.2.1 hd hne (kk B ex eA dA D p l e R s m args below meth c cm sm Q C hcm hsm hex H locs A cells slots hr hS hl h1 h2)
theorem ab_ldiv {k b : Nat} {M : ab_MK} {pc : Nat} {ls : List (Option Value)} {st : List Value} {h : ab_H} {post : Value → ab_H → Prop} {x y : Int64} (hd : decode M.2.1 pc = .ok (.ldiv, 1)) (hne : ¬ y = 0) (kk : ab_R k b M (pc + 1) ls (.long (x / y) :: st) h post) : ab_R k b M pc ls (.long y :: .long x :: st) h post := by
  intro B ex eA dA D p l e R s m args below meth c cm sm Q C hcm hsm hex H locs A cells slots hr hS hl h1 h2
  exact lv_ldiv C.1 C.2.1 hd hne (kk B ex eA dA D p l e R s m args below meth c cm sm Q C hcm hsm hex H locs A cells slots hr hS hl h1 h2)
theorem ab_lrem {k b : Nat} {M : ab_MK} {pc : Nat} {ls : List (Option Value)} {st : List Value} {h : ab_H} {post : Value → ab_H → Prop} {x y : Int64} (hd : decode M.2.1 pc = .ok (.lrem, 1)) (hne : ¬ y = 0) (kk : ab_R k b M (pc + 1) ls (.long (x - x / y * y) :: st) h post) : ab_R k b M pc ls (.long y :: .long x :: st) h post := by
  intro B ex eA dA D p l e R s m args below meth c cm sm Q C hcm hsm hex H locs A cells slots hr hS hl h1 h2
  exact lv_lrem C.1 C.2.1 hd hne (kk B ex eA dA D p l e R s m args below meth c cm sm Q C hcm hsm hex H locs A cells slots hr hS hl h1 h2)
theorem ab_ineg {k b : Nat} {M : ab_MK} {pc : Nat} {ls : List (Option Value)} {st : List Value} {h : ab_H} {post : Value → ab_H → Prop} {x : Int32} (hd : decode M.2.1 pc = .ok (.ineg, 1))  (kk : ab_R k b M (pc + 1) ls (.int (-x) :: st) h post) : ab_R k b M pc ls (.int x :: st) h post := by
  intro B ex eA dA D p l e R s m args below meth c cm sm Q C hcm hsm hex H locs A cells slots hr hS hl h1 h2
  exact lv_ineg C.1 C.2.1 hd (kk B ex eA dA D p l e R s m args below meth c cm sm Q C hcm hsm hex H locs A cells slots hr hS hl h1 h2)
theorem ab_lneg {k b : Nat} {M : ab_MK} {pc : Nat} {ls : List (Option Value)} {st : List Value} {h : ab_H} {post : Value → ab_H → Prop} {x : Int64} (hd : decode M.2.1 pc = .ok (.lneg, 1))  (kk : ab_R k b M (pc + 1) ls (.long (-x) :: st) h post) : ab_R k b M pc ls (.long x :: st) h post := by
  intro B ex eA dA D p l e R s m args below meth c cm sm Q C hcm hsm hex H locs A cells slots hr hS hl h1 h2
  exact lv_lneg C.1 C.2.1 hd (kk B ex eA dA D p l e R s m args below meth c cm sm Q C hcm hsm hex H locs A cells slots hr hS hl h1 h2)
theorem ab_ishl {k b : Nat} {M : ab_MK} {pc : Nat} {ls : List (Option Value)} {st : List Value} {h : ab_H} {post : Value → ab_H → Prop} {x y : Int32} (hd : decode M.2.1 pc = .ok (.ishl, 1))  (kk : ab_R k b M (pc + 1) ls (.int (x <<< (y &&& 31)) :: st) h post) : ab_R k b M pc ls (.int y :: .int x :: st) h post := by
  intro B ex eA dA D p l e R s m args below meth c cm sm Q C hcm hsm hex H locs A cells slots hr hS hl h1 h2
  exact lv_ishl C.1 C.2.1 hd (kk B ex eA dA D p l e R s m args below meth c cm sm Q C hcm hsm hex H locs A cells slots hr hS hl h1 h2)
theorem ab_ishr {k b : Nat} {M : ab_MK} {pc : Nat} {ls : List (Option Value)} {st : List Value} {h : ab_H} {post : Value → ab_H → Prop} {x y : Int32} (hd : decode M.2.1 pc = .ok (.ishr, 1))  (kk : ab_R k b M (pc + 1) ls (.int (x >>> (y &&& 31)) :: st) h post) : ab_R k b M pc ls (.int y :: .int x :: st) h post := by
  intro B ex eA dA D p l e R s m args below meth c cm sm Q C hcm hsm hex H locs A cells slots hr hS hl h1 h2
  exact lv_ishr C.1 C.2.1 hd (kk B ex eA dA D p l e R s m args below meth c cm sm Q C hcm hsm hex H locs A cells slots hr hS hl h1 h2)
theorem ab_iushr {k b : Nat} {M : ab_MK} {pc : Nat} {ls : List (Option Value)} {st : List Value} {h : ab_H} {post : Value → ab_H → Prop} {x y : Int32} (hd : decode M.2.1 pc = .ok (.iushr, 1))  (kk : ab_R k b M (pc + 1) ls (.int ((x.toUInt32 >>> (y.toUInt32 &&& 31)).toInt32) :: st) h post) : ab_R k b M pc ls (.int y :: .int x :: st) h post := by
  intro B ex eA dA D p l e R s m args below meth c cm sm Q C hcm hsm hex H locs A cells slots hr hS hl h1 h2
  exact lv_iushr C.1 C.2.1 hd rfl (kk B ex eA dA D p l e R s m args below meth c cm sm Q C hcm hsm hex H locs A cells slots hr hS hl h1 h2)
theorem ab_lshl {k b : Nat} {M : ab_MK} {pc : Nat} {ls : List (Option Value)} {st : List Value} {h : ab_H} {post : Value → ab_H → Prop} {x : Int64} {y : Int32} (hd : decode M.2.1 pc = .ok (.lshl, 1))  (kk : ab_R k b M (pc + 1) ls (.long (x <<< (y.toInt64 &&& 63)) :: st) h post) : ab_R k b M pc ls (.int y :: .long x :: st) h post := by
  intro B ex eA dA D p l e R s m args below meth c cm sm Q C hcm hsm hex H locs A cells slots hr hS hl h1 h2
  exact lv_lshl C.1 C.2.1 hd rfl (kk B ex eA dA D p l e R s m args below meth c cm sm Q C hcm hsm hex H locs A cells slots hr hS hl h1 h2)
theorem ab_lshr {k b : Nat} {M : ab_MK} {pc : Nat} {ls : List (Option Value)} {st : List Value} {h : ab_H} {post : Value → ab_H → Prop} {x : Int64} {y : Int32} (hd : decode M.2.1 pc = .ok (.lshr, 1))  (kk : ab_R k b M (pc + 1) ls (.long (x >>> (y.toInt64 &&& 63)) :: st) h post) : ab_R k b M pc ls (.int y :: .long x :: st) h post := by
  intro B ex eA dA D p l e R s m args below meth c cm sm Q C hcm hsm hex H locs A cells slots hr hS hl h1 h2
  exact lv_lshr C.1 C.2.1 hd rfl (kk B ex eA dA D p l e R s m args below meth c cm sm Q C hcm hsm hex H locs A cells slots hr hS hl h1 h2)
theorem ab_lushr {k b : Nat} {M : ab_MK} {pc : Nat} {ls : List (Option Value)} {st : List Value} {h : ab_H} {post : Value → ab_H → Prop} {x : Int64} {y : Int32} (hd : decode M.2.1 pc = .ok (.lushr, 1))  (kk : ab_R k b M (pc + 1) ls (.long ((x.toUInt64 >>> (y.toInt64.toUInt64 &&& 63)).toInt64) :: st) h post) : ab_R k b M pc ls (.int y :: .long x :: st) h post := by
  intro B ex eA dA D p l e R s m args below meth c cm sm Q C hcm hsm hex H locs A cells slots hr hS hl h1 h2
  exact lv_lushr C.1 C.2.1 hd rfl (kk B ex eA dA D p l e R s m args below meth c cm sm Q C hcm hsm hex H locs A cells slots hr hS hl h1 h2)
theorem ab_i2l {k b : Nat} {M : ab_MK} {pc : Nat} {ls : List (Option Value)} {st : List Value} {h : ab_H} {post : Value → ab_H → Prop} {x : Int32} (hd : decode M.2.1 pc = .ok (.i2l, 1))  (kk : ab_R k b M (pc + 1) ls (.long x.toInt64 :: st) h post) : ab_R k b M pc ls (.int x :: st) h post := by
  intro B ex eA dA D p l e R s m args below meth c cm sm Q C hcm hsm hex H locs A cells slots hr hS hl h1 h2
  exact lv_i2l C.1 C.2.1 hd rfl (kk B ex eA dA D p l e R s m args below meth c cm sm Q C hcm hsm hex H locs A cells slots hr hS hl h1 h2)
theorem ab_l2i {k b : Nat} {M : ab_MK} {pc : Nat} {ls : List (Option Value)} {st : List Value} {h : ab_H} {post : Value → ab_H → Prop} {x : Int64} (hd : decode M.2.1 pc = .ok (.l2i, 1))  (kk : ab_R k b M (pc + 1) ls (.int x.toInt32 :: st) h post) : ab_R k b M pc ls (.long x :: st) h post := by
  intro B ex eA dA D p l e R s m args below meth c cm sm Q C hcm hsm hex H locs A cells slots hr hS hl h1 h2
  exact lv_l2i C.1 C.2.1 hd rfl (kk B ex eA dA D p l e R s m args below meth c cm sm Q C hcm hsm hex H locs A cells slots hr hS hl h1 h2)
theorem ab_i2c {k b : Nat} {M : ab_MK} {pc : Nat} {ls : List (Option Value)} {st : List Value} {h : ab_H} {post : Value → ab_H → Prop} {x : Int32} (hd : decode M.2.1 pc = .ok (.i2c, 1))  (kk : ab_R k b M (pc + 1) ls (.int ((x.toUInt32 % 65536).toInt32) :: st) h post) : ab_R k b M pc ls (.int x :: st) h post := by
  intro B ex eA dA D p l e R s m args below meth c cm sm Q C hcm hsm hex H locs A cells slots hr hS hl h1 h2
  exact lv_i2c C.1 C.2.1 hd rfl (kk B ex eA dA D p l e R s m args below meth c cm sm Q C hcm hsm hex H locs A cells slots hr hS hl h1 h2)
theorem ab_l2f {k b : Nat} {M : ab_MK} {pc : Nat} {ls : List (Option Value)} {st : List Value} {h : ab_H} {post : Value → ab_H → Prop} {x : Int64} (hd : decode M.2.1 pc = .ok (.l2f, 1))  (kk : ab_R k b M (pc + 1) ls (.float (FP.l2f x) :: st) h post) : ab_R k b M pc ls (.long x :: st) h post := by
  intro B ex eA dA D p l e R s m args below meth c cm sm Q C hcm hsm hex H locs A cells slots hr hS hl h1 h2
  exact lv_l2f C.1 C.2.1 hd (kk B ex eA dA D p l e R s m args below meth c cm sm Q C hcm hsm hex H locs A cells slots hr hS hl h1 h2)
theorem ab_l2d {k b : Nat} {M : ab_MK} {pc : Nat} {ls : List (Option Value)} {st : List Value} {h : ab_H} {post : Value → ab_H → Prop} {x : Int64} (hd : decode M.2.1 pc = .ok (.l2d, 1))  (kk : ab_R k b M (pc + 1) ls (.double (FP.l2d x) :: st) h post) : ab_R k b M pc ls (.long x :: st) h post := by
  intro B ex eA dA D p l e R s m args below meth c cm sm Q C hcm hsm hex H locs A cells slots hr hS hl h1 h2
  exact lv_l2d C.1 C.2.1 hd (kk B ex eA dA D p l e R s m args below meth c cm sm Q C hcm hsm hex H locs A cells slots hr hS hl h1 h2)
theorem ab_f2i {k b : Nat} {M : ab_MK} {pc : Nat} {ls : List (Option Value)} {st : List Value} {h : ab_H} {post : Value → ab_H → Prop} {x : UInt32} (hd : decode M.2.1 pc = .ok (.f2i, 1))  (kk : ab_R k b M (pc + 1) ls (.int (FP.f2i x) :: st) h post) : ab_R k b M pc ls (.float x :: st) h post := by
  intro B ex eA dA D p l e R s m args below meth c cm sm Q C hcm hsm hex H locs A cells slots hr hS hl h1 h2
  exact lv_f2i C.1 C.2.1 hd (kk B ex eA dA D p l e R s m args below meth c cm sm Q C hcm hsm hex H locs A cells slots hr hS hl h1 h2)
theorem ab_d2l {k b : Nat} {M : ab_MK} {pc : Nat} {ls : List (Option Value)} {st : List Value} {h : ab_H} {post : Value → ab_H → Prop} {x : UInt64} (hd : decode M.2.1 pc = .ok (.d2l, 1))  (kk : ab_R k b M (pc + 1) ls (.long (FP.d2l x) :: st) h post) : ab_R k b M pc ls (.double x :: st) h post := by
  intro B ex eA dA D p l e R s m args below meth c cm sm Q C hcm hsm hex H locs A cells slots hr hS hl h1 h2
  exact lv_d2l C.1 C.2.1 hd (kk B ex eA dA D p l e R s m args below meth c cm sm Q C hcm hsm hex H locs A cells slots hr hS hl h1 h2)
theorem ab_lcmp {k b : Nat} {M : ab_MK} {pc : Nat} {ls : List (Option Value)} {st : List Value} {h : ab_H} {post : Value → ab_H → Prop} {x y : Int64} (hd : decode M.2.1 pc = .ok (.lcmp, 1))  (kk : ab_R k b M (pc + 1) ls (.int (lg_cmp x y) :: st) h post) : ab_R k b M pc ls (.long y :: .long x :: st) h post := by
  intro B ex eA dA D p l e R s m args below meth c cm sm Q C hcm hsm hex H locs A cells slots hr hS hl h1 h2
  exact W.lcmp C.1 C.2.1 hd (kk B ex eA dA D p l e R s m args below meth c cm sm Q C hcm hsm hex H locs A cells slots hr hS hl h1 h2)
theorem ab_fcmp {k b : Nat} {M : ab_MK} {pc : Nat} {ls : List (Option Value)} {st : List Value} {h : ab_H} {post : Value → ab_H → Prop} {x y : UInt32} {op : CmpOp} (hd : decode M.2.1 pc = .ok (.fcmp op, 1))  (kk : ab_R k b M (pc + 1) ls (.int (Op.cmpValue (FP.fcmp x y) op) :: st) h post) : ab_R k b M pc ls (.float y :: .float x :: st) h post := by
  intro B ex eA dA D p l e R s m args below meth c cm sm Q C hcm hsm hex H locs A cells slots hr hS hl h1 h2
  exact lv_fcmp C.1 C.2.1 hd (kk B ex eA dA D p l e R s m args below meth c cm sm Q C hcm hsm hex H locs A cells slots hr hS hl h1 h2)
theorem ab_dcmp {k b : Nat} {M : ab_MK} {pc : Nat} {ls : List (Option Value)} {st : List Value} {h : ab_H} {post : Value → ab_H → Prop} {x y : UInt64} {op : CmpOp} (hd : decode M.2.1 pc = .ok (.dcmp op, 1))  (kk : ab_R k b M (pc + 1) ls (.int (Op.cmpValue (FP.dcmp x y) op) :: st) h post) : ab_R k b M pc ls (.double y :: .double x :: st) h post := by
  intro B ex eA dA D p l e R s m args below meth c cm sm Q C hcm hsm hex H locs A cells slots hr hS hl h1 h2
  exact lv_dcmp C.1 C.2.1 hd (kk B ex eA dA D p l e R s m args below meth c cm sm Q C hcm hsm hex H locs A cells slots hr hS hl h1 h2)
theorem ab_fadd {k b : Nat} {M : ab_MK} {pc : Nat} {ls : List (Option Value)} {st : List Value} {h : ab_H} {post : Value → ab_H → Prop} {x y : UInt32} (hd : decode M.2.1 pc = .ok (.fadd, 1)) (hne : vf_n32 (FP.fadd x y)) (kk : ab_R k b M (pc + 1) ls (.float (FP.fadd x y) :: st) h post) : ab_R k b M pc ls (.float y :: .float x :: st) h post := by
  intro B ex eA dA D p l e R s m args below meth c cm sm Q C hcm hsm hex H locs A cells slots hr hS hl h1 h2
  exact lv_fadd C.1 C.2.1 hd hne (kk B ex eA dA D p l e R s m args below meth c cm sm Q C hcm hsm hex H locs A cells slots hr hS hl h1 h2)
theorem ab_dadd {k b : Nat} {M : ab_MK} {pc : Nat} {ls : List (Option Value)} {st : List Value} {h : ab_H} {post : Value → ab_H → Prop} {x y : UInt64} (hd : decode M.2.1 pc = .ok (.dadd, 1)) (hne : vf_n64 (FP.dadd x y)) (kk : ab_R k b M (pc + 1) ls (.double (FP.dadd x y) :: st) h post) : ab_R k b M pc ls (.double y :: .double x :: st) h post := by
  intro B ex eA dA D p l e R s m args below meth c cm sm Q C hcm hsm hex H locs A cells slots hr hS hl h1 h2
  exact lv_dadd C.1 C.2.1 hd hne (kk B ex eA dA D p l e R s m args below meth c cm sm Q C hcm hsm hex H locs A cells slots hr hS hl h1 h2)
theorem ab_fsub {k b : Nat} {M : ab_MK} {pc : Nat} {ls : List (Option Value)} {st : List Value} {h : ab_H} {post : Value → ab_H → Prop} {x y : UInt32} (hd : decode M.2.1 pc = .ok (.fsub, 1)) (hne : vf_n32 (FP.fsub x y)) (kk : ab_R k b M (pc + 1) ls (.float (FP.fsub x y) :: st) h post) : ab_R k b M pc ls (.float y :: .float x :: st) h post := by
  intro B ex eA dA D p l e R s m args below meth c cm sm Q C hcm hsm hex H locs A cells slots hr hS hl h1 h2
  exact lv_fsub C.1 C.2.1 hd hne (kk B ex eA dA D p l e R s m args below meth c cm sm Q C hcm hsm hex H locs A cells slots hr hS hl h1 h2)
theorem ab_dsub {k b : Nat} {M : ab_MK} {pc : Nat} {ls : List (Option Value)} {st : List Value} {h : ab_H} {post : Value → ab_H → Prop} {x y : UInt64} (hd : decode M.2.1 pc = .ok (.dsub, 1)) (hne : vf_n64 (FP.dsub x y)) (kk : ab_R k b M (pc + 1) ls (.double (FP.dsub x y) :: st) h post) : ab_R k b M pc ls (.double y :: .double x :: st) h post := by
  intro B ex eA dA D p l e R s m args below meth c cm sm Q C hcm hsm hex H locs A cells slots hr hS hl h1 h2
  exact lv_dsub C.1 C.2.1 hd hne (kk B ex eA dA D p l e R s m args below meth c cm sm Q C hcm hsm hex H locs A cells slots hr hS hl h1 h2)
theorem ab_fmul {k b : Nat} {M : ab_MK} {pc : Nat} {ls : List (Option Value)} {st : List Value} {h : ab_H} {post : Value → ab_H → Prop} {x y : UInt32} (hd : decode M.2.1 pc = .ok (.fmul, 1)) (hne : vf_n32 (FP.fmul x y)) (kk : ab_R k b M (pc + 1) ls (.float (FP.fmul x y) :: st) h post) : ab_R k b M pc ls (.float y :: .float x :: st) h post := by
  intro B ex eA dA D p l e R s m args below meth c cm sm Q C hcm hsm hex H locs A cells slots hr hS hl h1 h2
  exact lv_fmul C.1 C.2.1 hd hne (kk B ex eA dA D p l e R s m args below meth c cm sm Q C hcm hsm hex H locs A cells slots hr hS hl h1 h2)
theorem ab_dmul {k b : Nat} {M : ab_MK} {pc : Nat} {ls : List (Option Value)} {st : List Value} {h : ab_H} {post : Value → ab_H → Prop} {x y : UInt64} (hd : decode M.2.1 pc = .ok (.dmul, 1)) (hne : vf_n64 (FP.dmul x y)) (kk : ab_R k b M (pc + 1) ls (.double (FP.dmul x y) :: st) h post) : ab_R k b M pc ls (.double y :: .double x :: st) h post := by
  intro B ex eA dA D p l e R s m args below meth c cm sm Q C hcm hsm hex H locs A cells slots hr hS hl h1 h2
  exact lv_dmul C.1 C.2.1 hd hne (kk B ex eA dA D p l e R s m args below meth c cm sm Q C hcm hsm hex H locs A cells slots hr hS hl h1 h2)
theorem ab_fdiv {k b : Nat} {M : ab_MK} {pc : Nat} {ls : List (Option Value)} {st : List Value} {h : ab_H} {post : Value → ab_H → Prop} {x y : UInt32} (hd : decode M.2.1 pc = .ok (.fdiv, 1)) (hne : vf_n32 (FP.fdiv x y)) (kk : ab_R k b M (pc + 1) ls (.float (FP.fdiv x y) :: st) h post) : ab_R k b M pc ls (.float y :: .float x :: st) h post := by
  intro B ex eA dA D p l e R s m args below meth c cm sm Q C hcm hsm hex H locs A cells slots hr hS hl h1 h2
  exact lv_fdiv C.1 C.2.1 hd hne (kk B ex eA dA D p l e R s m args below meth c cm sm Q C hcm hsm hex H locs A cells slots hr hS hl h1 h2)
theorem ab_ddiv {k b : Nat} {M : ab_MK} {pc : Nat} {ls : List (Option Value)} {st : List Value} {h : ab_H} {post : Value → ab_H → Prop} {x y : UInt64} (hd : decode M.2.1 pc = .ok (.ddiv, 1)) (hne : vf_n64 (FP.ddiv x y)) (kk : ab_R k b M (pc + 1) ls (.double (FP.ddiv x y) :: st) h post) : ab_R k b M pc ls (.double y :: .double x :: st) h post := by
  intro B ex eA dA D p l e R s m args below meth c cm sm Q C hcm hsm hex H locs A cells slots hr hS hl h1 h2
  exact lv_ddiv C.1 C.2.1 hd hne (kk B ex eA dA D p l e R s m args below meth c cm sm Q C hcm hsm hex H locs A cells slots hr hS hl h1 h2)
theorem ab_ldc {k b : Nat} {M : ab_MK} {pc : Nat} {ls : List (Option Value)} {st : List Value} {h : ab_H} {post : Value → ab_H → Prop} {i : Nat} {v : Int32} (hd : decode M.2.1 pc = .ok (.ldc i, 2)) (hw : Cond.constant M.1.cls i v ∈ lw_tbl) (kk : ab_R k b M (pc + 2) ls (.int v :: st) h post) : ab_R k b M pc ls st h post := by
  intro B ex eA dA D p l e R s m args below meth c cm sm Q C hcm hsm hex H locs A cells slots hr hS hl h1 h2
  exact lv_ldc C.1 C.2.1 C.2.2.2.1 (C.2.2.2.2.1 _ (List.mem_filter.mpr ⟨hw, rfl⟩)) hd (kk B ex eA dA D p l e R s m args below meth c cm sm Q C hcm hsm hex H locs A cells slots hr hS hl h1 h2)
theorem ab_ldcw {k b : Nat} {M : ab_MK} {pc : Nat} {ls : List (Option Value)} {st : List Value} {h : ab_H} {post : Value → ab_H → Prop} {i : Nat} {v : Int32} (hd : decode M.2.1 pc = .ok (.ldc_w i, 3)) (hw : Cond.constant M.1.cls i v ∈ lw_tbl) (kk : ab_R k b M (pc + 3) ls (.int v :: st) h post) : ab_R k b M pc ls st h post := by
  intro B ex eA dA D p l e R s m args below meth c cm sm Q C hcm hsm hex H locs A cells slots hr hS hl h1 h2
  exact lv_ldcw C.1 C.2.1 C.2.2.2.1 (C.2.2.2.2.1 _ (List.mem_filter.mpr ⟨hw, rfl⟩)) hd (kk B ex eA dA D p l e R s m args below meth c cm sm Q C hcm hsm hex H locs A cells slots hr hS hl h1 h2)
theorem ab_ldcf {k b : Nat} {M : ab_MK} {pc : Nat} {ls : List (Option Value)} {st : List Value} {h : ab_H} {post : Value → ab_H → Prop} {i : Nat} {v : UInt32} (hd : decode M.2.1 pc = .ok (.ldc i, 2)) (hw : Cond.constantFloat M.1.cls i v ∈ lw_tbl) (kk : ab_R k b M (pc + 2) ls (.float v :: st) h post) : ab_R k b M pc ls st h post := by
  intro B ex eA dA D p l e R s m args below meth c cm sm Q C hcm hsm hex H locs A cells slots hr hS hl h1 h2
  exact lv_ldcf C.1 C.2.1 C.2.2.2.1 (C.2.2.2.2.1 _ (List.mem_filter.mpr ⟨hw, rfl⟩)) hd (kk B ex eA dA D p l e R s m args below meth c cm sm Q C hcm hsm hex H locs A cells slots hr hS hl h1 h2)
theorem ab_ldc2 {k b : Nat} {M : ab_MK} {pc : Nat} {ls : List (Option Value)} {st : List Value} {h : ab_H} {post : Value → ab_H → Prop} {i : Nat} {v : Int64} (hd : decode M.2.1 pc = .ok (.ldc2_w i, 3)) (hw : Cond.constantLong M.1.cls i v ∈ lw_tbl) (kk : ab_R k b M (pc + 3) ls (.long v :: st) h post) : ab_R k b M pc ls st h post := by
  intro B ex eA dA D p l e R s m args below meth c cm sm Q C hcm hsm hex H locs A cells slots hr hS hl h1 h2
  exact lv_ldc2 C.1 C.2.1 C.2.2.2.1 (C.2.2.2.2.1 _ (List.mem_filter.mpr ⟨hw, rfl⟩)) hd (kk B ex eA dA D p l e R s m args below meth c cm sm Q C hcm hsm hex H locs A cells slots hr hS hl h1 h2)
theorem ab_ldc2d {k b : Nat} {M : ab_MK} {pc : Nat} {ls : List (Option Value)} {st : List Value} {h : ab_H} {post : Value → ab_H → Prop} {i : Nat} {v : UInt64} (hd : decode M.2.1 pc = .ok (.ldc2_w i, 3)) (hw : Cond.constantDouble M.1.cls i v ∈ lw_tbl) (kk : ab_R k b M (pc + 3) ls (.double v :: st) h post) : ab_R k b M pc ls st h post := by
  intro B ex eA dA D p l e R s m args below meth c cm sm Q C hcm hsm hex H locs A cells slots hr hS hl h1 h2
  exact lv_ldc2d C.1 C.2.1 C.2.2.2.1 (C.2.2.2.2.1 _ (List.mem_filter.mpr ⟨hw, rfl⟩)) hd (kk B ex eA dA D p l e R s m args below meth c cm sm Q C hcm hsm hex H locs A cells slots hr hS hl h1 h2)
theorem ab_iload_n {k b : Nat} {M : ab_MK} {pc : Nat} {ls : List (Option Value)} {st : List Value} {h : ab_H} {post : Value → ab_H → Prop} {j : Fin 4} {x : Int32} (hd : decode M.2.1 pc = .ok (.iload_n j, 1)) (hx : ls[(j : Nat)]? = some (some (.int x))) (kk : ab_R k b M (pc + 1) ls (.int x :: st) h post) : ab_R k b M pc ls st h post := by
  intro B ex eA dA D p l e R s m args below meth c cm sm Q C hcm hsm hex H locs A cells slots hr hS hl h1 h2
  exact lv_iload_n C.1 C.2.1 hd rfl (hl.2.2.2 _ _ hx) (kk B ex eA dA D p l e R s m args below meth c cm sm Q C hcm hsm hex H locs A cells slots hr hS hl h1 h2)
theorem ab_iload {k b : Nat} {M : ab_MK} {pc : Nat} {ls : List (Option Value)} {st : List Value} {h : ab_H} {post : Value → ab_H → Prop} {j : Nat} {x : Int32} (hd : decode M.2.1 pc = .ok (.iload j, 2)) (hx : ls[j]? = some (some (.int x))) (kk : ab_R k b M (pc + 2) ls (.int x :: st) h post) : ab_R k b M pc ls st h post := by
  intro B ex eA dA D p l e R s m args below meth c cm sm Q C hcm hsm hex H locs A cells slots hr hS hl h1 h2
  exact lv_iload C.1 C.2.1 hd (hl.2.2.2 _ _ hx) (kk B ex eA dA D p l e R s m args below meth c cm sm Q C hcm hsm hex H locs A cells slots hr hS hl h1 h2)
theorem ab_lload_n {k b : Nat} {M : ab_MK} {pc : Nat} {ls : List (Option Value)} {st : List Value} {h : ab_H} {post : Value → ab_H → Prop} {j : Fin 4} {x : Int64} (hd : decode M.2.1 pc = .ok (.lload_n j, 1)) (hx : ls[(j : Nat)]? = some (some (.long x))) (kk : ab_R k b M (pc + 1) ls (.long x :: st) h post) : ab_R k b M pc ls st h post := by
  intro B ex eA dA D p l e R s m args below meth c cm sm Q C hcm hsm hex H locs A cells slots hr hS hl h1 h2
  exact lv_lload_n C.1 C.2.1 hd rfl (hl.2.2.2 _ _ hx) (kk B ex eA dA D p l e R s m args below meth c cm sm Q C hcm hsm hex H locs A cells slots hr hS hl h1 h2)
theorem ab_lload {k b : Nat} {M : ab_MK} {pc : Nat} {ls : List (Option Value)} {st : List Value} {h : ab_H} {post : Value → ab_H → Prop} {j : Nat} {x : Int64} (hd : decode M.2.1 pc = .ok (.lload j, 2)) (hx : ls[j]? = some (some (.long x))) (kk : ab_R k b M (pc + 2) ls (.long x :: st) h post) : ab_R k b M pc ls st h post := by
  intro B ex eA dA D p l e R s m args below meth c cm sm Q C hcm hsm hex H locs A cells slots hr hS hl h1 h2
  exact lv_lload C.1 C.2.1 hd (hl.2.2.2 _ _ hx) (kk B ex eA dA D p l e R s m args below meth c cm sm Q C hcm hsm hex H locs A cells slots hr hS hl h1 h2)
theorem ab_fload_n {k b : Nat} {M : ab_MK} {pc : Nat} {ls : List (Option Value)} {st : List Value} {h : ab_H} {post : Value → ab_H → Prop} {j : Fin 4} {x : UInt32} (hd : decode M.2.1 pc = .ok (.fload_n j, 1)) (hx : ls[(j : Nat)]? = some (some (.float x))) (kk : ab_R k b M (pc + 1) ls (.float x :: st) h post) : ab_R k b M pc ls st h post := by
  intro B ex eA dA D p l e R s m args below meth c cm sm Q C hcm hsm hex H locs A cells slots hr hS hl h1 h2
  exact lv_fload_n C.1 C.2.1 hd rfl (hl.2.2.2 _ _ hx) (kk B ex eA dA D p l e R s m args below meth c cm sm Q C hcm hsm hex H locs A cells slots hr hS hl h1 h2)
theorem ab_fload {k b : Nat} {M : ab_MK} {pc : Nat} {ls : List (Option Value)} {st : List Value} {h : ab_H} {post : Value → ab_H → Prop} {j : Nat} {x : UInt32} (hd : decode M.2.1 pc = .ok (.fload j, 2)) (hx : ls[j]? = some (some (.float x))) (kk : ab_R k b M (pc + 2) ls (.float x :: st) h post) : ab_R k b M pc ls st h post := by
  intro B ex eA dA D p l e R s m args below meth c cm sm Q C hcm hsm hex H locs A cells slots hr hS hl h1 h2
  exact lv_fload C.1 C.2.1 hd (hl.2.2.2 _ _ hx) (kk B ex eA dA D p l e R s m args below meth c cm sm Q C hcm hsm hex H locs A cells slots hr hS hl h1 h2)
theorem ab_dload_n {k b : Nat} {M : ab_MK} {pc : Nat} {ls : List (Option Value)} {st : List Value} {h : ab_H} {post : Value → ab_H → Prop} {j : Fin 4} {x : UInt64} (hd : decode M.2.1 pc = .ok (.dload_n j, 1)) (hx : ls[(j : Nat)]? = some (some (.double x))) (kk : ab_R k b M (pc + 1) ls (.double x :: st) h post) : ab_R k b M pc ls st h post := by
  intro B ex eA dA D p l e R s m args below meth c cm sm Q C hcm hsm hex H locs A cells slots hr hS hl h1 h2
  exact lv_dload_n C.1 C.2.1 hd rfl (hl.2.2.2 _ _ hx) (kk B ex eA dA D p l e R s m args below meth c cm sm Q C hcm hsm hex H locs A cells slots hr hS hl h1 h2)
theorem ab_dload {k b : Nat} {M : ab_MK} {pc : Nat} {ls : List (Option Value)} {st : List Value} {h : ab_H} {post : Value → ab_H → Prop} {j : Nat} {x : UInt64} (hd : decode M.2.1 pc = .ok (.dload j, 2)) (hx : ls[j]? = some (some (.double x))) (kk : ab_R k b M (pc + 2) ls (.double x :: st) h post) : ab_R k b M pc ls st h post := by
  intro B ex eA dA D p l e R s m args below meth c cm sm Q C hcm hsm hex H locs A cells slots hr hS hl h1 h2
  exact lv_dload C.1 C.2.1 hd (hl.2.2.2 _ _ hx) (kk B ex eA dA D p l e R s m args below meth c cm sm Q C hcm hsm hex H locs A cells slots hr hS hl h1 h2)
theorem ab_aload_n {k b : Nat} {M : ab_MK} {pc : Nat} {ls : List (Option Value)} {st : List Value} {h : ab_H} {post : Value → ab_H → Prop} {j : Fin 4} {x : Nat} (hd : decode M.2.1 pc = .ok (.aload_n j, 1)) (hx : ls[(j : Nat)]? = some (some (.ref x))) (kk : ab_R k b M (pc + 1) ls (.ref x :: st) h post) : ab_R k b M pc ls st h post := by
  intro B ex eA dA D p l e R s m args below meth c cm sm Q C hcm hsm hex H locs A cells slots hr hS hl h1 h2
  have hx := hl.2.2.2 _ _ hx
  have kk := kk B ex eA dA D p l e R s m args below meth c cm sm Q C hcm hsm hex H locs A cells slots hr hS hl h1 h2
  by_cases h0 : x = 0
  · subst h0
    exact lv_aload_nN C.1 C.2.1 hd rfl hx kk
  · have e9 : ab_vv B ex (.ref x) = .ref (ab_sg B ex x) := ab_rf_pos h0
    rw [List.map_cons, e9] at kk
    rw [e9] at hx
    exact lv_aload_n C.1 C.2.1 hd rfl hx kk
theorem ab_aload {k b : Nat} {M : ab_MK} {pc : Nat} {ls : List (Option Value)} {st : List Value} {h : ab_H} {post : Value → ab_H → Prop} {j : Nat} {x : Nat} (hd : decode M.2.1 pc = .ok (.aload j, 2)) (hx : ls[(j : Nat)]? = some (some (.ref x))) (kk : ab_R k b M (pc + 2) ls (.ref x :: st) h post) : ab_R k b M pc ls st h post := by
  intro B ex eA dA D p l e R s m args below meth c cm sm Q C hcm hsm hex H locs A cells slots hr hS hl h1 h2
  have hx := hl.2.2.2 _ _ hx
  have kk := kk B ex eA dA D p l e R s m args below meth c cm sm Q C hcm hsm hex H locs A cells slots hr hS hl h1 h2
  by_cases h0 : x = 0
  · subst h0
    exact lv_aloadN C.1 C.2.1 hd hx kk
  · have e9 : ab_vv B ex (.ref x) = .ref (ab_sg B ex x) := ab_rf_pos h0
    rw [List.map_cons, e9] at kk
    rw [e9] at hx
    exact lv_aload C.1 C.2.1 hd hx kk
theorem ab_istore_n {k b : Nat} {M : ab_MK} {pc : Nat} {ls : List (Option Value)} {st : List Value} {h : ab_H} {post : Value → ab_H → Prop} {j : Fin 4} {x : Int32} (hd : decode M.2.1 pc = .ok (.istore_n j, 1)) (hj : (j : Nat) < M.2.2.1) (kk : ab_R k b M (pc + 1) (ab_st1 ls j (.int x)) st h post) : ab_R k b M pc ls (.int x :: st) h post := by
  intro B ex eA dA D p l e R s m args below meth c cm sm Q C hcm hsm hex H locs A cells slots hr hS hl h1 h2
  exact lv_istore_n C.1 C.2.1 hd rfl (ab_al_has hl) hj rfl (fun A' hA => kk B ex eA dA D p l e R s m args below meth c cm sm Q C hcm hsm hex H locs A' cells slots hr hS (ab_st1_loc hl rfl hA) h1 h2)
theorem ab_istore {k b : Nat} {M : ab_MK} {pc : Nat} {ls : List (Option Value)} {st : List Value} {h : ab_H} {post : Value → ab_H → Prop} {j : Nat} {x : Int32} (hd : decode M.2.1 pc = .ok (.istore j, 2)) (hj : (j : Nat) < M.2.2.1) (kk : ab_R k b M (pc + 2) (ab_st1 ls j (.int x)) st h post) : ab_R k b M pc ls (.int x :: st) h post := by
  intro B ex eA dA D p l e R s m args below meth c cm sm Q C hcm hsm hex H locs A cells slots hr hS hl h1 h2
  exact lv_istore C.1 C.2.1 hd (ab_al_has hl) hj rfl (fun A' hA => kk B ex eA dA D p l e R s m args below meth c cm sm Q C hcm hsm hex H locs A' cells slots hr hS (ab_st1_loc hl rfl hA) h1 h2)
theorem ab_fstore_n {k b : Nat} {M : ab_MK} {pc : Nat} {ls : List (Option Value)} {st : List Value} {h : ab_H} {post : Value → ab_H → Prop} {j : Fin 4} {x : UInt32} (hd : decode M.2.1 pc = .ok (.fstore_n j, 1)) (hj : (j : Nat) < M.2.2.1) (kk : ab_R k b M (pc + 1) (ab_st1 ls j (.float x)) st h post) : ab_R k b M pc ls (.float x :: st) h post := by
  intro B ex eA dA D p l e R s m args below meth c cm sm Q C hcm hsm hex H locs A cells slots hr hS hl h1 h2
  exact lv_fstore_n C.1 C.2.1 hd rfl (ab_al_has hl) hj rfl (fun A' hA => kk B ex eA dA D p l e R s m args below meth c cm sm Q C hcm hsm hex H locs A' cells slots hr hS (ab_st1_loc hl rfl hA) h1 h2)
theorem ab_fstore {k b : Nat} {M : ab_MK} {pc : Nat} {ls : List (Option Value)} {st : List Value} {h : ab_H} {post : Value → ab_H → Prop} {j : Nat} {x : UInt32} (hd : decode M.2.1 pc = .ok (.fstore j, 2)) (hj : (j : Nat) < M.2.2.1) (kk : ab_R k b M (pc + 2) (ab_st1 ls j (.float x)) st h post) : ab_R k b M pc ls (.float x :: st) h post := by
  intro B ex eA dA D p l e R s m args below meth c cm sm Q C hcm hsm hex H locs A cells slots hr hS hl h1 h2
  exact lv_fstore C.1 C.2.1 hd (ab_al_has hl) hj rfl (fun A' hA => kk B ex eA dA D p l e R s m args below meth c cm sm Q C hcm hsm hex H locs A' cells slots hr hS (ab_st1_loc hl rfl hA) h1 h2)
theorem ab_lstore_n {k b : Nat} {M : ab_MK} {pc : Nat} {ls : List (Option Value)} {st : List Value} {h : ab_H} {post : Value → ab_H → Prop} {j : Fin 4} {x : Int64} (hd : decode M.2.1 pc = .ok (.lstore_n j, 1)) (hj : (j : Nat) + 1 < M.2.2.1) (kk : ab_R k b M (pc + 1) (ab_st2 ls j (.long x)) st h post) : ab_R k b M pc ls (.long x :: st) h post := by
  intro B ex eA dA D p l e R s m args below meth c cm sm Q C hcm hsm hex H locs A cells slots hr hS hl h1 h2
  exact lv_lstore_n C.1 C.2.1 hd rfl (ab_al_has hl) hj rfl (fun A' hA => kk B ex eA dA D p l e R s m args below meth c cm sm Q C hcm hsm hex H locs A' cells slots hr hS (ab_st2_loc hl rfl hA) h1 h2)
theorem ab_lstore {k b : Nat} {M : ab_MK} {pc : Nat} {ls : List (Option Value)} {st : List Value} {h : ab_H} {post : Value → ab_H → Prop} {j : Nat} {x : Int64} (hd : decode M.2.1 pc = .ok (.lstore j, 2)) (hj : (j : Nat) + 1 < M.2.2.1) (kk : ab_R k b M (pc + 2) (ab_st2 ls j (.long x)) st h post) : ab_R k b M pc ls (.long x :: st) h post := by
  intro B ex eA dA D p l e R s m args below meth c cm sm Q C hcm hsm hex H locs A cells slots hr hS hl h1 h2
  exact lv_lstore C.1 C.2.1 hd (ab_al_has hl) hj rfl (fun A' hA => kk B ex eA dA D p l e R s m args below meth c cm sm Q C hcm hsm hex H locs A' cells slots hr hS (ab_st2_loc hl rfl hA) h1 h2)
theorem ab_dstore_n {k b : Nat} {M : ab_MK} {pc : Nat} {ls : List (Option Value)} {st : List Value} {h : ab_H} {post : Value → ab_H → Prop} {j : Fin 4} {x : UInt64} (hd : decode M.2.1 pc = .ok (.dstore_n j, 1)) (hj : (j : Nat) + 1 < M.2.2.1) (kk : ab_R k b M (pc + 1) (ab_st2 ls j (.double x)) st h post) : ab_R k b M pc ls (.double x :: st) h post := by
  intro B ex eA dA D p l e R s m args below meth c cm sm Q C hcm hsm hex H locs A cells slots hr hS hl h1 h2
  exact lv_dstore_n C.1 C.2.1 hd rfl (ab_al_has hl) hj rfl (fun A' hA => kk B ex eA dA D p l e R s m args below meth c cm sm Q C hcm hsm hex H locs A' cells slots hr hS (ab_st2_loc hl rfl hA) h1 h2)
theorem ab_dstore {k b : Nat} {M : ab_MK} {pc : Nat} {ls : List (Option Value)} {st : List Value} {h : ab_H} {post : Value → ab_H → Prop} {j : Nat} {x : UInt64} (hd : decode M.2.1 pc = .ok (.dstore j, 2)) (hj : (j : Nat) + 1 < M.2.2.1) (kk : ab_R k b M (pc + 2) (ab_st2 ls j (.double x)) st h post) : ab_R k b M pc ls (.double x :: st) h post := by
  intro B ex eA dA D p l e R s m args below meth c cm sm Q C hcm hsm hex H locs A cells slots hr hS hl h1 h2
  exact lv_dstore C.1 C.2.1 hd (ab_al_has hl) hj rfl (fun A' hA => kk B ex eA dA D p l e R s m args below meth c cm sm Q C hcm hsm hex H locs A' cells slots hr hS (ab_st2_loc hl rfl hA) h1 h2)
theorem ab_astore_n {k b : Nat} {M : ab_MK} {pc : Nat} {ls : List (Option Value)} {st : List Value} {h : ab_H} {post : Value → ab_H → Prop} {j : Fin 4} {x : Nat} (hd : decode M.2.1 pc = .ok (.astore_n j, 1)) (hj : (j : Nat) < M.2.2.1) (kk : ab_R k b M (pc + 1) (ab_st1 ls j (.ref x)) st h post) : ab_R k b M pc ls (.ref x :: st) h post := by
  intro B ex eA dA D p l e R s m args below meth c cm sm Q C hcm hsm hex H locs A cells slots hr hS hl h1 h2
  by_cases h0 : x = 0
  · subst h0
    exact lv_astore_nN C.1 C.2.1 hd rfl (ab_al_has hl) hj rfl (fun A' hA => kk B ex eA dA D p l e R s m args below meth c cm sm Q C hcm hsm hex H locs A' cells slots hr hS (ab_st1_loc (v := .ref 0) hl rfl hA) h1 h2)
  · have e9 : ab_vv B ex (.ref x) = .ref (ab_sg B ex x) := ab_rf_pos h0
    rw [List.map_cons, e9]
    exact lv_astore_n C.1 C.2.1 hd rfl (ab_al_has hl) hj rfl (fun A' hA => kk B ex eA dA D p l e R s m args below meth c cm sm Q C hcm hsm hex H locs A' cells slots hr hS (ab_st1_loc (v := .ref x) hl rfl (by rw [e9]; exact hA)) h1 h2)
theorem ab_astore {k b : Nat} {M : ab_MK} {pc : Nat} {ls : List (Option Value)} {st : List Value} {h : ab_H} {post : Value → ab_H → Prop} {j : Nat} {x : Nat} (hd : decode M.2.1 pc = .ok (.astore j, 2)) (hj : (j : Nat) < M.2.2.1) (kk : ab_R k b M (pc + 2) (ab_st1 ls j (.ref x)) st h post) : ab_R k b M pc ls (.ref x :: st) h post := by
  intro B ex eA dA D p l e R s m args below meth c cm sm Q C hcm hsm hex H locs A cells slots hr hS hl h1 h2
  by_cases h0 : x = 0
  · subst h0
    exact lv_astoreN C.1 C.2.1 hd (ab_al_has hl) hj rfl (fun A' hA => kk B ex eA dA D p l e R s m args below meth c cm sm Q C hcm hsm hex H locs A' cells slots hr hS (ab_st1_loc (v := .ref 0) hl rfl hA) h1 h2)
  · have e9 : ab_vv B ex (.ref x) = .ref (ab_sg B ex x) := ab_rf_pos h0
    rw [List.map_cons, e9]
    exact lv_astore C.1 C.2.1 hd (ab_al_has hl) hj rfl (fun A' hA => kk B ex eA dA D p l e R s m args below meth c cm sm Q C hcm hsm hex H locs A' cells slots hr hS (ab_st1_loc (v := .ref x) hl rfl (by rw [e9]; exact hA)) h1 h2)
theorem ab_iinc {k b : Nat} {M : ab_MK} {pc : Nat} {ls : List (Option Value)} {st : List Value} {h : ab_H} {post : Value → ab_H → Prop} {j : Nat} {n : Int} {x y : Int32} (hd : decode M.2.1 pc = .ok (.iinc j n, 3)) (hx : ls[j]? = some (some (.int x))) (hy : x + Int32.ofInt n = y) (kk : ab_R k b M (pc + 3) (ab_st1 ls j (.int y)) st h post) : ab_R k b M pc ls st h post := by
  intro B ex eA dA D p l e R s m args below meth c cm sm Q C hcm hsm hex H locs A cells slots hr hS hl h1 h2
  have hj : j < M.2.2.1 := by rw [← hl.2.1]; exact (List.getElem?_eq_some_iff.mp hx).1
  obtain ⟨i, hi⟩ := List.mem_iff_getElem?.mp (ab_al_mem.mpr ⟨_, hx, rfl⟩ : (j, ab_vv B ex (.int x)) ∈ ab_al B ex ls)
  exact lv_iinc C.1 C.2.1 hd (ab_al_has hl) hi hy hj rfl (fun A' hA => kk B ex eA dA D p l e R s m args below meth c cm sm Q C hcm hsm hex H locs A' cells slots hr hS (ab_st1_loc hl rfl hA) h1 h2)
theorem ab_if_eq {k b : Nat} {M : ab_MK} {pc : Nat} {ls : List (Option Value)} {st : List Value} {h : ab_H} {post : Value → ab_H → Prop} {x : Int32} {off : Int} (tgt : Nat) (hd : decode M.2.1 pc = .ok (.ifCond .eq off, 3)) (ht : (pc : Int) + off = (tgt : Int)) (kt : x = 0 → ab_R k b M tgt ls st h post) (kf : ¬ (x = 0) → ab_R k b M (pc + 3) ls st h post) : ab_R k b M pc ls (.int x :: st) h post := by
  intro B ex eA dA D p l e R s m args below meth c cm sm Q C hcm hsm hex H locs A cells slots hr hS hl h1 h2
  exact lv_if_eq C.1 C.2.1 hd ht (fun q => kt q B ex eA dA D p l e R s m args below meth c cm sm Q C hcm hsm hex H locs A cells slots hr hS hl h1 h2) (fun q => kf q B ex eA dA D p l e R s m args below meth c cm sm Q C hcm hsm hex H locs A cells slots hr hS hl h1 h2)
theorem ab_icmp_eq {k b : Nat} {M : ab_MK} {pc : Nat} {ls : List (Option Value)} {st : List Value} {h : ab_H} {post : Value → ab_H → Prop} {x y : Int32} {off : Int} (tgt : Nat) (hd : decode M.2.1 pc = .ok (.if_icmp .eq off, 3)) (ht : (pc : Int) + off = (tgt : Int)) (kt : x = y → ab_R k b M tgt ls st h post) (kf : ¬ (x = y) → ab_R k b M (pc + 3) ls st h post) : ab_R k b M pc ls (.int y :: .int x :: st) h post := by
  intro B ex eA dA D p l e R s m args below meth c cm sm Q C hcm hsm hex H locs A cells slots hr hS hl h1 h2
  exact lv_icmp_eq C.1 C.2.1 hd ht (fun q => kt q B ex eA dA D p l e R s m args below meth c cm sm Q C hcm hsm hex H locs A cells slots hr hS hl h1 h2) (fun q => kf q B ex eA dA D p l e R s m args below meth c cm sm Q C hcm hsm hex H locs A cells slots hr hS hl h1 h2)
theorem ab_if_ne {k b : Nat} {M : ab_MK} {pc : Nat} {ls : List (Option Value)} {st : List Value} {h : ab_H} {post : Value → ab_H → Prop} {x : Int32} {off : Int} (tgt : Nat) (hd : decode M.2.1 pc = .ok (.ifCond .ne off, 3)) (ht : (pc : Int) + off = (tgt : Int)) (kt : ¬ x = 0 → ab_R k b M tgt ls st h post) (kf : x = 0 → ab_R k b M (pc + 3) ls st h post) : ab_R k b M pc ls (.int x :: st) h post := by
  intro B ex eA dA D p l e R s m args below meth c cm sm Q C hcm hsm hex H locs A cells slots hr hS hl h1 h2
  exact lv_if_ne C.1 C.2.1 hd ht (fun q => kt q B ex eA dA D p l e R s m args below meth c cm sm Q C hcm hsm hex H locs A cells slots hr hS hl h1 h2) (fun q => kf q B ex eA dA D p l e R s m args below meth c cm sm Q C hcm hsm hex H locs A cells slots hr hS hl h1 h2)
theorem ab_icmp_ne {k b : Nat} {M : ab_MK} {pc : Nat} {ls : List (Option Value)} {st : List Value} {h : ab_H} {post : Value → ab_H → Prop} {x y : Int32} {off : Int} (tgt : Nat) (hd : decode M.2.1 pc = .ok (.if_icmp .ne off, 3)) (ht : (pc : Int) + off = (tgt : Int)) (kt : ¬ x = y → ab_R k b M tgt ls st h post) (kf : x = y → ab_R k b M (pc + 3) ls st h post) : ab_R k b M pc ls (.int y :: .int x :: st) h post := by
  intro B ex eA dA D p l e R s m args below meth c cm sm Q C hcm hsm hex H locs A cells slots hr hS hl h1 h2
  exact lv_icmp_ne C.1 C.2.1 hd ht (fun q => kt q B ex eA dA D p l e R s m args below meth c cm sm Q C hcm hsm hex H locs A cells slots hr hS hl h1 h2) (fun q => kf q B ex eA dA D p l e R s m args below meth c cm sm Q C hcm hsm hex H locs A cells slots hr hS hl h1 h2)
theorem ab_if_lt {k b : Nat} {M : ab_MK} {pc : Nat} {ls : List (Option Value)} {st : List Value} {h : ab_H} {post : Value → ab_H → Prop} {x : Int32} {off : Int} (tgt : Nat) (hd : decode M.2.1 pc = .ok (.ifCond .lt off, 3)) (ht : (pc : Int) + off = (tgt : Int)) (kt : x < 0 → ab_R k b M tgt ls st h post) (kf : ¬ (x < 0) → ab_R k b M (pc + 3) ls st h post) : ab_R k b M pc ls (.int x :: st) h post := by
  intro B ex eA dA D p l e R s m args below meth c cm sm Q C hcm hsm hex H locs A cells slots hr hS hl h1 h2
  exact lv_if_lt C.1 C.2.1 hd ht (fun q => kt q B ex eA dA D p l e R s m args below meth c cm sm Q C hcm hsm hex H locs A cells slots hr hS hl h1 h2) (fun q => kf q B ex eA dA D p l e R s m args below meth c cm sm Q C hcm hsm hex H locs A cells slots hr hS hl h1 h2)
theorem ab_icmp_lt {k b : Nat} {M : ab_MK} {pc : Nat} {ls : List (Option Value)} {st : List Value} {h : ab_H} {post : Value → ab_H → Prop} {x y : Int32} {off : Int} (tgt : Nat) (hd : decode M.2.1 pc = .ok (.if_icmp .lt off, 3)) (ht : (pc : Int) + off = (tgt : Int)) (kt : x < y → ab_R k b M tgt ls st h post) (kf : ¬ (x < y) → ab_R k b M (pc + 3) ls st h post) : ab_R k b M pc ls (.int y :: .int x :: st) h post := by
  intro B ex eA dA D p l e R s m args below meth c cm sm Q C hcm hsm hex H locs A cells slots hr hS hl h1 h2
  exact lv_icmp_lt C.1 C.2.1 hd ht (fun q => kt q B ex eA dA D p l e R s m args below meth c cm sm Q C hcm hsm hex H locs A cells slots hr hS hl h1 h2) (fun q => kf q B ex eA dA D p l e R s m args below meth c cm sm Q C hcm hsm hex H locs A cells slots hr hS hl h1 h2)
theorem ab_if_ge {k b : Nat} {M : ab_MK} {pc : Nat} {ls : List (Option Value)} {st : List Value} {h : ab_H} {post : Value → ab_H → Prop} {x : Int32} {off : Int} (tgt : Nat) (hd : decode M.2.1 pc = .ok (.ifCond .ge off, 3)) (ht : (pc : Int) + off = (tgt : Int)) (kt : 0 ≤ x → ab_R k b M tgt ls st h post) (kf : ¬ (0 ≤ x) → ab_R k b M (pc + 3) ls st h post) : ab_R k b M pc ls (.int x :: st) h post := by
  intro B ex eA dA D p l e R s m args below meth c cm sm Q C hcm hsm hex H locs A cells slots hr hS hl h1 h2
  exact lv_if_ge C.1 C.2.1 hd ht (fun q => kt q B ex eA dA D p l e R s m args below meth c cm sm Q C hcm hsm hex H locs A cells slots hr hS hl h1 h2) (fun q => kf q B ex eA dA D p l e R s m args below meth c cm sm Q C hcm hsm hex H locs A cells slots hr hS hl h1 h2)
theorem ab_icmp_ge {k b : Nat} {M : ab_MK} {pc : Nat} {ls : List (Option Value)} {st : List Value} {h : ab_H} {post : Value → ab_H → Prop} {x y : Int32} {off : Int} (tgt : Nat) (hd : decode M.2.1 pc = .ok (.if_icmp .ge off, 3)) (ht : (pc : Int) + off = (tgt : Int)) (kt : y ≤ x → ab_R k b M tgt ls st h post) (kf : ¬ (y ≤ x) → ab_R k b M (pc + 3) ls st h post) : ab_R k b M pc ls (.int y :: .int x :: st) h post := by
  intro B ex eA dA D p l e R s m args below meth c cm sm Q C hcm hsm hex H locs A cells slots hr hS hl h1 h2
  exact lv_icmp_ge C.1 C.2.1 hd ht (fun q => kt q B ex eA dA D p l e R s m args below meth c cm sm Q C hcm hsm hex H locs A cells slots hr hS hl h1 h2) (fun q => kf q B ex eA dA D p l e R s m args below meth c cm sm Q C hcm hsm hex H locs A cells slots hr hS hl h1 h2)
theorem ab_if_gt {k b : Nat} {M : ab_MK} {pc : Nat} {ls : List (Option Value)} {st : List Value} {h : ab_H} {post : Value → ab_H → Prop} {x : Int32} {off : Int} (tgt : Nat) (hd : decode M.2.1 pc = .ok (.ifCond .gt off, 3)) (ht : (pc : Int) + off = (tgt : Int)) (kt : 0 < x → ab_R k b M tgt ls st h post) (kf : ¬ (0 < x) → ab_R k b M (pc + 3) ls st h post) : ab_R k b M pc ls (.int x :: st) h post := by
  intro B ex eA dA D p l e R s m args below meth c cm sm Q C hcm hsm hex H locs A cells slots hr hS hl h1 h2
  exact lv_if_gt C.1 C.2.1 hd ht (fun q => kt q B ex eA dA D p l e R s m args below meth c cm sm Q C hcm hsm hex H locs A cells slots hr hS hl h1 h2) (fun q => kf q B ex eA dA D p l e R s m args below meth c cm sm Q C hcm hsm hex H locs A cells slots hr hS hl h1 h2)
theorem ab_icmp_gt {k b : Nat} {M : ab_MK} {pc : Nat} {ls : List (Option Value)} {st : List Value} {h : ab_H} {post : Value → ab_H → Prop} {x y : Int32} {off : Int} (tgt : Nat) (hd : decode M.2.1 pc = .ok (.if_icmp .gt off, 3)) (ht : (pc : Int) + off = (tgt : Int)) (kt : y < x → ab_R k b M tgt ls st h post) (kf : ¬ (y < x) → ab_R k b M (pc + 3) ls st h post) : ab_R k b M pc ls (.int y :: .int x :: st) h post := by
  intro B ex eA dA D p l e R s m args below meth c cm sm Q C hcm hsm hex H locs A cells slots hr hS hl h1 h2
  exact lv_icmp_gt C.1 C.2.1 hd ht (fun q => kt q B ex eA dA D p l e R s m args below meth c cm sm Q C hcm hsm hex H locs A cells slots hr hS hl h1 h2) (fun q => kf q B ex eA dA D p l e R s m args below meth c cm sm Q C hcm hsm hex H locs A cells slots hr hS hl h1 h2)
theorem ab_if_le {k b : Nat} {M : ab_MK} {pc : Nat} {ls : List (Option Value)} {st : List Value} {h : ab_H} {post : Value → ab_H → Prop} {x : Int32} {off : Int} (tgt : Nat) (hd : decode M.2.1 pc = .ok (.ifCond .le off, 3)) (ht : (pc : Int) + off = (tgt : Int)) (kt : x ≤ 0 → ab_R k b M tgt ls st h post) (kf : ¬ (x ≤ 0) → ab_R k b M (pc + 3) ls st h post) : ab_R k b M pc ls (.int x :: st) h post := by
  intro B ex eA dA D p l e R s m args below meth c cm sm Q C hcm hsm hex H locs A cells slots hr hS hl h1 h2
  exact lv_if_le C.1 C.2.1 hd ht (fun q => kt q B ex eA dA D p l e R s m args below meth c cm sm Q C hcm hsm hex H locs A cells slots hr hS hl h1 h2) (fun q => kf q B ex eA dA D p l e R s m args below meth c cm sm Q C hcm hsm hex H locs A cells slots hr hS hl h1 h2)
theorem ab_icmp_le {k b : Nat} {M : ab_MK} {pc : Nat} {ls : List (Option Value)} {st : List Value} {h : ab_H} {post : Value → ab_H → Prop} {x y : Int32} {off : Int} (tgt : Nat) (hd : decode M.2.1 pc = .ok (.if_icmp .le off, 3)) (ht : (pc : Int) + off = (tgt : Int)) (kt : x ≤ y → ab_R k b M tgt ls st h post) (kf : ¬ (x ≤ y) → ab_R k b M (pc + 3) ls st h post) : ab_R k b M pc ls (.int y :: .int x :: st) h post := by
  intro B ex eA dA D p l e R s m args below meth c cm sm Q C hcm hsm hex H locs A cells slots hr hS hl h1 h2
  exact lv_icmp_le C.1 C.2.1 hd ht (fun q => kt q B ex eA dA D p l e R s m args below meth c cm sm Q C hcm hsm hex H locs A cells slots hr hS hl h1 h2) (fun q => kf q B ex eA dA D p l e R s m args below meth c cm sm Q C hcm hsm hex H locs A cells slots hr hS hl h1 h2)
theorem ab_goto {k b : Nat} {M : ab_MK} {pc : Nat} {ls : List (Option Value)} {st : List Value} {h : ab_H} {post : Value → ab_H → Prop} {off : Int} (tgt : Nat) (hd : decode M.2.1 pc = .ok (.goto off, 3)) (ht : (pc : Int) + off = (tgt : Int)) (kk : ab_R k b M tgt ls st h post) : ab_R k b M pc ls st h post := by
  intro B ex eA dA D p l e R s m args below meth c cm sm Q C hcm hsm hex H locs A cells slots hr hS hl h1 h2
  exact lv_goto C.1 C.2.1 hd ht (kk B ex eA dA D p l e R s m args below meth c cm sm Q C hcm hsm hex H locs A cells slots hr hS hl h1 h2)
theorem ab_tableIn {k b : Nat} {M : ab_MK} {pc : Nat} {ls : List (Option Value)} {st : List Value} {h : ab_H} {post : Value → ab_H → Prop} {dflt lo hi : Int} {offs : Array Int} {len : Nat} {x : Int32} {off : Int} (tgt : Nat) (hd : decode M.2.1 pc = .ok (.tableswitch dflt lo hi offs, len)) (h3 : ¬ x.toInt < lo) (h4 : ¬ hi < x.toInt) (ho : offs[(x.toInt - lo).toNat]? = some off) (ht : (pc : Int) + off = (tgt : Int)) (kk : ab_R k b M tgt ls st h post) : ab_R k b M pc ls (.int x :: st) h post := by
  intro B ex eA dA D p l e R s m args below meth c cm sm Q C hcm hsm hex H locs A cells slots hr hS hl h1 h2
  exact lv_tableIn C.1 C.2.1 hd h3 h4 ho ht (kk B ex eA dA D p l e R s m args below meth c cm sm Q C hcm hsm hex H locs A cells slots hr hS hl h1 h2)
theorem ab_tableOut {k b : Nat} {M : ab_MK} {pc : Nat} {ls : List (Option Value)} {st : List Value} {h : ab_H} {post : Value → ab_H → Prop} {dflt lo hi : Int} {offs : Array Int} {len : Nat} {x : Int32} (tgt : Nat) (hd : decode M.2.1 pc = .ok (.tableswitch dflt lo hi offs, len)) (h3 : x.toInt < lo ∨ hi < x.toInt) (ht : (pc : Int) + dflt = (tgt : Int)) (kk : ab_R k b M tgt ls st h post) : ab_R k b M pc ls (.int x :: st) h post := by
  intro B ex eA dA D p l e R s m args below meth c cm sm Q C hcm hsm hex H locs A cells slots hr hS hl h1 h2
  exact lv_tableOut C.1 C.2.1 hd h3 ht (kk B ex eA dA D p l e R s m args below meth c cm sm Q C hcm hsm hex H locs A cells slots hr hS hl h1 h2)
theorem ab_lookup {k b : Nat} {M : ab_MK} {pc : Nat} {ls : List (Option Value)} {st : List Value} {h : ab_H} {post : Value → ab_H → Prop} {dflt : Int} {ps : Array (Int × Int)} {len : Nat} {x : Int32} {off : Int} (tgt : Nat) (hd : decode M.2.1 pc = .ok (.lookupswitch dflt ps, len)) (hp : (ps.toList.zip (ps.toList.drop 1)).all (fun (a, next) => a.1 < next.1) = true) (ho : Op.lookupswitch.offset ps.toList dflt x.toInt = off) (ht : (pc : Int) + off = (tgt : Int)) (kk : ab_R k b M tgt ls st h post) : ab_R k b M pc ls (.int x :: st) h post := by
  intro B ex eA dA D p l e R s m args below meth c cm sm Q C hcm hsm hex H locs A cells slots hr hS hl h1 h2
  exact lv_lookup C.1 C.2.1 hd hp ho ht (kk B ex eA dA D p l e R s m args below meth c cm sm Q C hcm hsm hex H locs A cells slots hr hS hl h1 h2)
theorem ab_null {k b : Nat} {M : ab_MK} {pc : Nat} {ls : List (Option Value)} {st : List Value} {h : ab_H} {post : Value → ab_H → Prop}  (hd : decode M.2.1 pc = .ok (.aconst_null, 1))  (kk : ab_R k b M (pc + 1) ls (.ref 0 :: st) h post) : ab_R k b M pc ls ( st) h post := by
  intro B ex eA dA D p l e R s m args below meth c cm sm Q C hcm hsm hex H locs A cells slots hr hS hl h1 h2
  exact lv_null C.1 C.2.1 hd (kk B ex eA dA D p l e R s m args below meth c cm sm Q C hcm hsm hex H locs A cells slots hr hS hl h1 h2)
theorem ab_dup {k b : Nat} {M : ab_MK} {pc : Nat} {ls : List (Option Value)} {st : List Value} {h : ab_H} {post : Value → ab_H → Prop} {v : Value} (hd : decode M.2.1 pc = .ok (.dup, 1)) (hv : v.category = 1) (kk : ab_R k b M (pc + 1) ls (v :: v :: st) h post) : ab_R k b M pc ls (v :: st) h post := by
  intro B ex eA dA D p l e R s m args below meth c cm sm Q C hcm hsm hex H locs A cells slots hr hS hl h1 h2
  exact lv_dup C.1 C.2.1 hd ((ab_vv_cat B ex v).trans hv) (kk B ex eA dA D p l e R s m args below meth c cm sm Q C hcm hsm hex H locs A cells slots hr hS hl h1 h2)
theorem ab_dup2 {k b : Nat} {M : ab_MK} {pc : Nat} {ls : List (Option Value)} {st : List Value} {h : ab_H} {post : Value → ab_H → Prop} {v w : Value} (hd : decode M.2.1 pc = .ok (.dup2, 1)) (hv : v.category = 1) (hw : w.category = 1) (kk : ab_R k b M (pc + 1) ls (v :: w :: v :: w :: st) h post) : ab_R k b M pc ls (v :: w :: st) h post := by
  intro B ex eA dA D p l e R s m args below meth c cm sm Q C hcm hsm hex H locs A cells slots hr hS hl h1 h2
  exact lv_dup2_11 C.1 C.2.1 hd ((ab_vv_cat B ex v).trans hv) ((ab_vv_cat B ex w).trans hw) (kk B ex eA dA D p l e R s m args below meth c cm sm Q C hcm hsm hex H locs A cells slots hr hS hl h1 h2)
theorem ab_ifnull {k b : Nat} {M : ab_MK} {pc : Nat} {ls : List (Option Value)} {st : List Value} {h : ab_H} {post : Value → ab_H → Prop} {x : Nat} {off : Int} (tgt : Nat) (hd : decode M.2.1 pc = .ok (.ifnull off, 3)) (ht : (pc : Int) + off = (tgt : Int)) (kt : x = 0 → ab_R k b M tgt ls st h post) (kf : ¬ x = 0 → ab_R k b M (pc + 3) ls st h post) : ab_R k b M pc ls (.ref x :: st) h post := by
  intro B ex eA dA D p l e R s m args below meth c cm sm Q C hcm hsm hex H locs A cells slots hr hS hl h1 h2
  by_cases h0 : x = 0
  · subst h0
    exact lv_ifnullN C.1 C.2.1 hd ht (kt rfl B ex eA dA D p l e R s m args below meth c cm sm Q C hcm hsm hex H locs A cells slots hr hS hl h1 h2)
  · have e9 : ab_vv B ex (.ref x) = .ref (ab_sg B ex x) := ab_rf_pos h0
    rw [List.map_cons, e9]
    exact lv_ifnull C.1 C.2.1 hd (kf h0 B ex eA dA D p l e R s m args below meth c cm sm Q C hcm hsm hex H locs A cells slots hr hS hl h1 h2)
theorem ab_ifnonnull {k b : Nat} {M : ab_MK} {pc : Nat} {ls : List (Option Value)} {st : List Value} {h : ab_H} {post : Value → ab_H → Prop} {x : Nat} {off : Int} (tgt : Nat) (hd : decode M.2.1 pc = .ok (.ifnonnull off, 3)) (ht : (pc : Int) + off = (tgt : Int)) (kt : ¬ x = 0 → ab_R k b M tgt ls st h post) (kf : x = 0 → ab_R k b M (pc + 3) ls st h post) : ab_R k b M pc ls (.ref x :: st) h post := by
  intro B ex eA dA D p l e R s m args below meth c cm sm Q C hcm hsm hex H locs A cells slots hr hS hl h1 h2
  by_cases h0 : x = 0
  · subst h0
    exact lv_ifnonnullN C.1 C.2.1 hd (kf rfl B ex eA dA D p l e R s m args below meth c cm sm Q C hcm hsm hex H locs A cells slots hr hS hl h1 h2)
  · have e9 : ab_vv B ex (.ref x) = .ref (ab_sg B ex x) := ab_rf_pos h0
    rw [List.map_cons, e9]
    exact lv_ifnonnull C.1 C.2.1 hd ht (kt h0 B ex eA dA D p l e R s m args below meth c cm sm Q C hcm hsm hex H locs A cells slots hr hS hl h1 h2)
