/-! ===== contracts, entry, calls ===== -/
abbrev ab_rr (ret : Option FieldType) (v : Value) : Option Value := match ret with
  | none => none
  | some _ => some v
def ab_Q (B : Nat) (ex : Nat → Nat) (eA : Nat → Cell) (dA : Nat → ClassId) (D : va_G) (ret : Option FieldType) (post : Value → ab_H → Prop) : Array Value → State → Outcome → State → Prop := fun _ st o t =>
  (∃ (v : Value) (h : ab_H), o = .returned (ab_rr ret (ab_vv B ex v)) ∧ post v h ∧ ab_rep B ex eA dA D h t.heap) ∧ va_F (fun q => B ≤ q) st t
abbrev ab_wd (M : ab_MK) : List Cond := Cond.code M.1 M.2.1 M.2.2.1 M.2.2.2 :: ab_tg
abbrev ab_rm (k b : Nat) : Room := { frames := k, cells := b, slots := 12 * b, locals := 100 * k }
/-- method M's contract at level k, with at most b new cells: from heap h with these arguments it returns with 'post' -/
def ab_M (k b : Nat) (M : ab_MK) (as : List Value) (h : ab_H) (post : Value → ab_H → Prop) : Prop :=
  ∀ (B : Nat) (ex : Nat → Nat) (eA : Nat → Cell) (dA : Nat → ClassId) (D : va_G) (l : Launch), Met l M.1 (ab_wd M) (ab_rm k b) (va_Pc (as.map (ab_vv B ex)) (fun U => ab_rep B ex eA dA D h U.heap ∧ ab_K B ex eA dA D U U.heap)) (ab_Q B ex eA dA D M.2.2.2 post) b (12 * b) (fun q => B ≤ q)
/-- the locals at a method's entry -/
def ab_sl' (as : List Value) : List (Option Value) := as.flatMap fun v => if v.category = 2 then [some v, none] else [some v]
def ab_ent (as : List Value) (n : Nat) : List (Option Value) := ab_sl' as ++ List.replicate (n - (ab_sl' as).length) none
theorem ab_sl_len (B : Nat) (ex : Nat → Nat) (as : List Value) : (lg_sl (as.map (ab_vv B ex))).length = (ab_sl' as).length := by
  induction as with
  | nil => rfl
  | cons v t ih =>
    simp only [lg_sl, ab_sl', List.map_cons, List.flatMap_cons, List.length_append] at ih ⊢
    rw [ih, ab_vv_cat]
    congr 1
    split <;> rfl
theorem ab_sl_get (B : Nat) (ex : Nat → Nat) (as : List Value) : ∀ (i : Nat) (v : Value), (ab_sl' as)[i]? = some (some v) → (lg_sl (as.map (ab_vv B ex)))[i]? = some (.val (ab_vv B ex v)) := by
  induction as with
  | nil => intro i v h; simp [ab_sl'] at h
  | cons w t ih =>
    intro i v h
    simp only [lg_sl, ab_sl', List.map_cons, List.flatMap_cons] at ih h ⊢
    rw [ab_vv_cat]
    by_cases hw : w.category = 2
    · rw [if_pos hw] at h ⊢
      match i, h with
      | 0, h => simp at h; subst h; rfl
      | 1, h => simp at h
      | i + 2, h => simpa using ih i v (by simpa using h)
    · rw [if_neg hw] at h ⊢
      match i, h with
      | 0, h => simp at h; subst h; rfl
      | i + 1, h => simpa using ih i v (by simpa using h)
theorem ab_ent_loc {B : Nat} {ex : Nat → Nat} {as : List Value} {n : Nat} (hn : (ab_sl' as).length ≤ n) : ab_loc B ex ((lg_sl (as.map (ab_vv B ex)) ++ List.replicate (n - (lg_sl (as.map (ab_vv B ex))).length) Slot.unset).toArray) n (ab_ent as n) := by
  have h := lv_entry (as.map (ab_vv B ex)) (n := n) (by rw [ab_sl_len]; exact hn)
  refine ⟨h.1, by simp [ab_ent]; omega, h.2.1, fun i v hi => ?_⟩
  unfold ab_ent at hi
  by_cases hl : i < (ab_sl' as).length
  · rw [List.getElem?_append_left hl] at hi
    have := ab_sl_get B ex as i v hi
    rw [List.getElem?_toArray, List.getElem?_append_left (by rw [ab_sl_len]; exact hl)]
    exact this
  · rw [List.getElem?_append_right (by omega)] at hi
    rw [List.getElem?_replicate] at hi
    split at hi <;> cases hi
theorem ab_rf_or (B : Nat) (ex : Nat → Nat) (x : Nat) : ab_rf B ex x = .null ∨ ∃ a, ab_rf B ex x = .ref a := by
  unfold ab_rf
  split
  · exact Or.inl rfl
  · exact Or.inr ⟨_, rfl⟩
theorem ab_exit_of {B : Nat} {ex : Nat → Nat} {eA : Nat → Cell} {dA : Nat → ClassId} {D : va_G} {M : ab_MK} {p : Program} {l : Launch} {e : Env} {R : Room} {s : State} {m : MethodId} {args : Array Value} {below : List Frame} {meth : Method} {c : Code} {cm sm : Nat} {post : Value → ab_H → Prop}
    (hx : p.tables.exec = Jvm.exec) (hb : c.code = M.2.1) (hr : meth.sig.returnType = M.2.2.2) (hlocks : meth.locks = false) : ab_exit B ex eA dA D M p l e R s m args below meth c cm sm (MQ below (ab_Q B ex eA dA D M.2.2.2 post) args s cm sm (fun q => B ≤ q)) post := by
  intro pc v h H locs A cells slots hd hok hp hrep hS hc hs
  refine W.widen hc hs ?_
  have hQ : ∀ t : State, t.heap = H → s.WarmedH t.vm → ab_Q B ex eA dA D M.2.2.2 post args s (.returned (ab_rr M.2.2.2 (ab_vv B ex v))) t := fun t ht _ => ⟨⟨v, h, rfl, hp, by rw [ht]; exact hrep⟩, hS.F ht⟩
  generalize M.2.2.2 = ret at hr hd hok hQ ⊢
  match ret, hr, hd, hok, hQ with
  | none, hr, hd, hok, hQ => exact W.vret hx hb hr hQ hS.2.2 hd
  | some .long, hr, hd, hok, hQ => obtain ⟨x, rfl⟩ := hok; exact W.lret hx hb hr hQ hS.2.2 hd
  | some .float, hr, hd, hok, hQ => obtain ⟨x, rfl⟩ := hok; exact W.fret hx hb hr hQ hS.2.2 hd
  | some .double, hr, hd, hok, hQ => obtain ⟨x, rfl⟩ := hok; exact W.dret hx hb hr hQ hS.2.2 hd
  | some (.object n), hr, hd, hok, hQ =>
    obtain ⟨x, rfl⟩ := hok
    exact W.aret hx hb hr (Or.inl ⟨n, rfl⟩) (ab_rf_or B ex x) hQ hS.2.2 hd
  | some (.array n), hr, hd, hok, hQ =>
    obtain ⟨x, rfl⟩ := hok
    exact W.aret hx hb hr (Or.inr ⟨n, rfl⟩) (ab_rf_or B ex x) hQ hS.2.2 hd
  | some .int, hr, hd, hok, hQ => obtain ⟨x, rfl, hn⟩ := hok; exact W.zret hx hb hr hn hQ hS.2.2 hd
  | some .boolean, hr, hd, hok, hQ => obtain ⟨x, rfl, hn⟩ := hok; exact W.zret hx hb hr hn hQ hS.2.2 hd
  | some .char, hr, hd, hok, hQ => obtain ⟨x, rfl, hn⟩ := hok; exact W.zret hx hb hr hn hQ hS.2.2 hd
  | some .byte, hr, hd, hok, hQ => obtain ⟨x, rfl, hn⟩ := hok; exact W.zret hx hb hr hn hQ hS.2.2 hd
  | some .short, hr, hd, hok, hQ => obtain ⟨x, rfl, hn⟩ := hok; exact W.zret hx hb hr hn hQ hS.2.2 hd
theorem ab_enter {k b : Nat} {M : ab_MK} {as : List Value} {h : ab_H} {post : Value → ab_H → Prop} (kk : ab_R k b M 0 (ab_ent as M.2.2.1) [] h post) (hpl : plainName M.1.cls = true := by decide +kernel) (hn : (ab_sl' as).length ≤ M.2.2.1 := by exact Nat.le_of_ble_eq_true rfl) : ab_M k b M as h post := by
  intro B ex eA dA D l
  refine Met.ofW (cc := M.2.1) (maxL := M.2.2.1) (ret := M.2.2.2) hpl rfl ?_
  intro p e s m args below meth c s₁ Bd hml hv
  obtain ⟨rfl, hrep, hK⟩ := hv
  rw [lg_entry_eq]
  have hts := atoms_spec (ws := ab_wd M) Bd.pre
  exact kk B ex eA dA D p l e _ s m _ below meth c b (12 * b) _ ⟨Bd.exec, Bd.bytes, hml, findClass_of_methodNamed Bd.named, fun w hw => hts w (List.mem_cons_of_mem _ hw), hK, (name_of_methodNamed Bd.named Bd.method).1, Nat.le_refl _, Nat.le_refl _, by rw [hrep.2.1]; exact Nat.le_add_right _ _⟩ (Nat.le_refl _) (Nat.le_refl _)
    (ab_exit_of Bd.exec Bd.bytes Bd.returns Bd.notSynchronized) s.heap [] _ 0 0 hrep va_S.rf (ab_ent_loc hn) (by omega) (by omega)
section ABE
variable {k b : Nat} {M : ab_MK} {pc : Nat} {ls : List (Option Value)} {st : List Value} {h : ab_H} {post : Value → ab_H → Prop}
theorem ab_end {v : Value} (hd : decode M.2.1 pc = .ok (ab_ri M.2.2.2, 1)) (hok : ab_rok M.2.2.2 v) (hp : post v h) (hst : st = ab_rv M.2.2.2 v) : ab_R k b M pc ls st h post := by
  intro B ex eA dA D p l e R s m args below meth c cm sm Q C hcm hsm hex H locs A cells slots hr hS hA h1 h2
  subst hst
  have e9 : (ab_rv M.2.2.2 v).map (ab_vv B ex) = ab_rv M.2.2.2 (ab_vv B ex v) := by
    unfold ab_rv
    split <;> rfl
  rw [e9]
  exact hex pc v h H locs A cells slots hd hok hp hr hS (by omega) (by omega)
theorem ab_iret {x : Int32} (hd : decode M.2.1 pc = .ok (.ireturn, 1)) (hp : post (.int x) h) (hr : ab_ri M.2.2.2 = .ireturn := by rfl) (hv : ab_rv M.2.2.2 (.int x) = [.int x] := by rfl) (hok : ab_rok M.2.2.2 (.int x) := by exact ⟨_, rfl, rfl⟩) : ab_R k b M pc ls [.int x] h post :=
  ab_end (by rw [hr]; exact hd) hok hp hv.symm
theorem ab_lret {x : Int64} (hd : decode M.2.1 pc = .ok (.lreturn, 1)) (hp : post (.long x) h) (hr : ab_ri M.2.2.2 = .lreturn := by rfl) (hv : ab_rv M.2.2.2 (.long x) = [.long x] := by rfl) (hok : ab_rok M.2.2.2 (.long x) := by exact ⟨_, rfl⟩) : ab_R k b M pc ls [.long x] h post :=
  ab_end (by rw [hr]; exact hd) hok hp hv.symm
theorem ab_fret {x : UInt32} (hd : decode M.2.1 pc = .ok (.freturn, 1)) (hp : post (.float x) h) (hr : ab_ri M.2.2.2 = .freturn := by rfl) (hv : ab_rv M.2.2.2 (.float x) = [.float x] := by rfl) (hok : ab_rok M.2.2.2 (.float x) := by exact ⟨_, rfl⟩) : ab_R k b M pc ls [.float x] h post :=
  ab_end (by rw [hr]; exact hd) hok hp hv.symm
theorem ab_dret {x : UInt64} (hd : decode M.2.1 pc = .ok (.dreturn, 1)) (hp : post (.double x) h) (hr : ab_ri M.2.2.2 = .dreturn := by rfl) (hv : ab_rv M.2.2.2 (.double x) = [.double x] := by rfl) (hok : ab_rok M.2.2.2 (.double x) := by exact ⟨_, rfl⟩) : ab_R k b M pc ls [.double x] h post :=
  ab_end (by rw [hr]; exact hd) hok hp hv.symm
theorem ab_aret {x : Nat} (hd : decode M.2.1 pc = .ok (.areturn, 1)) (hp : post (.ref x) h) (hr : ab_ri M.2.2.2 = .areturn := by rfl) (hv : ab_rv M.2.2.2 (.ref x) = [.ref x] := by rfl) (hok : ab_rok M.2.2.2 (.ref x) := by exact ⟨_, rfl⟩) : ab_R k b M pc ls [.ref x] h post :=
  ab_end (by rw [hr]; exact hd) hok hp hv.symm
theorem ab_vret (hd : decode M.2.1 pc = .ok (.return_, 1)) (hp : post (.ref 0) h) (hr : ab_ri M.2.2.2 = .return_ := by rfl) (hv : ab_rv M.2.2.2 (.ref 0) = [] := by rfl) (hok : ab_rok M.2.2.2 (.ref 0) := by exact trivial) : ab_R k b M pc ls [] h post :=
  ab_end (by rw [hr]; exact hd) hok hp hv.symm
/-! calls -/
theorem ab_back {B : Nat} {ex : Nat → Nat} {eA : Nat → Cell} {dA : Nat → ClassId} {D : va_G} {p : Program} {l : Launch} {e : Env} {R : Room} {s : State} {m : MethodId} {args : Array Value} {below : List Frame} {meth : Method} {c : Code} {Q : State → Prop} {H : Heap} {locs : List Loc} {cells slots mc ms pc : Nat} {A : Array Slot} {st0 rest : List Value} {a : Array Value} {ret : Option FieldType} {post : Value → ab_H → Prop}
    (hr : va_Run p l e R s m args below meth c H locs cells slots mc ms (F0 m pc A st0) rest (ab_Q B ex eA dA D ret post a) (fun q => B ≤ q)) (hS : va_S (fun q => B ≤ q) s.heap H locs)
    (kk : ∀ (v : Value) (h' : ab_H) (H1 : Heap) (locs1 : List Loc), post v h' → ab_rep B ex eA dA D h' H1 → va_S (fun q => B ≤ q) s.heap H1 locs1 → W p l e R s m args below meth c H1 locs1 (cells + mc) (slots + ms) Q (F0 m (pc + 3) A (ab_rv ret (ab_vv B ex v) ++ rest))) : W p l e R s m args below meth c H locs cells slots Q (F0 m pc A st0) := by
  intro T hT X
  obtain ⟨v, st₀, t, T', L, h0, X', hL, e1, e2, ⟨⟨r, h', hv, hp, hb⟩, hz, hk⟩, st⟩ := hr T hT X
  cases hv
  rw [h0] at hz hk
  obtain ⟨t2, a1, b1⟩ := kk r h' T'.heap (locs ++ L) hp (by rw [e1]; exact hb) ⟨Nat.le_trans hS.1 (by rw [e1]; exact hz), fun q h1 h2 => by rw [e1, hk q (Nat.lt_of_lt_of_le h1 hS.1) h2]; exact hS.2.1 q h1 h2, fun q hq => by
      rcases List.mem_append.mp hq with h | h
      · exact hS.2.2 q h
      · exact hL q h⟩ T' rfl X'
  refine ⟨t2, st t2 ?_, b1⟩
  have e9 : (ab_rr ret (ab_vv B ex r)).toList ++ rest = ab_rv ret (ab_vv B ex r) ++ rest := by
    unfold ab_rr ab_rv
    split <;> rfl
  rw [e9]
  exact a1
theorem ab_goodIn {ws : List Cond} (h : ∀ w ∈ ws, w ∈ ab_tg) : GoodIn ab_tg ws := fun w hw => ⟨h w hw, good_of_word (List.mem_filter.mp (h w hw)).2⟩
theorem ab_wd_in {M : ab_MK} {n : Nat} (hm : ab_mk M n) : ∀ w ∈ ab_wd M, w ∈ ab_tg := by
  intro w hw
  rcases List.mem_cons.mp hw with rfl | h
  · exact List.mem_filter.mpr ⟨hm.1, rfl⟩
  · exact h
theorem ab_K_moved {B : Nat} {ex : Nat → Nat} {eA : Nat → Cell} {dA : Nat → ClassId} {D : va_G} {u U : State} {H H1 : Heap} (hvm : u.vm.Alike U.vm) (h : ab_K B ex eA dA D u H) (hq : ∀ a : Nat, a < H.size → ¬ B ≤ a → H1[a]? = H[a]?) : ab_K B ex eA dA D U H1 :=
  ⟨va_K.moved hvm h.1, fun j h1 h2 => ⟨State.isArrayOf_alike hvm (h.2.1 j h1 h2).1, (h.2.1 j h1 h2).2⟩, ⟨h.2.2.1.1.moved hvm, h.2.2.1.2.1.moved hvm, h.2.2.1.2.2.1.moved hvm, h.2.2.1.2.2.2.moved hvm⟩, fun j h1 h2 => ((h.2.2.2 j h1 h2).moved hvm).kept hq⟩
theorem ab_pre {B : Nat} {ex : Nat → Nat} {eA : Nat → Cell} {dA : Nat → ClassId} {D : va_G} {M : ab_MK} {p : Program} {l : Launch} {R : Room} {s : State} {m : MethodId} {args : Array Value} {meth : Method} {c : Code} {H : Heap} {locs : List Loc} {as : List Value}
    (C : ab_ctx B ex eA dA D M k p l R s m args meth c) (hr : ab_rep B ex eA dA D h H) (hS : va_S (fun q => B ≤ q) s.heap H locs) : PreS s H (va_Pc (as.map (ab_vv B ex)) (fun U => ab_rep B ex eA dA D h U.heap ∧ ab_K B ex eA dA D U U.heap)) (as.map (ab_vv B ex)) :=
  ⟨fun a U g mk q => ⟨q.1, q.2.1, ab_K_moved (u := U) (U := U.calling g mk a) (Vm.Alike.refl U.vm) q.2.2 (fun _ _ _ => rfl)⟩, fun U hU hW => ⟨rfl, by rw [hU]; exact hr, by
    rw [hU]
    exact ab_K_moved hW.alike C.2.2.2.2.2.1 (fun a h1 h2 => hS.2.1 a h1 h2)⟩⟩
theorem ab_cat_sum {B : Nat} {ex : Nat → Nat} (st : List Value) : ((st.map (ab_vv B ex)).map fun v => v.category).sum = (st.map fun v => v.category).sum := by
  rw [List.map_map]
  congr 1
  apply List.map_congr_left
  intro v _
  exact ab_vv_cat B ex v
theorem ab_rv_map (B : Nat) (ex : Nat → Nat) (ret : Option FieldType) (v : Value) (st : List Value) : (ab_rv ret v ++ st).map (ab_vv B ex) = ab_rv ret (ab_vv B ex v) ++ st.map (ab_vv B ex) := by
  unfold ab_rv
  split <;> rfl
theorem ab_callV {k' b' i n a ci x : Nat} {M' : ab_MK} (as : List Value) {post' : Value → ab_H → Prop} (hd : decode M.2.1 pc = .ok (.invokevirtual i, 3)) (hl : ab_kv M.1.cls i M') (hm : ab_mk M' n) (hs : ab_sh h a = (ci + 1, x)) (hc : ab_M k' b' M' (.ref a :: as) h post') (kk : ∀ v h', post' v h' → ab_R k (b - b') M (pc + 3) ls (ab_rv M'.2.2.2 v ++ st) h' post)
    (hcl : ab_C ci = M'.1.cls := by rfl) (hci : ci < 12 := by decide) (hk : k' + 1 ≤ k := by omega) (hb : b' ≤ b := by omega) (hn : as.length = n := by rfl) (hW : (st.map fun v => v.category).sum ≤ 8 := by exact Nat.le_of_ble_eq_true rfl) : ab_R k b M pc ls (as.reverse ++ .ref a :: st) h post := by
  intro B ex eA dA D p l e R s m args below meth c cm sm Q C hcm hsm hex H locs A cells slots hr hS hA h1 h2
  have ha := hr.2.2.1 a (by rw [hs]; exact Nat.noConfusion)
  have e9 : ab_vv B ex (.ref a) = .ref (ab_sg B ex a) := ab_rf_pos (by omega)
  rw [List.map_append, List.map_cons, e9, List.map_reverse]
  obtain ⟨m1, m2, m3, m4⟩ := hm
  have tk := C.2.2.2.2.1
  have hG : GoodIn ab_tg (wsV M.1.cls i M'.1.cls M'.1 (ab_wd M')) := ab_goodIn (fun w hw => by
    unfold wsV at hw
    rcases List.mem_append.mp hw with q | q
    · simp only [List.mem_cons, List.not_mem_nil, or_false] at q
      rcases q with rfl | rfl | rfl | rfl
      · exact List.mem_filter.mpr ⟨hl.1, rfl⟩
      · exact List.mem_filter.mpr ⟨hl.2.1, rfl⟩
      · exact List.mem_filter.mpr ⟨hl.2.2, rfl⟩
      · exact List.mem_filter.mpr ⟨m2, rfl⟩
    · exact ab_wd_in ⟨m1, m2, m3, m4⟩ w q)
  have hP := ab_pre (as := .ref a :: as) C hr hS
  rw [List.map_cons, e9] at hP
  have hcall := hc B ex eA dA D l
  rw [List.map_cons, e9] at hcall
  have hcell0 : (ab_ws B ex dA h)[a - 5]? = some (ab_sg B ex a, .inr (ci, (List.range (ab_N ci)).map (fun k => ab_val B ex h a (ab_tys ci k) k))) := (ab_ws_at ha.1 ha.2).trans (by rw [ab_cell_obj hs hci])
  have hrecv := va_recv C.2.2.2.2.2.1.1 hr.1 (ab_cl hci) hcell0
  rw [show (ab_C ci, ab_T ci, ab_N ci).1 = M'.1.cls from hcl] at hrecv
  refine ab_back (va_runV (As := as.map (ab_vv B ex)) (rest := st.map (ab_vv B ex)) (nL := M.2.2.1) ⟨C.1, C.2.1, C.2.2.1, C.2.2.2.1, tk⟩ hcall (cwV n tk hG rfl rfl rfl ⟨rfl, m3.1, m3.2.1, m3.2.2⟩ ⟨Nat.le_trans hk C.2.2.2.2.2.2.2.1, by
    have q1 := C.2.2.2.2.2.2.2.2.1
    show 8 + (M'.2.2.1 + 11) + 100 * k' ≤ R.locals
    omega⟩) ⟨hP.1, hrecv, hP.2⟩ rfl (by rw [List.length_map]; exact hn) hA.1 rfl (lv_room (by rw [ab_cat_sum]; exact hW)) hd ⟨by omega, by omega⟩) hS ?_
  intro v h' H1 locs1 hp hr1 hS1
  rw [← ab_rv_map]
  exact kk v h' hp B ex eA dA D p l e R s m args below meth c cm sm Q C hcm hsm hex H1 locs1 A (cells + b') (slots + 12 * b') hr1 hS1 hA (by omega) (by omega)
theorem ab_callS {k' b' i n : Nat} {M' : ab_MK} (as : List Value) {post' : Value → ab_H → Prop} (hd : decode M.2.1 pc = .ok (.invokestatic i, 3)) (hl : ab_ks M.1.cls i M') (hm : ab_mk M' n) (hc : ab_M k' b' M' as h post') (kk : ∀ v h', post' v h' → ab_R k (b - b') M (pc + 3) ls (ab_rv M'.2.2.2 v ++ st) h' post)
    (hk : k' + 1 ≤ k := by omega) (hb : b' ≤ b := by omega) (hn : as.length = n := by rfl) (hW : (st.map fun v => v.category).sum ≤ 8 := by exact Nat.le_of_ble_eq_true rfl) : ab_R k b M pc ls (as.reverse ++ st) h post := by
  intro B ex eA dA D p l e R s m args below meth c cm sm Q C hcm hsm hex H locs A cells slots hr hS hA h1 h2
  rw [List.map_append, List.map_reverse]
  obtain ⟨m1, m2, m3, m4⟩ := hm
  have tk := C.2.2.2.2.1
  have hG : GoodIn ab_tg (va_wsS M.1.cls i M'.1 (ab_wd M')) := ab_goodIn (fun w hw => by
    unfold va_wsS at hw
    rcases List.mem_append.mp hw with q | q
    · simp only [List.mem_cons, List.not_mem_nil, or_false] at q
      rcases q with rfl | rfl | rfl
      · exact List.mem_filter.mpr ⟨hl.1, rfl⟩
      · exact List.mem_filter.mpr ⟨hl.2, rfl⟩
      · exact List.mem_filter.mpr ⟨m2, rfl⟩
    · exact ab_wd_in ⟨m1, m2, m3, m4⟩ w q)
  have hP := ab_pre (as := as) C hr hS
  refine ab_back (va_runS (As := as.map (ab_vv B ex)) (rest := st.map (ab_vv B ex)) (nL := M.2.2.1) ⟨C.1, C.2.1, C.2.2.1, C.2.2.2.1, tk⟩ (hc B ex eA dA D l) (va_cwS n tk hG rfl rfl rfl ⟨m3.1, m3.2.1, m3.2.2⟩ ⟨Nat.le_trans hk C.2.2.2.2.2.2.2.1, by
    have q1 := C.2.2.2.2.2.2.2.2.1
    show 8 + (M'.2.2.1 + 11) + 100 * k' ≤ R.locals
    omega⟩) hP rfl (by rw [List.length_map]; exact hn) hA.1 rfl (lv_room (by rw [ab_cat_sum]; exact hW)) hd ⟨by omega, by omega⟩) hS ?_
  intro v h' H1 locs1 hp hr1 hS1
  rw [← ab_rv_map]
  exact kk v h' hp B ex eA dA D p l e R s m args below meth c cm sm Q C hcm hsm hex H1 locs1 A (cells + b') (slots + 12 * b') hr1 hS1 hA (by omega) (by omega)
theorem ab_callI {k' b' i n a : Nat} {M' : ab_MK} (as : List Value) {post' : Value → ab_H → Prop} (hd : decode M.2.1 pc = .ok (.invokespecial i, 3)) (hl : ab_ki M.1.cls i M') (hm : ab_mk M' n) (ha0 : a ≠ 0) (hc : ab_M k' b' M' (.ref a :: as) h post') (kk : ∀ v h', post' v h' → ab_R k (b - b') M (pc + 3) ls st h' post)
    (hret : M'.2.2.2 = none := by rfl) (hk : k' + 1 ≤ k := by omega) (hb : b' ≤ b := by omega) (hn : as.length = n := by rfl) (hW : (st.map fun v => v.category).sum ≤ 8 := by exact Nat.le_of_ble_eq_true rfl) : ab_R k b M pc ls (as.reverse ++ .ref a :: st) h post := by
  intro B ex eA dA D p l e R s m args below meth c cm sm Q C hcm hsm hex H locs A cells slots hr hS hA h1 h2
  have e9 : ab_vv B ex (.ref a) = .ref (ab_sg B ex a) := ab_rf_pos ha0
  rw [List.map_append, List.map_cons, e9, List.map_reverse]
  obtain ⟨m1, m2, m3, m4⟩ := hm
  have tk := C.2.2.2.2.1
  have hP := ab_pre (as := .ref a :: as) C hr hS
  rw [List.map_cons, e9] at hP
  have hcall := hc B ex eA dA D l
  rw [List.map_cons, e9] at hcall
  have hG : GoodIn ab_tg (ab_wd M') := ab_goodIn (ab_wd_in ⟨m1, m2, m3, m4⟩)
  have hw : ab_wd M' = Cond.code M'.1 M'.2.1 M'.2.2.1 none :: ab_tg := by unfold ab_wd; rw [hret]
  refine ab_back (va_runI (As := as.map (ab_vv B ex)) (rest := st.map (ab_vv B ex)) (nL := M.2.2.1) ⟨C.1, C.2.1, C.2.2.1, C.2.2.2.1, tk⟩ hcall (cwI n tk hG hw rfl rfl (tk _ (List.mem_filter.mpr ⟨m2, rfl⟩)) (tk _ (List.mem_filter.mpr ⟨hl.1, rfl⟩)) (tk _ (List.mem_filter.mpr ⟨hl.2.1, rfl⟩)) hl.2.2 ⟨m3.1, m3.2.1, m3.2.2⟩ ⟨Nat.le_trans hk C.2.2.2.2.2.2.2.1, by
    have q1 := C.2.2.2.2.2.2.2.2.1
    show 8 + (M'.2.2.1 + 11) + 100 * k' ≤ R.locals
    omega⟩) hP rfl (by rw [List.length_map]; exact hn) hA.1 rfl (lv_room (by rw [ab_cat_sum]; exact hW)) hd ⟨by omega, by omega⟩) hS ?_
  intro v h' H1 locs1 hp hr1 hS1
  rw [hret]
  exact kk v h' hp B ex eA dA D p l e R s m args below meth c cm sm Q C hcm hsm hex H1 locs1 A (cells + b') (slots + 12 * b') hr1 hS1 hA (by omega) (by omega)
end ABE
