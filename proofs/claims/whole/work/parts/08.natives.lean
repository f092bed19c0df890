/-! ===== arrays outside, natives, copies ===== -/
theorem st_f2raw : Cond.static ⟨"java/lang/Float", "floatToRawIntBits", "(F)I"⟩ ∈ lw_tbl := List.mem_of_getElem? (i := 1342) (by decide +kernel)
theorem st_d2raw : Cond.static ⟨"java/lang/Double", "doubleToRawLongBits", "(D)J"⟩ ∈ lw_tbl := List.mem_of_getElem? (i := 1361) (by decide +kernel)
theorem st_acopy : Cond.static ⟨"java/lang/System", "arraycopy", "(Ljava/lang/Object;ILjava/lang/Object;II)V"⟩ ∈ lw_tbl := List.mem_of_getElem? (i := 641) (by decide +kernel)
section ABX
variable {k b : Nat} {M : ab_MK} {pc : Nat} {ls : List (Option Value)} {st : List Value} {h : ab_H} {post : Value → ab_H → Prop}
theorem ab_gets {i j : Nat} (hd : decode M.2.1 pc = .ok (.getstatic i, 3)) (hl : Cond.fieldLink M.1.cls i RX10 (ab_sn j) "[I" ∈ lw_tbl) (kk : ab_R k b M (pc + 3) ls (.ref j :: st) h post) (hj : 2 ≤ j := by decide) (hj5 : j < 5 := by decide) : ab_R k b M pc ls st h post := by
  intro B ex eA dA D p l e R s m args below meth c cm sm Q C hcm hsm hex H locs A cells slots hr hS hA h1 h2
  have tk := C.2.2.2.2.1
  have kk := kk B ex eA dA D p l e R s m args below meth c cm sm Q C hcm hsm hex H locs A cells slots hr hS hA h1 h2
  have e8 : ab_vv B ex (.ref j) = .ref (ex j) := by
    show ab_rf B ex j = _
    rw [ab_rf_pos (by omega)]
    unfold ab_sg
    rw [if_pos hj5]
  rw [List.map_cons, e8] at kk
  exact va_gets C.1 C.2.1 (C.2.2.2.2.2.1.2.2.2 j hj hj5) hS C.2.2.2.1 (tk _ (List.mem_filter.mpr ⟨hl, rfl⟩)) (fun _ h9 => h9) hd kk
theorem ab_eald {a j : Nat} {x v : Int32} (hd : decode M.2.1 pc = .ok (.iaload, 1)) (hx : x = nI j) (hj : j < (ab_e h a).1) (hv : (ab_e h a).2 j = v) (kk : ab_R k b M (pc + 1) ls (.int v :: st) h post) (ha : 1 ≤ a := by decide) (ha5 : a < 5 := by decide) : ab_R k b M pc ls (.int x :: .ref a :: st) h post := by
  intro B ex eA dA D p l e R s m args below meth c cm sm Q C hcm hsm hex H locs A cells slots hr hS hA h1 h2
  subst hx hv
  obtain ⟨q1, q2, q3⟩ := hr.2.2.2 a ha ha5
  obtain ⟨g1, g2⟩ := ab_nI_in hj (by omega)
  have e8 : ab_vv B ex (.ref a) = .ref (ex a) := by
    show ab_rf B ex a = _
    rw [ab_rf_pos (by omega)]
    unfold ab_sg
    rw [if_pos ha5]
  rw [List.map_cons, List.map_cons, e8]
  exact W.iald (v := .int ((ab_e h a).2 j)) C.1 C.2.1 q3.1 (C.2.2.2.2.2.1.2.1 a ha ha5).1 (C.2.2.2.2.2.1.2.1 a ha ha5).2 (fun q => g1 (q.imp id (Nat.le_trans q3.2.1.1))) (by rw [g2]; exact q3.2.2 j hj) rfl rfl hd (kk B ex eA dA D p l e R s m args below meth c cm sm Q C hcm hsm hex H locs A cells slots hr hS hA h1 h2)
theorem ab_elen {a : Nat} {v : Int32} (hd : decode M.2.1 pc = .ok (.arraylength, 1)) (hv : nI (ab_e h a).1 = v) (kk : ab_R k b M (pc + 1) ls (.int v :: st) h post) (ha : 1 ≤ a := by decide) (ha5 : a < 5 := by decide) : ab_R k b M pc ls (.ref a :: st) h post := by
  intro B ex eA dA D p l e R s m args below meth c cm sm Q C hcm hsm hex H locs A cells slots hr hS hA h1 h2
  subst hv
  obtain ⟨q1, q2, q3⟩ := hr.2.2.2 a ha ha5
  have e8 : ab_vv B ex (.ref a) = .ref (ex a) := by
    show ab_rf B ex a = _
    rw [ab_rf_pos (by omega)]
    unfold ab_sg
    rw [if_pos ha5]
  rw [List.map_cons, e8]
  exact W.alen C.1 C.2.1 q3.1 (C.2.2.2.2.2.1.2.1 a ha ha5).1 (by show (eA a).slots.size.toInt32 = _; exact q3.2.1.2) rfl rfl hd (kk B ex eA dA D p l e R s m args below meth c cm sm Q C hcm hsm hex H locs A cells slots hr hS hA h1 h2)
theorem ab_alen {a t n : Nat} {v : Int32} (hd : decode M.2.1 pc = .ok (.arraylength, 1)) (hs : ab_sh h a = (100 + t, n)) (hv : nI n = v) (kk : ab_R k b M (pc + 1) ls (.int v :: st) h post) (ht : t = 0 ∨ t = 2 ∨ t = 3 := by decide) : ab_R k b M pc ls (.ref a :: st) h post := by
  intro B ex eA dA D p l e R s m args below meth c cm sm Q C hcm hsm hex H locs A cells slots hr hS hA h1 h2
  subst hv
  have ha := hr.2.2.1 a (by rw [hs]; show 100 + t ≠ 0; omega)
  have e9 : ab_vv B ex (.ref a) = .ref (ab_sg B ex a) := ab_rf_pos (by omega)
  rw [List.map_cons, e9]
  have kk := kk B ex eA dA D p l e R s m args below meth c cm sm Q C hcm hsm hex H locs A cells slots hr hS hA h1 h2
  have hw := (ab_ws_at (B := B) (ex := ex) (dA := dA) ha.1 ha.2).trans (by rw [ab_cell_arr hs ht])
  rcases ht with rfl | rfl | rfl
  · exact va_alen C.1 C.2.1 C.2.2.2.2.2.1.1 hr.1 (a - 5) 0 hw rfl rfl hd kk
  · exact va_alen C.1 C.2.1 C.2.2.2.2.2.1.1 hr.1 (a - 5) 2 hw rfl rfl hd kk
  · exact va_alen C.1 C.2.1 C.2.2.2.2.2.1.1 hr.1 (a - 5) 3 hw rfl rfl hd kk
theorem ab_mabs {i : Nat} {x : Int64} (hd : decode M.2.1 pc = .ok (.invokestatic i, 3)) (hl : ab_ks M.1.cls i mJ9_abs_067f4) (kk : ab_R k b M (pc + 3) ls (.long (if 0 < x then x else -x) :: st) h post) (hk : 1 ≤ k := by omega) (hW : (st.map fun v => v.category).sum ≤ 8 := by exact Nat.le_of_ble_eq_true rfl) : ab_R k b M pc ls (.long x :: st) h post := by
  intro B ex eA dA D p l e R s m args below meth c cm sm Q C hcm hsm hex H locs A cells slots hr hS hA h1 h2
  have tk := C.2.2.2.2.1
  have q1 := C.2.2.2.2.2.2.2.1
  have q2 := C.2.2.2.2.2.2.2.2.1
  exact va_mabs_long (index := i) C.1 C.2.1 (C.2.2.1.trans hA.1.symm) C.2.2.2.1 (tk _ (List.mem_filter.mpr ⟨hl.1, rfl⟩)) (tk _ (List.mem_filter.mpr ⟨hl.2, rfl⟩)) (tk _ (List.mem_filter.mpr ⟨it_J9, rfl⟩)) (tk _ (List.mem_filter.mpr ⟨mk_J9_abs_067f4.1, rfl⟩)) (Nat.le_trans hk q1) (by rw [ab_cat_sum]; omega) (by omega) (by omega) hd (kk B ex eA dA D p l e R s m args below meth c cm sm Q C hcm hsm hex H locs A cells slots hr hS hA h1 h2)
theorem ab_f2raw {i : Nat} {x : UInt32} (hd : decode M.2.1 pc = .ok (.invokestatic i, 3)) (hl : Cond.methodLink M.1.cls i ⟨"java/lang/Float", "floatToRawIntBits", "(F)I"⟩ ∈ lw_tbl) (kk : ab_R k b M (pc + 3) ls (.int x.toInt32 :: st) h post) (hk : 1 ≤ k := by omega) (hW : (st.map fun v => v.category).sum ≤ 8 := by exact Nat.le_of_ble_eq_true rfl) : ab_R k b M pc ls (.float x :: st) h post := by
  intro B ex eA dA D p l e R s m args below meth c cm sm Q C hcm hsm hex H locs A cells slots hr hS hA h1 h2
  have tk := C.2.2.2.2.1
  have q1 := C.2.2.2.2.2.2.2.1
  have q2 := C.2.2.2.2.2.2.2.2.1
  exact vn_f2i (index := i) C.1 C.2.1 (C.2.2.1.trans hA.1.symm) C.2.2.2.1 (tk _ (List.mem_filter.mpr ⟨hl, rfl⟩)) (tk _ (List.mem_filter.mpr ⟨nt_floatToRawIntBits, rfl⟩)) (tk _ (List.mem_filter.mpr ⟨st_f2raw, rfl⟩)) (tk _ (List.mem_filter.mpr ⟨it_Jxf58ca, rfl⟩)) (Nat.le_trans hk q1) (by rw [ab_cat_sum]; omega) hd (kk B ex eA dA D p l e R s m args below meth c cm sm Q C hcm hsm hex H locs A cells slots hr hS hA h1 h2)
theorem ab_d2raw {i : Nat} {x : UInt64} (hd : decode M.2.1 pc = .ok (.invokestatic i, 3)) (hl : Cond.methodLink M.1.cls i ⟨"java/lang/Double", "doubleToRawLongBits", "(D)J"⟩ ∈ lw_tbl) (kk : ab_R k b M (pc + 3) ls (.long x.toInt64 :: st) h post) (hk : 1 ≤ k := by omega) (hW : (st.map fun v => v.category).sum ≤ 8 := by exact Nat.le_of_ble_eq_true rfl) : ab_R k b M pc ls (.double x :: st) h post := by
  intro B ex eA dA D p l e R s m args below meth c cm sm Q C hcm hsm hex H locs A cells slots hr hS hA h1 h2
  have tk := C.2.2.2.2.1
  have q1 := C.2.2.2.2.2.2.2.1
  have q2 := C.2.2.2.2.2.2.2.2.1
  exact vn_d2l (index := i) C.1 C.2.1 (C.2.2.1.trans hA.1.symm) C.2.2.2.1 (tk _ (List.mem_filter.mpr ⟨hl, rfl⟩)) (tk _ (List.mem_filter.mpr ⟨nt_doubleToRawLongBits, rfl⟩)) (tk _ (List.mem_filter.mpr ⟨st_d2raw, rfl⟩)) (tk _ (List.mem_filter.mpr ⟨it_Jxe99ae, rfl⟩)) (Nat.le_trans hk q1) (by rw [ab_cat_sum]; omega) hd (kk B ex eA dA D p l e R s m args below meth c cm sm Q C hcm hsm hex H locs A cells slots hr hS hA h1 h2)
/-- an entry for a method of java/lang/Float that no native runs -/
theorem ab_ofWF {l : Launch} {y : MethodName} {ws ws' : List Cond} {rm : Room} {Pc : Array Value → State → Prop} {Qc : Array Value → State → Outcome → State → Prop} {mc ms : Nat} {free : Addr → Prop} {cc : ByteArray} {maxL : Nat} {ret : Option FieldType}
    (hy : plainFor y = true) (hw : ws = Cond.code y cc maxL ret :: ws')
    (body : ∀ p e s m args below meth c s₁, BodyLoose p l y (headSpec ws rm) cc maxL ret e s m args below meth c s₁ → c.maxLocals = maxL → Pc args s →
      W p l e (headSpec ws rm).room s m args below meth c s.heap [] 0 0 (MQ below Qc args s mc ms free) (entryFrame m args maxL)) : Met l y ws rm Pc Qc mc ms free := by
  refine MetFree.of_bodySF (code := cc) (maxLocals := maxL) (ret := ret) hy ?_ ?_
  · intro args s m h hn
    obtain ⟨meth, c, h1, h2, h3, h4, h5, h6, -, -⟩ := Cond.code_spec hn (atoms_spec (ws := ws) h _ (by rw [hw]; exact List.mem_cons_self))
    exact ⟨meth, c, h1, h2, h3, h4, h5, h6⟩
  · intro p e s m args below meth c s₁ Bd hml hP _
    have hh0 : s₁.heap = s.heap := by rw [Bd.state]; rfl
    obtain ⟨t, a1, o, b1, b2, b3⟩ := body p e s m args below meth c s₁ Bd hml hP s₁ hh0 (Stand.of_body Bd)
    exact ⟨t, o, a1, b1, b2, ⟨b3.1, b3.2⟩⟩
theorem ab_enterF {as : List Value} (kk : ab_R k b M 0 (ab_ent as M.2.2.1) [] h post) (hpl : plainFor M.1 = true) (hn : (ab_sl' as).length ≤ M.2.2.1 := by exact Nat.le_of_ble_eq_true rfl) : ab_M k b M as h post := by
  intro B ex eA dA D l
  refine ab_ofWF (cc := M.2.1) (maxL := M.2.2.1) (ret := M.2.2.2) hpl rfl ?_
  intro p e s m args below meth c s₁ Bd hml hv
  obtain ⟨rfl, hrep, hK⟩ := hv
  rw [lg_entry_eq]
  have hts := atoms_spec (ws := ab_wd M) Bd.pre
  exact kk B ex eA dA D p l e _ s m _ below meth c b (12 * b) _ ⟨Bd.exec, Bd.bytes, hml, findClass_of_methodNamed Bd.named, fun w hw => hts w (List.mem_cons_of_mem _ hw), hK, (name_of_methodNamed Bd.named Bd.method).1, Nat.le_refl _, Nat.le_refl _, by rw [hrep.2.1]; exact Nat.le_add_right _ _⟩ (Nat.le_refl _) (Nat.le_refl _)
    (ab_exit_of Bd.exec Bd.bytes Bd.returns Bd.notSynchronized) s.heap [] _ 0 0 hrep va_S.rf (ab_ent_loc hn) (by omega) (by omega)
theorem ab_plF1 : plainFor yJxf58ca_isNaN_12338 = true := by decide +kernel
theorem ab_plF2 : plainFor yJxf58ca_floatToIntBits_5c35a = true := by decide +kernel
end ABX
