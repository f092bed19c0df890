/-! ===== new objects and arrays; the JDK's natives; statics ===== -/
theorem ab_arrV_congr {c : ClassId} {n : Nat} {f g : Nat → Value} (h : ∀ j, j < n → f j = g j) : arrV c n f = arrV c n g := by
  unfold arrV
  congr 2
  funext j
  exact h j.val j.isLt
theorem ab_oi_inst : Cond.instanceMethod ⟨"java/lang/Object", "<init>", "()V"⟩ ∈ lw_tbl := List.mem_of_getElem? (i := 83) (by decide +kernel)
theorem ab_oi_code : Cond.code ⟨"java/lang/Object", "<init>", "()V"⟩ ⟨#[0xb1]⟩ 1 none ∈ lw_tbl := List.mem_of_getElem? (i := 84) (by decide +kernel)
theorem ab_nofloat {ci : Nat} (h : ci < 12) : ∀ k, k < ab_N ci → ab_ik (ab_tys ci k) ≠ 3 := by
  match ci, h with
  | 0, _ => decide +kernel
  | 1, _ => decide +kernel
  | 2, _ => decide +kernel
  | 3, _ => decide +kernel
  | 4, _ => decide +kernel
  | 5, _ => decide +kernel
  | 6, _ => decide +kernel
  | 7, _ => decide +kernel
  | 8, _ => decide +kernel
  | 9, _ => decide +kernel
  | 10, _ => decide +kernel
  | 11, _ => decide +kernel
  | n + 12, h => exact absurd h (by omega)
section ABN
variable {k b : Nat} {M : ab_MK} {pc : Nat} {ls : List (Option Value)} {st : List Value} {h : ab_H} {post : Value → ab_H → Prop}
theorem ab_new_rep {B : Nat} {ex : Nat → Nat} {eA : Nat → Cell} {dA : Nat → ClassId} {D : va_G} {H H1 H0 : Heap} {locs : List Loc} {s : Nat × Nat} {x : va_E} (hr : ab_rep B ex eA dA D h H) (hS : va_S (fun q => B ≤ q) H0 H locs) (hx : ab_cell B ex dA (ab_new h s) (5 + ab_n h) = x) (e1 : va_at D vwCl (H.size, x) H1) (z1 : H1.size = H.size + 1) (o1 : ∀ q : Nat, q < H.size → H1[q]? = H[q]?) : ab_rep B ex eA dA D (ab_new h s) H1 ∧ va_S (fun q => B ≤ q) H0 H1 locs := by
  obtain ⟨r1, r2, r3, r4⟩ := hr
  refine ⟨⟨?_, by rw [z1, r2]; show _ = B + (ab_n h + 1); omega, fun a ha => ?_, fun j g1 g2 => ?_⟩, ⟨by rw [z1]; exact Nat.le_trans hS.1 (Nat.le_succ _), fun q g1 g2 => by rw [o1 q (Nat.lt_of_lt_of_le g1 hS.1)]; exact hS.2.1 q g1 g2, hS.2.2⟩⟩
  · rw [← ab_ws_new hx, ← r2]
    have hk : ∀ (k : Nat) (y : Nat × va_E), (ab_ws B ex dA h)[k]? = some y → H1[y.1]? = H[y.1]? := fun k y hy => o1 y.1 ((r1 k y hy).lt)
    refine (r1.kept hk).app (fun k y hy => ?_)
    have hz : k < 1 := (List.getElem?_eq_some_iff.mp hy).1
    rw [show k = 0 by omega] at hy
    cases hy
    exact e1
  · show 5 ≤ a ∧ a < 5 + (ab_n h + 1)
    by_cases e : a = 5 + ab_n h
    · omega
    · have := r3 a (by
        have e2 : ab_sh (ab_new h s) a = ab_sh h a := ab_up_ne _ _ e
        rw [← e2]; exact ha)
      omega
  · obtain ⟨q1, q2, q3⟩ := r4 j g1 g2
    exact ⟨q1, q2, by rw [o1 _ (by omega)]; exact q3⟩
theorem ab_newo {i ci b' : Nat} (hd : decode M.2.1 pc = .ok (.new i, 3)) (hcl : Cond.classLink M.1.cls i (ab_C ci) ∈ lw_tbl) (hins : Cond.instantiable (ab_C ci) (ab_N ci) ∈ lw_tbl) (hini : Cond.initialized (ab_C ci) ∈ lw_tbl) (kk : ab_R k b' M (pc + 3) ls (.ref (5 + ab_n h) :: st) (ab_new h (ci + 1, 0)) post) (hci : ci < 12 := by decide) (hb : b' + 1 ≤ b := by omega) (hb2 : 12 * b' + ab_N ci ≤ 12 * b := by exact Nat.le_of_ble_eq_true rfl) : ab_R k b M pc ls st h post := by
  intro B ex eA dA D p l e R s m args below meth c cm sm Q C hcm hsm hex H locs A cells slots hr hS hA h1 h2
  have tk := C.2.2.2.2.1
  have hcls := ab_cl hci
  have hKn := C.2.2.2.2.2.1.1.1 ci _ hcls
  refine W.newcK C.1 C.2.1 C.2.2.2.1 (tk _ (List.mem_filter.mpr ⟨hcl, rfl⟩)) (tk _ (List.mem_filter.mpr ⟨hins, rfl⟩)) (tk _ (List.mem_filter.mpr ⟨hini, rfl⟩)) rfl hd (by omega) (by omega) hKn.2.1 rfl fun H1 kC hkC e1 z1 o1 => ?_
  have hsz := hr.2.1
  have hx : ab_cell B ex dA (ab_new h (ci + 1, 0)) (5 + ab_n h) = .inr (ci, (List.range (ab_N ci)).map (fun k => ab_val B ex (ab_new h (ci + 1, 0)) (5 + ab_n h) (ab_tys ci k) k)) := ab_cell_obj (x := 0) (ab_up_self _ _ _) hci
  obtain ⟨g1, g2⟩ := ab_new_rep hr hS hx (H1 := H1) (by
    refine ⟨_, hcls, (u_born (ab_tys ci) tk (ab_in_tg ci) hKn hkC e1 (ab_tyok hci)).to fun j hj => ?_⟩
    unfold vp_V
    rw [List.getD_eq_getElem?_getD, List.getElem?_map, List.getElem?_range hj]
    show _ = ab_val B ex (ab_new h (ci + 1, 0)) (5 + ab_n h) (ab_tys ci j) j
    have a1 : ab_i (ab_new h (ci + 1, 0)) (5 + ab_n h) j = 0 := congrFun (ab_up_self _ _ _ : ab_i (ab_new h (ci + 1, 0)) (5 + ab_n h) = fun _ => 0) j
    have a2 : ab_l (ab_new h (ci + 1, 0)) (5 + ab_n h) j = 0 := congrFun (ab_up_self _ _ _ : ab_l (ab_new h (ci + 1, 0)) (5 + ab_n h) = fun _ => 0) j
    have a3 : ab_r (ab_new h (ci + 1, 0)) (5 + ab_n h) j = 0 := congrFun (ab_up_self _ _ _ : ab_r (ab_new h (ci + 1, 0)) (5 + ab_n h) = fun _ => 0) j
    have nf : ab_ik (ab_tys ci j) ≠ 3 := ab_nofloat hci j hj
    generalize ab_tys ci j = ty at nf ⊢
    cases ty <;> simp [ab_val, defaultValue, a1, a2, a3, ab_rf, ab_ik] at nf ⊢) z1 o1
  have e8 : ab_vv B ex (.ref (5 + ab_n h)) = .ref H.size := by
    show ab_rf B ex (5 + ab_n h) = _
    rw [ab_rf_pos (by omega), hsz]
    unfold ab_sg
    rw [if_neg (by omega), show 5 + ab_n h - 5 = ab_n h by omega]
  have kk := kk B ex eA dA D p l e R s m args below meth c cm sm Q C hcm hsm hex H1 locs A (cells + 1) (slots + ab_N ci) g1 g2 hA (by omega) (by omega)
  rw [List.map_cons, e8] at kk
  exact kk
theorem ab_newa {at_ : ArrayType} {t n b' : Nat} {x : Int32} (hd : decode M.2.1 pc = .ok (.newarray at_, 2)) (hac : Cond.arrayClass (newarray.typeOf at_) ∈ lw_tbl) (ht : (t = 0 ∧ newarray.typeOf at_ = .int) ∨ (t = 1 ∧ newarray.typeOf at_ = .long) ∨ (t = 2 ∧ newarray.typeOf at_ = .boolean) ∨ (t = 3 ∧ newarray.typeOf at_ = .char)) (hx : x = nI n) (kk : ab_R k b' M (pc + 2) ls (.ref (5 + ab_n h) :: st) (ab_new h (100 + t, n)) post) (hn : n ≤ 1000 := by decide) (hb : b' + 1 ≤ b := by omega) (hb2 : 12 * b' + n ≤ 12 * b := by exact Nat.le_of_ble_eq_true rfl) : ab_R k b M pc ls (.int x :: st) h post := by
  intro B ex eA dA D p l e R s m args below meth c cm sm Q C hcm hsm hex H locs A cells slots hr hS hA h1 h2
  subst hx
  have tk := C.2.2.2.2.1
  have hsz := hr.2.1
  have hN : (nI n).toNatClampNeg = n := nI_clamp (by omega)
  have hbt : componentBytes (newarray.typeOf at_) ≤ 8 := by
    rcases ht with ⟨-, q⟩ | ⟨-, q⟩ | ⟨-, q⟩ | ⟨-, q⟩ <;> rw [q] <;> decide
  refine va_newaK C.1 C.2.1 (tk _ (List.mem_filter.mpr ⟨hac, rfl⟩)) rfl hd rfl (nI_pos (by omega)) hN (by
    have := Nat.mul_le_mul hn hbt
    omega) (by omega) (by omega) rfl fun H1 cA e1 z1 o1 hAr hNm => ?_
  have e8 : ab_vv B ex (.ref (5 + ab_n h)) = .ref H.size := by
    show ab_rf B ex (5 + ab_n h) = _
    rw [ab_rf_pos (by omega), hsz]
    unfold ab_sg
    rw [if_neg (by omega), show 5 + ab_n h - 5 = ab_n h by omega]
  have fin : ∀ xx : va_E, ab_cell B ex dA (ab_new h (100 + t, n)) (5 + ab_n h) = xx → va_at D vwCl (H.size, xx) H1 → W p l e R s m args below meth c H1 locs (cells + 1) (slots + n) Q (F0 m (pc + 2) A (.ref H.size :: st.map (ab_vv B ex))) := by
    intro xx hx hat
    obtain ⟨g1, g2⟩ := ab_new_rep hr hS hx hat z1 o1
    have kk := kk B ex eA dA D p l e R s m args below meth c cm sm Q C hcm hsm hex H1 locs A (cells + 1) (slots + n) g1 g2 hA (by omega) (by omega)
    rw [List.map_cons, e8] at kk
    exact kk
  have a1 : ab_i (ab_new h (100 + t, n)) (5 + ab_n h) = fun _ => 0 := ab_up_self _ _ _
  have a2 : ab_l (ab_new h (100 + t, n)) (5 + ab_n h) = fun _ => 0 := ab_up_self _ _ _
  have hs9 : ab_sh (ab_new h (100 + t, n)) (5 + ab_n h) = (100 + t, n) := ab_up_self _ _ _
  rcases ht with ⟨rfl, q⟩ | ⟨rfl, q⟩ | ⟨rfl, q⟩ | ⟨rfl, q⟩
  · rw [q] at e1 hNm
    have hcA : cA = dA 0 := Option.some.inj (hNm.symm.trans (C.2.2.2.2.2.1.1.2 0 _ rfl).2)
    refine fin _ (ab_cell_arr (t := 0) hs9 (Or.inl rfl)) ?_
    show H1[H.size]? = some (arrV (dA 0) n (fun j => .int (ab_i (ab_new h (100 + 0, n)) (5 + ab_n h) j)))
    rw [e1, hcA, a1]; rfl
  · rw [q] at e1 hNm
    have hcA : cA = dA 1 := Option.some.inj (hNm.symm.trans (C.2.2.2.2.2.1.1.2 1 _ rfl).2)
    refine fin _ (ab_cell_arl hs9) ?_
    show H1[H.size]? = some (arrV (dA 1) n (fun j => .long (ab_l (ab_new h (100 + 1, n)) (5 + ab_n h) j)))
    rw [e1, hcA, a2]; rfl
  · rw [q] at e1 hNm
    have hcA : cA = dA 2 := Option.some.inj (hNm.symm.trans (C.2.2.2.2.2.1.1.2 2 _ rfl).2)
    refine fin _ (ab_cell_arr (t := 2) hs9 (Or.inr (Or.inl rfl))) ?_
    show H1[H.size]? = some (arrV (dA 2) n (fun j => .int (ab_i (ab_new h (100 + 2, n)) (5 + ab_n h) j)))
    rw [e1, hcA, a1]; rfl
  · rw [q] at e1 hNm
    have hcA : cA = dA 3 := Option.some.inj (hNm.symm.trans (C.2.2.2.2.2.1.1.2 3 _ rfl).2)
    refine fin _ (ab_cell_arr (t := 3) hs9 (Or.inr (Or.inr rfl))) ?_
    show H1[H.size]? = some (arrV (dA 3) n (fun j => .int (ab_i (ab_new h (100 + 3, n)) (5 + ab_n h) j)))
    rw [e1, hcA, a1]; rfl
theorem ab_newq {i t n b' : Nat} {x : Int32} (hd : decode M.2.1 pc = .ok (.anewarray i, 3)) (hcl : Cond.classLink M.1.cls i (ab_C (ab_ac t)) ∈ lw_tbl) (hx : x = nI n) (kk : ab_R k b' M (pc + 3) ls (.ref (5 + ab_n h) :: st) (ab_new h (100 + t, n)) post) (ht : 4 ≤ t := by decide) (ht8 : t < 8 := by decide) (hn : n ≤ 1000 := by decide) (hb : b' + 1 ≤ b := by omega) (hb2 : 12 * b' + n ≤ 12 * b := by exact Nat.le_of_ble_eq_true rfl) : ab_R k b M pc ls (.int x :: st) h post := by
  intro B ex eA dA D p l e R s m args below meth c cm sm Q C hcm hsm hex H locs A cells slots hr hS hA h1 h2
  subst hx
  have tk := C.2.2.2.2.1
  have hsz := hr.2.1
  have hN : (nI n).toNatClampNeg = n := nI_clamp (by omega)
  have hao : va_AO (ab_C (ab_ac t)) s := by
    have q := C.2.2.2.2.2.1.2.2.1
    match t, ht, ht8 with
    | 4, _, _ => exact q.1
    | 5, _, _ => exact q.2.1
    | 6, _, _ => exact q.2.2.1
    | 7, _, _ => exact q.2.2.2
  refine W.anew C.1 C.2.1 C.2.2.2.1 (tk _ (List.mem_filter.mpr ⟨hcl, rfl⟩)) (va_AO.use hao) rfl hd rfl (nI_pos (by omega)) (by rw [hN]; omega) (by omega) (by rw [hN]; omega) fun cA kA comp f1 f2 f3 f4 => ?_
  rw [hN]
  obtain ⟨kA', comp', u1, u2, u3, u4⟩ := (C.2.2.2.2.2.1.1.2 t _ (ab_ts_q ht ht8)).2
  have hcA : cA = dA t := Option.some.inj (f1.symm.trans u4)
  subst hcA
  have e8 : ab_vv B ex (.ref (5 + ab_n h)) = .ref H.size := by
    show ab_rf B ex (5 + ab_n h) = _
    rw [ab_rf_pos (by omega), hsz]
    unfold ab_sg
    rw [if_neg (by omega), show 5 + ab_n h - 5 = ab_n h by omega]
  have hs9 : ab_sh (ab_new h (100 + t, n)) (5 + ab_n h) = (100 + t, n) := ab_up_self _ _ _
  have a3 : ab_r (ab_new h (100 + t, n)) (5 + ab_n h) = fun _ => 0 := ab_up_self _ _ _
  obtain ⟨H1, hH1⟩ : ∃ y, H.push { cls := dA t, slots := Array.replicate n .null, vm := .none } = y := ⟨_, rfl⟩
  rw [hH1]
  have e1 : H1[H.size]? = some (arrV (dA t) n (fun _ => .null)) := by rw [← hH1, Array.getElem?_push_size, ← arrV_new]
  have o1 : ∀ q : Nat, q < H.size → H1[q]? = H[q]? := fun q hq => by rw [← hH1, Array.getElem?_push, if_neg (Nat.ne_of_lt hq)]
  have z1 : H1.size = H.size + 1 := by rw [← hH1]; simp
  obtain ⟨g1, g2⟩ := ab_new_rep hr hS (ab_cell_arq hs9 ht) (H1 := H1) (by
    show H1[H.size]? = some (arrV (dA t) n (fun j => va_rf (if ab_r (ab_new h (100 + t, n)) (5 + ab_n h) j = 0 then none else some (ab_sg B ex (ab_r (ab_new h (100 + t, n)) (5 + ab_n h) j)))))
    rw [e1, a3]
    rfl) z1 o1
  have kk := kk B ex eA dA D p l e R s m args below meth c cm sm Q C hcm hsm hex H1 locs A (cells + 1) (slots + n) g1 g2 hA (by omega) (by omega)
  rw [List.map_cons, e8] at kk
  exact kk
theorem ab_objInit {i a : Nat} (hd : decode M.2.1 pc = .ok (.invokespecial i, 3)) (hl : Cond.methodLink M.1.cls i ⟨"java/lang/Object", "<init>", "()V"⟩ ∈ lw_tbl) (ha : a ≠ 0) (kk : ab_R k b M (pc + 3) ls st h post) (hk : 1 ≤ k := by omega) (hW : (st.map fun v => v.category).sum ≤ 8 := by exact Nat.le_of_ble_eq_true rfl) : ab_R k b M pc ls (.ref a :: st) h post := by
  intro B ex eA dA D p l e R s m args below meth c cm sm Q C hcm hsm hex H locs A cells slots hr hS hA h1 h2
  have tk := C.2.2.2.2.1
  have e9 : ab_vv B ex (.ref a) = .ref (ab_sg B ex a) := ab_rf_pos ha
  rw [List.map_cons, e9]
  have q1 := C.2.2.2.2.2.2.2.1
  have q2 := C.2.2.2.2.2.2.2.2.1
  refine W.objInit (idx := i) C.1 C.2.1 C.2.2.2.1 (tk _ (List.mem_filter.mpr ⟨hl, rfl⟩)) (tk _ (List.mem_filter.mpr ⟨ab_oi_inst, rfl⟩)) (tk _ (List.mem_filter.mpr ⟨ab_oi_code, rfl⟩)) rfl (hA.1.trans C.2.2.1.symm) rfl hd (Nat.le_trans hk q1) (by
    show 2 * 0 + ((st.map (ab_vv B ex)).map fun v => v.category).sum + 12 ≤ R.locals
    rw [ab_cat_sum]; omega) ?_
  exact kk B ex eA dA D p l e R s m args below meth c cm sm Q C hcm hsm hex H locs A cells slots hr hS hA h1 h2
end ABN
