/-! ===== fields ===== -/
def ab_ik (ty : FieldType) : Nat := match ty with
  | .long => 1
  | .object _ => 2
  | .array _ => 2
  | .float => 3
  | .double => 3
  | _ => 0
theorem ab_cl {ci : Nat} (h : ci < 12) : vwCl[ci]? = some (ab_C ci, ab_T ci, ab_N ci) := by
  match ci, h with
  | 0, _ => rfl
  | 1, _ => rfl
  | 2, _ => rfl
  | 3, _ => rfl
  | 4, _ => rfl
  | 5, _ => rfl
  | 6, _ => rfl
  | 7, _ => rfl
  | 8, _ => rfl
  | 9, _ => rfl
  | 10, _ => rfl
  | 11, _ => rfl
  | n + 12, h => exact absurd h (by omega)
theorem ab_tyok {ci : Nat} (h : ci < 12) : ∀ k, k < ab_N ci → parseFieldDescriptor (ab_T ci k).2.2.1 = some (ab_tys ci k) := by
  match ci, h with
  | 0, _ => exact tyX0_ok
  | 1, _ => exact tyX2_ok
  | 2, _ => exact tyX3_ok
  | 3, _ => exact tyX4_ok
  | 4, _ => exact tyX5_ok
  | 5, _ => exact tyX6_ok
  | 6, _ => exact tyX7_ok
  | 7, _ => exact tyX8_ok
  | 8, _ => exact tyX9_ok
  | 9, _ => exact tyX10_ok
  | 10, _ => exact tyX11_ok
  | 11, _ => exact tyX12_ok
  | n + 12, h => exact absurd h (by omega)
theorem ab_nmok {ci : Nat} (h : ci < 12) : ∀ a, a < ab_N ci → ∀ b, b < ab_N ci → a ≠ b → (ab_T ci a).2.1 ≠ (ab_T ci b).2.1 := by
  match ci, h with
  | 0, _ => exact nmX0
  | 1, _ => exact nmX2
  | 2, _ => exact nmX3
  | 3, _ => exact nmX4
  | 4, _ => exact nmX5
  | 5, _ => exact nmX6
  | 6, _ => exact nmX7
  | 7, _ => exact nmX8
  | 8, _ => exact nmX9
  | 9, _ => exact nmX10
  | 10, _ => exact nmX11
  | 11, _ => exact nmX12
  | n + 12, h => exact absurd h (by omega)
theorem ab_same {ci : Nat} (h : ci < 12) : ∀ k, k < ab_N ci → (ab_T ci k).1 = ab_C ci := by
  match ci, h with
  | 0, _ => decide
  | 1, _ => decide
  | 2, _ => decide
  | 3, _ => decide
  | 4, _ => decide
  | 5, _ => decide
  | 6, _ => decide
  | 7, _ => decide
  | 8, _ => decide
  | 9, _ => decide
  | 10, _ => decide
  | 11, _ => exact fun k hk => by have := hk; revert k; decide +kernel
  | n + 12, h => exact absurd h (by omega)
theorem ab_in_tg (ci : Nat) : ∀ w ∈ u_ws (ab_C ci) (ab_T ci) (ab_N ci), w ∈ ab_tg := by
  intro w hw
  refine List.mem_filter.mpr ⟨ab_in_all ci w hw, ?_⟩
  obtain ⟨k, -, rfl⟩ := List.mem_map.mp hw
  unfold u_lay
  split <;> rfl
theorem ab_fs_at {B : Nat} {ex : Nat → Nat} {h : ab_H} {a ci k : Nat} (hk : k < ab_N ci) : ((List.range (ab_N ci)).map (fun k => ab_val B ex h a (ab_tys ci k) k))[k]? = some (ab_val B ex h a (ab_tys ci k) k) := by
  rw [List.getElem?_map, List.getElem?_range hk]; rfl
theorem ab_val_i {B : Nat} {ex : Nat → Nat} {h : ab_H} {a k : Nat} {ty : FieldType} (ht : ab_ik ty = 0) : ab_val B ex h a ty k = .int (ab_i h a k) := by
  cases ty <;> first | rfl | (simp [ab_ik] at ht)
theorem ab_val_l {B : Nat} {ex : Nat → Nat} {h : ab_H} {a k : Nat} {ty : FieldType} (ht : ab_ik ty = 1) : ab_val B ex h a ty k = .long (ab_l h a k) := by
  cases ty <;> first | rfl | (simp [ab_ik] at ht)
theorem ab_val_r {B : Nat} {ex : Nat → Nat} {h : ab_H} {a k : Nat} {ty : FieldType} (ht : ab_ik ty = 2) : ab_val B ex h a ty k = ab_rf B ex (ab_r h a k) := by
  cases ty <;> first | rfl | (simp [ab_ik] at ht)
section ABF
variable {k b : Nat} {M : ab_MK} {pc : Nat} {ls : List (Option Value)} {st : List Value} {h : ab_H} {post : Value → ab_H → Prop}
theorem ab_getv {i ci kf a x : Nat} (hd : decode M.2.1 pc = .ok (.getfield i, 3)) (hf : ab_fl M.1.cls i ci kf) (hci : ci < 12) (hs : ab_sh h a = (ci + 1, x)) (hk : kf < ab_N ci) {v : Value} (hv : ∀ B ex, ab_val B ex h a (ab_tys ci kf) kf = ab_vv B ex v) (kk : ab_R k b M (pc + 3) ls (v :: st) h post) : ab_R k b M pc ls (.ref a :: st) h post := by
  intro B ex eA dA D p l e R s m args below meth c cm sm Q C hcm hsm hex H locs A cells slots hr hS hA h1 h2
  have kk := kk B ex eA dA D p l e R s m args below meth c cm sm Q C hcm hsm hex H locs A cells slots hr hS hA h1 h2
  have ha := hr.2.2.1 a (by rw [hs]; exact Nat.succ_ne_zero ci)
  have e : ab_vv B ex (.ref a) = .ref (ab_sg B ex a) := ab_rf_pos (by omega)
  rw [List.map_cons, e]
  rw [List.map_cons, ← hv B ex] at kk
  exact va_get C.1 C.2.1 C.2.2.2.2.1 (ab_in_tg ci) C.2.2.2.1 C.2.2.2.2.2.1.1 hr.1 (a - 5) ((ab_ws_at ha.1 ha.2).trans (by rw [ab_cell_obj hs hci])) (ab_cl hci) kf hk (C.2.2.2.2.1 _ (List.mem_filter.mpr ⟨hf, rfl⟩)) (fun y h9 => by rw [ab_same hci kf hk] at h9; exact h9) (ab_fs_at hk) hd kk
theorem ab_getI {i ci kf a x : Nat} (hd : decode M.2.1 pc = .ok (.getfield i, 3)) (hf : ab_fl M.1.cls i ci kf) (hs : ab_sh h a = (ci + 1, x)) {v : Int32} (hv : ab_i h a kf = v) (kk : ab_R k b M (pc + 3) ls (.int v :: st) h post) (hci : ci < 12 := by decide) (hk : kf < ab_N ci := by decide) (ht : ab_ik (ab_tys ci kf) = 0 := by rfl) : ab_R k b M pc ls (.ref a :: st) h post :=
  ab_getv hd hf hci hs hk (fun B ex => by rw [ab_val_i ht, hv]; rfl) kk
theorem ab_getL {i ci kf a x : Nat} (hd : decode M.2.1 pc = .ok (.getfield i, 3)) (hf : ab_fl M.1.cls i ci kf) (hs : ab_sh h a = (ci + 1, x)) {v : Int64} (hv : ab_l h a kf = v) (kk : ab_R k b M (pc + 3) ls (.long v :: st) h post) (hci : ci < 12 := by decide) (hk : kf < ab_N ci := by decide) (ht : ab_ik (ab_tys ci kf) = 1 := by rfl) : ab_R k b M pc ls (.ref a :: st) h post :=
  ab_getv hd hf hci hs hk (fun B ex => by rw [ab_val_l ht, hv]; rfl) kk
theorem ab_getR {i ci kf a x : Nat} (hd : decode M.2.1 pc = .ok (.getfield i, 3)) (hf : ab_fl M.1.cls i ci kf) (hs : ab_sh h a = (ci + 1, x)) {v : Nat} (hv : ab_r h a kf = v) (kk : ab_R k b M (pc + 3) ls (.ref v :: st) h post) (hci : ci < 12 := by decide) (hk : kf < ab_N ci := by decide) (ht : ab_ik (ab_tys ci kf) = 2 := by rfl) : ab_R k b M pc ls (.ref a :: st) h post :=
  ab_getv hd hf hci hs hk (fun B ex => by rw [ab_val_r ht, hv]; rfl) kk
/-- a rep behind a write at one address -/
theorem ab_rep_set {B : Nat} {ex : Nat → Nat} {eA : Nat → Cell} {dA : Nat → ClassId} {D : va_G} {h h' : ab_H} {H H1 : Heap} {a : Nat} {x : va_E} (hr : ab_rep B ex eA dA D h H) (ha : 5 ≤ a) (hn : ab_n h' = ab_n h) (hs : ab_sh h' = ab_sh h) (he : ab_e h' = ab_e h) (hx : ab_cell B ex dA h' a = x) (hb : ∀ b, b ≠ a → ab_cell B ex dA h' b = ab_cell B ex dA h b) (hP : va_P D vwCl ((ab_ws B ex dA h).set (a - 5) (ab_sg B ex a, x)) H1) (hz : H1.size = H.size) (hk : ∀ q : Nat, q < B → H1[q]? = H[q]?) : ab_rep B ex eA dA D h' H1 := by
  rw [ab_ws_set ha hn hx hb] at hP
  refine ⟨hP, by rw [hz, hn]; exact hr.2.1, fun c hc => by rw [hs] at hc; rw [hn]; exact hr.2.2.1 c hc, fun j h1 h2 => ?_⟩
  obtain ⟨q1, q2, q3⟩ := hr.2.2.2 j h1 h2
  rw [he]
  exact ⟨q1, q2, by rw [hk _ q1]; exact q3⟩
/-- a heap's write as the kit's rows give it, sized -/
theorem ab_putv {i ci kf a x : Nat} {v : Value} {h' : ab_H} (hd : decode M.2.1 pc = .ok (.putfield i, 3)) (hf : ab_fl M.1.cls i ci kf) (hci : ci < 12) (hs : ab_sh h a = (ci + 1, x)) (hk : kf < ab_N ci) (hfin : (ab_T ci kf).2.2.2 = false ∨ ((ab_T ci kf).2.2.2 = true ∧ M.1.name = "<init>" ∧ ab_C ci = M.1.cls))
    (hn : ∀ B ex, narrow (ab_tys ci kf) (ab_vv B ex v) = ab_vv B ex v ∧ fits (ab_tys ci kf) (ab_vv B ex v) = true) (h1' : ab_n h' = ab_n h) (h2' : ab_sh h' = ab_sh h) (h3' : ab_e h' = ab_e h)
    (hx : ∀ B ex, ab_val B ex h' a (ab_tys ci kf) kf = ab_vv B ex v) (hj : ∀ B ex j, j ≠ kf → ab_val B ex h' a (ab_tys ci j) j = ab_val B ex h a (ab_tys ci j) j) (hb : ∀ B ex dA b, b ≠ a → ab_cell B ex dA h' b = ab_cell B ex dA h b)
    (kk : ab_R k b M (pc + 3) ls st h' post) : ab_R k b M pc ls (v :: .ref a :: st) h post := by
  intro B ex eA dA D p l e R s m args below meth c cm sm Q C hcm hsm hex H locs A cells slots hr hS hA h1 h2
  have ha := hr.2.2.1 a (by rw [hs]; exact Nat.succ_ne_zero ci)
  have ee : ab_vv B ex (.ref a) = .ref (ab_sg B ex a) := ab_rf_pos (by omega)
  rw [List.map_cons, List.map_cons, ee]
  have hcell : ab_cell B ex dA h' a = .inr (ci, ((List.range (ab_N ci)).map (fun k => ab_val B ex h a (ab_tys ci k) k)).set kf (ab_vv B ex v)) := by
    rw [ab_cell_obj (x := x) (by rw [h2']; exact hs) hci, ← hx B ex]
    exact congrArg (fun l => Sum.inr (ci, l)) (ab_range_set (ab_N ci) kf (fun k => ab_val B ex h a (ab_tys ci k) k) (fun k => ab_val B ex h' a (ab_tys ci k) k) (fun j q => hj B ex j q)).symm
  have hcl := ab_cl hci
  have hcell0 : (ab_ws B ex dA h)[a - 5]? = some (ab_sg B ex a, .inr (ci, (List.range (ab_N ci)).map (fun k => ab_val B ex h a (ab_tys ci k) k))) := (ab_ws_at ha.1 ha.2).trans (by rw [ab_cell_obj hs hci])
  have hge : B ≤ ab_sg B ex a := by unfold ab_sg; rw [if_neg (by omega)]; exact Nat.le_add_right _ _
  obtain ⟨r, r1, cell, q1, q2, q3, q4⟩ := hr.1 (a - 5) _ hcell0
  have hr' : r = (ab_C ci, ab_T ci, ab_N ci) := Option.some.inj (r1.symm.trans hcl)
  subst hr'
  have hK := C.2.2.2.2.2.1.1
  obtain ⟨hSl, hfc, kC, hkC, hkind⟩ := hK.1 ci _ hcl
  obtain ⟨cf, kf', fi, f, hi, hsl⟩ := hSl kf hk
  have hlink := C.2.2.2.2.1 _ (List.mem_filter.mpr ⟨hf, rfl⟩ : _ ∈ ab_tg)
  have hap := va_apart (own := M.1.cls) C.2.2.2.2.1 (ab_in_tg ci) (ab_tys ci) (ab_tyok hci) (ab_nmok hci) hK hcl
  have hlay := C.2.2.2.2.1 _ (ab_in_tg ci _ (u_in_lay hk))
  have hi' : s.fieldFound? (ab_C ci) (ab_T ci kf).2.1 (ab_T ci kf).2.2.1 = some (cf, kf', fi, f) := by rw [ab_same hci kf hk] at hi; exact hi
  have fin : ∀ H1 : Heap, H1[ab_sg B ex a]? = some (cell.setSlot f.slot (ab_vv B ex v)) → H1.size = H.size → (∀ q : Nat, q ≠ ab_sg B ex a → H1[q]? = H[q]?) → ∀ locs1, (∀ q ∈ locs1, B ≤ q.base) →
      W p l e R s m args below meth c H1 locs1 cells slots Q (F0 m (pc + 3) A (st.map (ab_vv B ex))) := by
    intro H1 e1 z1 o1 locs1 hL
    have hP1 : va_P D vwCl ((ab_ws B ex dA h).set (a - 5) (ab_sg B ex a, .inr (ci, ((List.range (ab_N ci)).map (fun k => ab_val B ex h a (ab_tys ci k) k)).set kf (ab_vv B ex v)))) H1 := by
      refine hr.1.set ab_D hcell0 ?_ o1
      refine ⟨_, hcl, cell.setSlot f.slot (ab_vv B ex v), e1, q2, q3, fun j hj9 => ?_⟩
      have h5 := t_set q4 hap hk (ab_vv B ex v) j hj9
      rw [hsl]
      rw [h5]
      unfold updV vp_V
      by_cases e9 : j = kf
      · subst e9
        rw [if_pos rfl, List.getD_eq_getElem?_getD, List.getElem?_set_self (by simpa using hj9)]
        rfl
      · rw [if_neg e9, List.getD_eq_getElem?_getD, List.getD_eq_getElem?_getD, List.getElem?_set_ne (fun q => e9 q.symm)]
    refine kk B ex eA dA D p l e R s m args below meth c cm sm Q C hcm hsm hex H1 locs1 A cells slots (ab_rep_set hr ha.1 h1' h2' h3' hcell (fun b q => hb B ex dA b q) hP1 z1 (fun q hq => o1 q (by omega))) ⟨by rw [z1]; exact hS.1, fun q hq hB => ?_, hL⟩ hA h1 h2
    rw [o1 q (by intro e9; subst e9; exact hB hge)]
    exact hS.2.1 q hq hB
  have hL : ∀ q ∈ locs ++ [⟨ab_sg B ex a, f.slot⟩], B ≤ q.base := by
    intro q hq
    rcases List.mem_append.mp hq with h9 | h9
    · exact hS.2.2 q h9
    · rw [List.mem_singleton] at h9; subst h9; exact hge
  have hslot : f.slot < cell.slots.size := by rw [hsl]; exact k2_hasslot (q4 kf hk)
  rcases hfin with hfin | ⟨hfin, hini, hcc⟩
  · unfold u_lay at hlay
    rw [if_neg (by rw [hfin]; decide)] at hlay
    refine W.putK C.1 C.2.1 (f := f) ⟨C.2.2.2.1, hlink, ⟨_, _, _, hi'⟩, (u_facts hfc hkC (u_lays C.2.2.2.2.1 (ab_in_tg ci) hk) hi).1⟩ (by rw [q2]; rw [ab_same hci kf hk] at hlay; exact k2_store hfc hkC hkind hlay hi' (ab_tyok hci kf hk) (hn B ex).1 (hn B ex).2) q1 q3 hslot rfl rfl hd fun H' e1 e2 e3 => fin H' e1 e2 e3 _ hL
  · unfold u_lay at hlay
    rw [if_pos hfin] at hlay
    have hlay' := hlay
    rw [ab_same hci kf hk] at hlay'
    refine W.putFinK C.1 C.2.1 C.2.2.2.1 hlink hi' (u_facts hfc hkC (u_lays C.2.2.2.2.1 (ab_in_tg ci) hk) hi).1 (laid_decl (by rw [← C.2.2.2.1, hcc]) hlay' hi') (C.2.2.2.2.2.2.1.trans hini) (by rw [q2]; exact k2_fits hfc hkC hkind (Or.inr hlay') hi' (ab_tyok hci kf hk) (hn B ex).1 (hn B ex).2) q1 q3 hslot rfl rfl hd fun H' e1 e2 e3 => fin H' e1 e2 e3 _ hL
end ABF
