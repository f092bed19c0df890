/-! ===== writes of fields, arrays, new cells ===== -/
section ABG
variable {k b : Nat} {M : ab_MK} {pc : Nat} {ls : List (Option Value)} {st : List Value} {h : ab_H} {post : Value → ab_H → Prop}
theorem ab_val_si {B : Nat} {ex : Nat → Nat} {h : ab_H} {a kf j : Nat} {v : Int32} {ty : FieldType} (hj : j ≠ kf) : ab_val B ex (ab_si h a kf v) a ty j = ab_val B ex h a ty j := by
  have e : ab_i (ab_si h a kf v) a j = ab_i h a j := by
    show ab_up (ab_i h) a (ab_up (ab_i h a) kf v) a j = _
    rw [ab_up_self, ab_up_ne _ _ hj]
  cases ty <;> first | rfl | (show Value.int _ = Value.int _; rw [e])
theorem ab_val_sl {B : Nat} {ex : Nat → Nat} {h : ab_H} {a kf j : Nat} {v : Int64} {ty : FieldType} (hj : j ≠ kf) : ab_val B ex (ab_sl h a kf v) a ty j = ab_val B ex h a ty j := by
  have e : ab_l (ab_sl h a kf v) a j = ab_l h a j := by
    show ab_up (ab_l h) a (ab_up (ab_l h a) kf v) a j = _
    rw [ab_up_self, ab_up_ne _ _ hj]
  cases ty <;> first | rfl | (show Value.long _ = Value.long _; rw [e])
theorem ab_val_sr {B : Nat} {ex : Nat → Nat} {h : ab_H} {a kf j : Nat} {v : Nat} {ty : FieldType} (hj : j ≠ kf) : ab_val B ex (ab_sr h a kf v) a ty j = ab_val B ex h a ty j := by
  have e : ab_r (ab_sr h a kf v) a j = ab_r h a j := by
    show ab_up (ab_r h) a (ab_up (ab_r h a) kf v) a j = _
    rw [ab_up_self, ab_up_ne _ _ hj]
  cases ty <;> first | rfl | (show ab_rf B ex _ = ab_rf B ex _; rw [e])
theorem ab_i_si_self (h : ab_H) (a kf : Nat) (v : Int32) : ab_i (ab_si h a kf v) a kf = v := by
  show ab_up (ab_i h) a (ab_up (ab_i h a) kf v) a kf = _
  rw [ab_up_self, ab_up_self]
theorem ab_l_sl_self (h : ab_H) (a kf : Nat) (v : Int64) : ab_l (ab_sl h a kf v) a kf = v := by
  show ab_up (ab_l h) a (ab_up (ab_l h a) kf v) a kf = _
  rw [ab_up_self, ab_up_self]
theorem ab_r_sr_self (h : ab_H) (a kf : Nat) (v : Nat) : ab_r (ab_sr h a kf v) a kf = v := by
  show ab_up (ab_r h) a (ab_up (ab_r h a) kf v) a kf = _
  rw [ab_up_self, ab_up_self]
theorem ab_fit_rf (B : Nat) (ex : Nat → Nat) (a : Nat) {ty : FieldType} (ht : ab_ik ty = 2) : narrow ty (ab_rf B ex a) = ab_rf B ex a ∧ fits ty (ab_rf B ex a) = true := by
  unfold ab_rf
  split <;> cases ty <;> first | exact ⟨rfl, rfl⟩ | (simp [ab_ik] at ht)
theorem ab_fit_l {x : Int64} {ty : FieldType} (ht : ab_ik ty = 1) : narrow ty (.long x) = .long x ∧ fits ty (.long x) = true := by
  cases ty <;> first | exact ⟨rfl, rfl⟩ | (simp [ab_ik] at ht)
theorem ab_putI {i ci kf a x : Nat} {v : Int32} (hd : decode M.2.1 pc = .ok (.putfield i, 3)) (hf : ab_fl M.1.cls i ci kf) (hs : ab_sh h a = (ci + 1, x)) (kk : ab_R k b M (pc + 3) ls st (ab_si h a kf v) post) (hci : ci < 12 := by decide) (hk : kf < ab_N ci := by decide) (ht : ab_ik (ab_tys ci kf) = 0 := by rfl)
    (hn : narrow (ab_tys ci kf) (.int v) = .int v ∧ fits (ab_tys ci kf) (.int v) = true := by exact ⟨rfl, rfl⟩) (hfin : (ab_T ci kf).2.2.2 = false ∨ ((ab_T ci kf).2.2.2 = true ∧ M.1.name = "<init>" ∧ ab_C ci = M.1.cls) := by first | exact Or.inl rfl | exact Or.inr ⟨rfl, rfl, rfl⟩) : ab_R k b M pc ls (.int v :: .ref a :: st) h post :=
  ab_putv (h' := ab_si h a kf v) hd hf hci hs hk hfin (fun _ _ => hn) rfl rfl rfl (fun B ex => by rw [ab_val_i ht, ab_i_si_self]; rfl) (fun B ex j hj => ab_val_si hj) (fun B ex dA c hc => ab_cell_si_ne c hc) kk
theorem ab_putL {i ci kf a x : Nat} {v : Int64} (hd : decode M.2.1 pc = .ok (.putfield i, 3)) (hf : ab_fl M.1.cls i ci kf) (hs : ab_sh h a = (ci + 1, x)) (kk : ab_R k b M (pc + 3) ls st (ab_sl h a kf v) post) (hci : ci < 12 := by decide) (hk : kf < ab_N ci := by decide) (ht : ab_ik (ab_tys ci kf) = 1 := by rfl)
    (hfin : (ab_T ci kf).2.2.2 = false ∨ ((ab_T ci kf).2.2.2 = true ∧ M.1.name = "<init>" ∧ ab_C ci = M.1.cls) := by first | exact Or.inl rfl | exact Or.inr ⟨rfl, rfl, rfl⟩) : ab_R k b M pc ls (.long v :: .ref a :: st) h post :=
  ab_putv (h' := ab_sl h a kf v) hd hf hci hs hk hfin (fun _ _ => ab_fit_l ht) rfl rfl rfl (fun B ex => by rw [ab_val_l ht, ab_l_sl_self]; rfl) (fun B ex j hj => ab_val_sl hj) (fun B ex dA c hc => ab_cell_sl_ne c hc) kk
theorem ab_putR {i ci kf a x : Nat} {v : Nat} (hd : decode M.2.1 pc = .ok (.putfield i, 3)) (hf : ab_fl M.1.cls i ci kf) (hs : ab_sh h a = (ci + 1, x)) (kk : ab_R k b M (pc + 3) ls st (ab_sr h a kf v) post) (hci : ci < 12 := by decide) (hk : kf < ab_N ci := by decide) (ht : ab_ik (ab_tys ci kf) = 2 := by rfl)
    (hfin : (ab_T ci kf).2.2.2 = false ∨ ((ab_T ci kf).2.2.2 = true ∧ M.1.name = "<init>" ∧ ab_C ci = M.1.cls) := by first | exact Or.inl rfl | exact Or.inr ⟨rfl, rfl, rfl⟩) : ab_R k b M pc ls (.ref v :: .ref a :: st) h post :=
  ab_putv (h' := ab_sr h a kf v) hd hf hci hs hk hfin (fun B ex => ab_fit_rf B ex v ht) rfl rfl rfl (fun B ex => by rw [ab_val_r ht, ab_r_sr_self]; rfl) (fun B ex j hj => ab_val_sr hj) (fun B ex dA c hc => ab_cell_sr_ne c hc) kk
/-! arrays -/
theorem ab_cell_arr {B : Nat} {ex : Nat → Nat} {dA : Nat → ClassId} {h : ab_H} {a t n : Nat} (hs : ab_sh h a = (100 + t, n)) (ht : t = 0 ∨ t = 2 ∨ t = 3) : ab_cell B ex dA h a = .inl (dA t, n, .inl (ab_i h a)) := by
  unfold ab_cell
  rw [hs]
  simp only
  rw [if_neg (by omega), if_neg (by omega), if_pos (by omega), show 100 + t - 100 = t by omega]
theorem ab_cell_arl {B : Nat} {ex : Nat → Nat} {dA : Nat → ClassId} {h : ab_H} {a n : Nat} (hs : ab_sh h a = (101, n)) : ab_cell B ex dA h a = .inl (dA 1, n, .inr (.inl (ab_l h a))) := by
  unfold ab_cell
  rw [hs]
  simp only
  rw [if_neg (by omega), if_pos trivial]
theorem ab_cell_arq {B : Nat} {ex : Nat → Nat} {dA : Nat → ClassId} {h : ab_H} {a t n : Nat} (hs : ab_sh h a = (100 + t, n)) (ht : 4 ≤ t) : ab_cell B ex dA h a = .inl (dA t, n, .inr (.inr (.inr (.inr (fun k => if ab_r h a k = 0 then none else some (ab_sg B ex (ab_r h a k))))))) := by
  unfold ab_cell
  rw [hs]
  simp only
  rw [if_neg (by omega), if_neg (by omega), if_neg (by omega), show 100 + t - 100 = t by omega]
theorem ab_nI_in {j n : Nat} (hj : j < n) (hn : n ≤ 2147483648) : vp_in (nI j) n ∧ (nI j).toNatClampNeg = j := by
  have h1 : (nI j).toNatClampNeg = j := nI_clamp (by omega)
  exact ⟨fun q => by
    rcases q with q | q
    · exact nI_pos (by omega) q
    · rw [h1] at q; omega, h1⟩
theorem ab_iald {a j n : Nat} {x v : Int32} (hd : decode M.2.1 pc = .ok (.iaload, 1)) (hs : ab_sh h a = (100, n)) (hx : x = nI j) (hj : j < n) (hv : ab_i h a j = v) (kk : ab_R k b M (pc + 1) ls (.int v :: st) h post) (hn : n ≤ 2147483648 := by decide) : ab_R k b M pc ls (.int x :: .ref a :: st) h post := by
  intro B ex eA dA D p l e R s m args below meth c cm sm Q C hcm hsm hex H locs A cells slots hr hS hA h1 h2
  subst hx hv
  have ha := hr.2.2.1 a (by rw [hs]; exact Nat.noConfusion)
  have e9 : ab_vv B ex (.ref a) = .ref (ab_sg B ex a) := ab_rf_pos (by omega)
  rw [List.map_cons, List.map_cons, e9]
  refine va_iald (f := ab_i h a) (n := n) C.1 C.2.1 C.2.2.2.2.2.1.1 hr.1 (a - 5) 0 ((ab_ws_at ha.1 ha.2).trans (by rw [ab_cell_arr (t := 0) hs (Or.inl rfl)])) rfl (ab_nI_in hj hn).1 hd ?_
  rw [(ab_nI_in hj hn).2]
  exact kk B ex eA dA D p l e R s m args below meth c cm sm Q C hcm hsm hex H locs A cells slots hr hS hA h1 h2
theorem ab_cald {a j n : Nat} {x v : Int32} (hd : decode M.2.1 pc = .ok (.caload, 1)) (hs : ab_sh h a = (103, n)) (hx : x = nI j) (hj : j < n) (hv : ab_i h a j = v) (kk : ab_R k b M (pc + 1) ls (.int v :: st) h post) (hn : n ≤ 2147483648 := by decide) : ab_R k b M pc ls (.int x :: .ref a :: st) h post := by
  intro B ex eA dA D p l e R s m args below meth c cm sm Q C hcm hsm hex H locs A cells slots hr hS hA h1 h2
  subst hx hv
  have ha := hr.2.2.1 a (by rw [hs]; exact Nat.noConfusion)
  have e9 : ab_vv B ex (.ref a) = .ref (ab_sg B ex a) := ab_rf_pos (by omega)
  rw [List.map_cons, List.map_cons, e9]
  refine va_cald (f := ab_i h a) (n := n) C.1 C.2.1 C.2.2.2.2.2.1.1 hr.1 (a - 5) 3 ((ab_ws_at ha.1 ha.2).trans (by rw [ab_cell_arr (t := 3) hs (Or.inr (Or.inr rfl))])) rfl (ab_nI_in hj hn).1 hd ?_
  rw [(ab_nI_in hj hn).2]
  exact kk B ex eA dA D p l e R s m args below meth c cm sm Q C hcm hsm hex H locs A cells slots hr hS hA h1 h2
theorem ab_bald {a j n : Nat} {x v : Int32} (hd : decode M.2.1 pc = .ok (.baload, 1)) (hs : ab_sh h a = (102, n)) (hx : x = nI j) (hj : j < n) (hv : ab_i h a j = v) (kk : ab_R k b M (pc + 1) ls (.int v :: st) h post) (hn : n ≤ 2147483648 := by decide) : ab_R k b M pc ls (.int x :: .ref a :: st) h post := by
  intro B ex eA dA D p l e R s m args below meth c cm sm Q C hcm hsm hex H locs A cells slots hr hS hA h1 h2
  subst hx hv
  have ha := hr.2.2.1 a (by rw [hs]; exact Nat.noConfusion)
  have e9 : ab_vv B ex (.ref a) = .ref (ab_sg B ex a) := ab_rf_pos (by omega)
  rw [List.map_cons, List.map_cons, e9]
  refine va_zald (f := ab_i h a) (n := n) C.1 C.2.1 C.2.2.2.2.2.1.1 hr.1 (a - 5) 2 ((ab_ws_at ha.1 ha.2).trans (by rw [ab_cell_arr (t := 2) hs (Or.inr (Or.inl rfl))])) rfl (ab_nI_in hj hn).1 hd ?_
  rw [(ab_nI_in hj hn).2]
  exact kk B ex eA dA D p l e R s m args below meth c cm sm Q C hcm hsm hex H locs A cells slots hr hS hA h1 h2
theorem ab_lald {a j n : Nat} {x : Int32} {v : Int64} (hd : decode M.2.1 pc = .ok (.laload, 1)) (hs : ab_sh h a = (101, n)) (hx : x = nI j) (hj : j < n) (hv : ab_l h a j = v) (kk : ab_R k b M (pc + 1) ls (.long v :: st) h post) (hn : n ≤ 2147483648 := by decide) : ab_R k b M pc ls (.int x :: .ref a :: st) h post := by
  intro B ex eA dA D p l e R s m args below meth c cm sm Q C hcm hsm hex H locs A cells slots hr hS hA h1 h2
  subst hx hv
  have ha := hr.2.2.1 a (by rw [hs]; exact Nat.noConfusion)
  have e9 : ab_vv B ex (.ref a) = .ref (ab_sg B ex a) := ab_rf_pos (by omega)
  rw [List.map_cons, List.map_cons, e9]
  refine va_lald (f := ab_l h a) (n := n) C.1 C.2.1 C.2.2.2.2.2.1.1 hr.1 (a - 5) 1 ((ab_ws_at ha.1 ha.2).trans (by rw [ab_cell_arl hs])) rfl (ab_nI_in hj hn).1 hd ?_
  rw [(ab_nI_in hj hn).2]
  exact kk B ex eA dA D p l e R s m args below meth c cm sm Q C hcm hsm hex H locs A cells slots hr hS hA h1 h2
/-- the class of the objects in a row of references -/
def ab_ac (t : Nat) : Nat := match t with
  | 4 => 6
  | 5 => 4
  | 6 => 5
  | _ => 9
theorem ab_ts_q {dA : Nat → ClassId} {t : Nat} (h1 : 4 ≤ t) (h2 : t < 8) : (ab_ts dA)[t]? = some (dA t, .object (ab_C (ab_ac t))) := by
  match t, h1, h2 with
  | 4, _, _ => rfl
  | 5, _, _ => rfl
  | 6, _, _ => rfl
  | 7, _, _ => rfl
theorem ab_aald {a j n t : Nat} {x : Int32} {v : Nat} (hd : decode M.2.1 pc = .ok (.aaload, 1)) (hs : ab_sh h a = (100 + t, n)) (hx : x = nI j) (hj : j < n) (hv : ab_r h a j = v) (kk : ab_R k b M (pc + 1) ls (.ref v :: st) h post) (ht : 4 ≤ t := by decide) (ht8 : t < 8 := by decide) (hn : n ≤ 2147483648 := by decide) : ab_R k b M pc ls (.int x :: .ref a :: st) h post := by
  intro B ex eA dA D p l e R s m args below meth c cm sm Q C hcm hsm hex H locs A cells slots hr hS hA h1 h2
  subst hx hv
  have ha := hr.2.2.1 a (by rw [hs]; show 100 + t ≠ 0; omega)
  have e9 : ab_vv B ex (.ref a) = .ref (ab_sg B ex a) := ab_rf_pos (by omega)
  rw [List.map_cons, List.map_cons, e9]
  refine va_aldq (f := fun k => if ab_r h a k = 0 then none else some (ab_sg B ex (ab_r h a k))) (n := n) C.1 C.2.1 C.2.2.2.2.2.1.1 hr.1 (a - 5) t ((ab_ws_at ha.1 ha.2).trans (by rw [ab_cell_arq hs ht])) (ab_ts_q ht ht8) (ab_nI_in hj hn).1 hd ?_
  rw [(ab_nI_in hj hn).2]
  have e8 : va_rf (if ab_r h a j = 0 then none else some (ab_sg B ex (ab_r h a j))) = ab_vv B ex (.ref (ab_r h a j)) := by
    show _ = ab_rf B ex (ab_r h a j)
    unfold ab_rf
    split <;> rfl
  rw [e8]
  exact kk B ex eA dA D p l e R s m args below meth c cm sm Q C hcm hsm hex H locs A cells slots hr hS hA h1 h2
/-- stores into arrays -/
theorem ab_ast {B : Nat} {ex : Nat → Nat} {eA : Nat → Cell} {dA : Nat → ClassId} {D : va_G} {h h' : ab_H} {H H1 H0 : Heap} {locs : List Loc} {a j : Nat} {x : va_E} (hr : ab_rep B ex eA dA D h H) (ha : 5 ≤ a ∧ a < 5 + ab_n h) (hn : ab_n h' = ab_n h) (hs : ab_sh h' = ab_sh h) (he : ab_e h' = ab_e h) (hx : ab_cell B ex dA h' a = x) (hb : ∀ b, b ≠ a → ab_cell B ex dA h' b = ab_cell B ex dA h b) (hS : va_S (fun q => B ≤ q) H0 H locs) (e1 : va_at D vwCl (ab_sg B ex a, x) H1) (z1 : H1.size = H.size) (o1 : ∀ q : Nat, q ≠ ab_sg B ex a → H1[q]? = H[q]?) : ab_rep B ex eA dA D h' H1 ∧ va_S (fun q => B ≤ q) H0 H1 (locs ++ [⟨ab_sg B ex a, j⟩]) := by
  have hge : B ≤ ab_sg B ex a := by unfold ab_sg; rw [if_neg (by omega)]; exact Nat.le_add_right _ _
  have hP1 := hr.1.set ab_D (ab_ws_at ha.1 ha.2) e1 o1
  refine ⟨ab_rep_set hr ha.1 hn hs he hx hb hP1 z1 (fun q hq => o1 q (by omega)), by rw [z1]; exact hS.1, fun q hq hB => ?_, fun q hq => ?_⟩
  · rw [o1 q (by intro e9; subst e9; exact hB hge)]
    exact hS.2.1 q hq hB
  · rcases List.mem_append.mp hq with h9 | h9
    · exact hS.2.2 q h9
    · rw [List.mem_singleton] at h9; subst h9; exact hge
theorem ab_iast {a j n : Nat} {x : Int32} {v : Int32} (hd : decode M.2.1 pc = .ok (.iastore, 1)) (hs : ab_sh h a = (100, n)) (hx : x = nI j) (hj : j < n) (kk : ab_R k b M (pc + 1) ls st (ab_si h a j v) post) (hn : n ≤ 2147483648 := by decide)  : ab_R k b M pc ls (.int v :: .int x :: .ref a :: st) h post := by
  intro B ex eA dA D p l e R s m args below meth c cm sm Q C hcm hsm hex H locs A cells slots hr hS hA h1 h2
  subst hx
  have ha := hr.2.2.1 a (by rw [hs]; exact Nat.noConfusion)
  have e9 : ab_vv B ex (.ref a) = .ref (ab_sg B ex a) := ab_rf_pos (by omega)
  rw [List.map_cons, List.map_cons, List.map_cons, e9]
  have hc0 := ab_cell_arr (B := B) (ex := ex) (dA := dA) (t := 0) hs (Or.inl rfl)
  have hat : H[ab_sg B ex a]? = some (arrV (dA 0) n (fun j => .int (ab_i h a j))) := hr.1 (a - 5) (ab_sg B ex a, .inl (dA 0, n, .inl (ab_i h a))) ((ab_ws_at ha.1 ha.2).trans (by rw [hc0]))
  obtain ⟨g1, g2⟩ := ab_nI_in hj hn
  refine W.iast C.1 C.2.1 hat ((C.2.2.2.2.2.1.1.2 0 _ rfl).1 n _) (fun q => by cases q) (by show ¬ (_ ∨ (arrV _ _ _).slots.size ≤ _); rw [arrV_size]; exact g1) rfl rfl hd fun H1 e1 z1 o1 => ?_
  rw [g2] at e1 ⊢
  have e2 : ab_cell B ex dA (ab_si h a j v) a = .inl (dA 0, n, .inl (ab_i (ab_si h a j v) a)) := ab_cell_arr (t := 0) (show ab_sh (ab_si h a j v) a = (100 + 0, n) from hs) (Or.inl rfl)
  obtain ⟨r1, r2⟩ := ab_ast (h' := ab_si h a j v) (j := j) hr ha rfl rfl rfl e2 (fun b hb => ab_cell_si_ne b hb) hS (H1 := H1) (by
    show H1[ab_sg B ex a]? = some (arrV (dA 0) n (fun i => .int (ab_i (ab_si h a j v) a i)))
    rw [e1, arrV_store]
    congr 2
    funext i
    show _ = Value.int (ab_up (ab_i h) a (ab_up (ab_i h a) j v) a i)
    rw [ab_up_self]
    unfold updV ab_up
    split <;> rfl) z1 o1
  exact kk B ex eA dA D p l e R s m args below meth c cm sm Q C hcm hsm hex H1 _ A cells slots r1 r2 hA h1 h2
theorem ab_zast {a j n : Nat} {x : Int32} {v : Int32} (hd : decode M.2.1 pc = .ok (.bastore, 1)) (hs : ab_sh h a = (102, n)) (hx : x = nI j) (hj : j < n) (kk : ab_R k b M (pc + 1) ls st (ab_si h a j v) post) (hn : n ≤ 2147483648 := by decide) (hv : narrow .boolean (.int v) = .int v := by rfl) : ab_R k b M pc ls (.int v :: .int x :: .ref a :: st) h post := by
  intro B ex eA dA D p l e R s m args below meth c cm sm Q C hcm hsm hex H locs A cells slots hr hS hA h1 h2
  subst hx
  have ha := hr.2.2.1 a (by rw [hs]; exact Nat.noConfusion)
  have e9 : ab_vv B ex (.ref a) = .ref (ab_sg B ex a) := ab_rf_pos (by omega)
  rw [List.map_cons, List.map_cons, List.map_cons, e9]
  have hc0 := ab_cell_arr (B := B) (ex := ex) (dA := dA) (t := 2) hs (Or.inr (Or.inl rfl))
  have hat : H[ab_sg B ex a]? = some (arrV (dA 2) n (fun j => .int (ab_i h a j))) := hr.1 (a - 5) (ab_sg B ex a, .inl (dA 2, n, .inl (ab_i h a))) ((ab_ws_at ha.1 ha.2).trans (by rw [hc0]))
  obtain ⟨g1, g2⟩ := ab_nI_in hj hn
  refine W.zast C.1 C.2.1 hat ((C.2.2.2.2.2.1.1.2 2 _ rfl).1 n _) (fun q => by cases q) (by show ¬ (_ ∨ (arrV _ _ _).slots.size ≤ _); rw [arrV_size]; exact g1) rfl rfl hd fun H1 e1 z1 o1 => ?_
  rw [g2] at e1 ⊢
  have e2 : ab_cell B ex dA (ab_si h a j v) a = .inl (dA 2, n, .inl (ab_i (ab_si h a j v) a)) := ab_cell_arr (t := 2) (show ab_sh (ab_si h a j v) a = (100 + 2, n) from hs) (Or.inr (Or.inl rfl))
  obtain ⟨r1, r2⟩ := ab_ast (h' := ab_si h a j v) (j := j) hr ha rfl rfl rfl e2 (fun b hb => ab_cell_si_ne b hb) hS (H1 := H1) (by
    show H1[ab_sg B ex a]? = some (arrV (dA 2) n (fun i => .int (ab_i (ab_si h a j v) a i)))
    rw [e1, hv, arrV_store]
    congr 2
    funext i
    show _ = Value.int (ab_up (ab_i h) a (ab_up (ab_i h a) j v) a i)
    rw [ab_up_self]
    unfold updV ab_up
    split <;> rfl) z1 o1
  exact kk B ex eA dA D p l e R s m args below meth c cm sm Q C hcm hsm hex H1 _ A cells slots r1 r2 hA h1 h2
theorem ab_cast {a j n : Nat} {x : Int32} {v : Int32} (hd : decode M.2.1 pc = .ok (.castore, 1)) (hs : ab_sh h a = (103, n)) (hx : x = nI j) (hj : j < n) (kk : ab_R k b M (pc + 1) ls st (ab_si h a j v) post) (hn : n ≤ 2147483648 := by decide) (hv : narrow .char (.int v) = .int v := by rfl) : ab_R k b M pc ls (.int v :: .int x :: .ref a :: st) h post := by
  intro B ex eA dA D p l e R s m args below meth c cm sm Q C hcm hsm hex H locs A cells slots hr hS hA h1 h2
  subst hx
  have ha := hr.2.2.1 a (by rw [hs]; exact Nat.noConfusion)
  have e9 : ab_vv B ex (.ref a) = .ref (ab_sg B ex a) := ab_rf_pos (by omega)
  rw [List.map_cons, List.map_cons, List.map_cons, e9]
  have hc0 := ab_cell_arr (B := B) (ex := ex) (dA := dA) (t := 3) hs (Or.inr (Or.inr rfl))
  have hat : H[ab_sg B ex a]? = some (arrV (dA 3) n (fun j => .int (ab_i h a j))) := hr.1 (a - 5) (ab_sg B ex a, .inl (dA 3, n, .inl (ab_i h a))) ((ab_ws_at ha.1 ha.2).trans (by rw [hc0]))
  obtain ⟨g1, g2⟩ := ab_nI_in hj hn
  refine W.cast C.1 C.2.1 hat ((C.2.2.2.2.2.1.1.2 3 _ rfl).1 n _) (fun q => by cases q) (by show ¬ (_ ∨ (arrV _ _ _).slots.size ≤ _); rw [arrV_size]; exact g1) rfl rfl hd fun H1 e1 z1 o1 => ?_
  rw [g2] at e1 ⊢
  have e2 : ab_cell B ex dA (ab_si h a j v) a = .inl (dA 3, n, .inl (ab_i (ab_si h a j v) a)) := ab_cell_arr (t := 3) (show ab_sh (ab_si h a j v) a = (100 + 3, n) from hs) (Or.inr (Or.inr rfl))
  obtain ⟨r1, r2⟩ := ab_ast (h' := ab_si h a j v) (j := j) hr ha rfl rfl rfl e2 (fun b hb => ab_cell_si_ne b hb) hS (H1 := H1) (by
    show H1[ab_sg B ex a]? = some (arrV (dA 3) n (fun i => .int (ab_i (ab_si h a j v) a i)))
    rw [e1, hv, arrV_store]
    congr 2
    funext i
    show _ = Value.int (ab_up (ab_i h) a (ab_up (ab_i h a) j v) a i)
    rw [ab_up_self]
    unfold updV ab_up
    split <;> rfl) z1 o1
  exact kk B ex eA dA D p l e R s m args below meth c cm sm Q C hcm hsm hex H1 _ A cells slots r1 r2 hA h1 h2
theorem ab_last {a j n : Nat} {x : Int32} {v : Int64} (hd : decode M.2.1 pc = .ok (.lastore, 1)) (hs : ab_sh h a = (101, n)) (hx : x = nI j) (hj : j < n) (kk : ab_R k b M (pc + 1) ls st (ab_sl h a j v) post) (hn : n ≤ 2147483648 := by decide)  : ab_R k b M pc ls (.long v :: .int x :: .ref a :: st) h post := by
  intro B ex eA dA D p l e R s m args below meth c cm sm Q C hcm hsm hex H locs A cells slots hr hS hA h1 h2
  subst hx
  have ha := hr.2.2.1 a (by rw [hs]; exact Nat.noConfusion)
  have e9 : ab_vv B ex (.ref a) = .ref (ab_sg B ex a) := ab_rf_pos (by omega)
  rw [List.map_cons, List.map_cons, List.map_cons, e9]
  have hc0 := ab_cell_arl (B := B) (ex := ex) (dA := dA) hs
  have hat : H[ab_sg B ex a]? = some (arrV (dA 1) n (fun j => .long (ab_l h a j))) := hr.1 (a - 5) (ab_sg B ex a, .inl (dA 1, n, .inr (.inl (ab_l h a)))) ((ab_ws_at ha.1 ha.2).trans (by rw [hc0]))
  obtain ⟨g1, g2⟩ := ab_nI_in hj hn
  refine W.last C.1 C.2.1 hat ((C.2.2.2.2.2.1.1.2 1 _ rfl).1 n _) (fun q => by cases q) (by show ¬ (_ ∨ (arrV _ _ _).slots.size ≤ _); rw [arrV_size]; exact g1) rfl rfl hd fun H1 e1 z1 o1 => ?_
  rw [g2] at e1 ⊢
  have e2 : ab_cell B ex dA (ab_sl h a j v) a = .inl (dA 1, n, .inr (.inl (ab_l (ab_sl h a j v) a))) := ab_cell_arl (show ab_sh (ab_sl h a j v) a = (101, n) from hs)
  obtain ⟨r1, r2⟩ := ab_ast (h' := ab_sl h a j v) (j := j) hr ha rfl rfl rfl e2 (fun b hb => ab_cell_sl_ne b hb) hS (H1 := H1) (by
    show H1[ab_sg B ex a]? = some (arrV (dA 1) n (fun i => .long (ab_l (ab_sl h a j v) a i)))
    rw [e1, arrV_store]
    congr 2
    funext i
    show _ = Value.long (ab_up (ab_l h) a (ab_up (ab_l h a) j v) a i)
    rw [ab_up_self]
    unfold updV ab_up
    split <;> rfl) z1 o1
  exact kk B ex eA dA D p l e R s m args below meth c cm sm Q C hcm hsm hex H1 _ A cells slots r1 r2 hA h1 h2
theorem ab_ac_lt (t : Nat) : ab_ac t < 12 := by
  unfold ab_ac; split <;> decide
theorem ab_aast {a j n t w z : Nat} {x : Int32} (hd : decode M.2.1 pc = .ok (.aastore, 1)) (hs : ab_sh h a = (100 + t, n)) (hw : w = 0 ∨ ab_sh h w = (ab_ac t + 1, z)) (hx : x = nI j) (hj : j < n) (kk : ab_R k b M (pc + 1) ls st (ab_sr h a j w) post) (ht : 4 ≤ t := by decide) (ht8 : t < 8 := by decide) (hn : n ≤ 2147483648 := by decide) : ab_R k b M pc ls (.ref w :: .int x :: .ref a :: st) h post := by
  intro B ex eA dA D p l e R s m args below meth c cm sm Q C hcm hsm hex H locs A cells slots hr hS hA h1 h2
  subst hx
  have ha := hr.2.2.1 a (by rw [hs]; show 100 + t ≠ 0; omega)
  have e9 : ab_vv B ex (.ref a) = .ref (ab_sg B ex a) := ab_rf_pos (by omega)
  rw [List.map_cons, List.map_cons, List.map_cons, e9]
  have hc0 := ab_cell_arq (B := B) (ex := ex) (dA := dA) hs ht
  have hat : H[ab_sg B ex a]? = some (arrV (dA t) n (fun j => va_rf (if ab_r h a j = 0 then none else some (ab_sg B ex (ab_r h a j))))) := hr.1 (a - 5) (ab_sg B ex a, .inl (dA t, n, .inr (.inr (.inr (.inr (fun k => if ab_r h a k = 0 then none else some (ab_sg B ex (ab_r h a k)))))))) ((ab_ws_at ha.1 ha.2).trans (by rw [hc0]))
  obtain ⟨g1, g2⟩ := ab_nI_in hj hn
  have e2 : ab_cell B ex dA (ab_sr h a j w) a = .inl (dA t, n, .inr (.inr (.inr (.inr (fun k => if ab_r (ab_sr h a j w) a k = 0 then none else some (ab_sg B ex (ab_r (ab_sr h a j w) a k))))))) := ab_cell_arq (show ab_sh (ab_sr h a j w) a = (100 + t, n) from hs) ht
  have fin : ∀ H1 : Heap, H1[ab_sg B ex a]? = some ((arrV (dA t) n (fun j => va_rf (if ab_r h a j = 0 then none else some (ab_sg B ex (ab_r h a j))))).setSlot j (ab_rf B ex w)) → H1.size = H.size → (∀ q : Nat, q ≠ ab_sg B ex a → H1[q]? = H[q]?) → W p l e R s m args below meth c H1 (locs ++ [⟨ab_sg B ex a, j⟩]) cells slots Q (F0 m (pc + 1) A (st.map (ab_vv B ex))) := by
    intro H1 e1 z1 o1
    obtain ⟨r1, r2⟩ := ab_ast (h' := ab_sr h a j w) (j := j) hr ha rfl rfl rfl e2 (fun b hb => ab_cell_sr_ne b hb) hS (H1 := H1) (by
      show H1[ab_sg B ex a]? = some (arrV (dA t) n (fun i => va_rf (if ab_r (ab_sr h a j w) a i = 0 then none else some (ab_sg B ex (ab_r (ab_sr h a j w) a i)))))
      rw [e1, arrV_store]
      congr 2
      funext i
      have e3 : ab_r (ab_sr h a j w) a i = ab_up (ab_r h a) j w i := by
        show ab_up (ab_r h) a (ab_up (ab_r h a) j w) a i = _
        rw [ab_up_self]
      rw [e3]
      unfold updV ab_up ab_rf
      by_cases hi : i = j
      · rw [if_pos hi, if_pos hi]
        split <;> rfl
      · rw [if_neg hi, if_neg hi]) z1 o1
    exact kk B ex eA dA D p l e R s m args below meth c cm sm Q C hcm hsm hex H1 _ A cells slots r1 r2 hA h1 h2
  have htt := (C.2.2.2.2.2.1.1.2 t _ (ab_ts_q ht ht8))
  have hin : ¬ (nI j < 0 ∨ (arrV (dA t) n (fun j => va_rf (if ab_r h a j = 0 then none else some (ab_sg B ex (ab_r h a j))))).slots.size ≤ (nI j).toNatClampNeg) := by rw [arrV_size]; exact g1
  by_cases hw0 : w = 0
  · subst hw0
    refine va_WaastN (C := ab_C (ab_ac t)) C.1 C.2.1 hat (htt.1 n _) (fun q => by cases q) hin rfl rfl hd fun H1 e1 z1 o1 => ?_
    rw [g2] at e1 ⊢
    exact fin H1 e1 z1 o1
  · have hw := hw.resolve_left hw0
    have hwa := hr.2.2.1 w (by rw [hw]; exact Nat.noConfusion)
    have e8 : ab_vv B ex (.ref w) = .ref (ab_sg B ex w) := ab_rf_pos hw0
    have e7 : ab_rf B ex w = .ref (ab_sg B ex w) := ab_rf_pos hw0
    obtain ⟨r, r1, cell, q1, q2, q3, q4⟩ := hr.1 (w - 5) _ ((ab_ws_at hwa.1 hwa.2).trans (by rw [ab_cell_obj hw (ab_ac_lt t)]))
    have hcl := ab_cl (ab_ac_lt t)
    have hr' := Option.some.inj (r1.symm.trans hcl)
    subst hr'
    have hcls := (C.2.2.2.2.2.1.1.1 (ab_ac t) _ hcl).2
    obtain ⟨hfc, kC, hkC, hkind⟩ := hcls
    obtain ⟨kA, comp, u1, u2, u3, u4⟩ := htt.2
    have hcomp : comp = D.1 (ab_ac t) := Option.some.inj (u3.symm.trans hfc)
    subst hcomp
    rw [e8]
    refine W.aast (cv := cell) C.1 C.2.1 hat (fun q h => by cases h) (fun q => by cases q) u1 u2 rfl hkC ⟨fun q => hin (Or.inl q), Nat.not_le.mp (fun q => hin (Or.inr q))⟩ q1 (fun q h => by rw [q3] at h; cases h) (by rw [q2]; exact hkC) (by rw [q2]; exact va_assign ⟨hfc, kC, hkC, hkind⟩) rfl rfl hd fun H1 e1 z1 o1 => ?_
    rw [g2] at e1 ⊢
    exact fin H1 (by rw [e7]; exact e1) z1 o1
end ABG
