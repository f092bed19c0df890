section ABY
variable {k b : Nat} {M : ab_MK} {pc : Nat} {ls : List (Option Value)} {st : List Value} {h : ab_H} {post : Value → ab_H → Prop}
theorem ab_copyI {i a0 a1 N : Nat} {sp dp n : Int32} (hd : decode M.2.1 pc = .ok (.invokestatic i, 3)) (hl : Cond.methodLink M.1.cls i arraycopyName ∈ lw_tbl) (hs0 : ab_sh h a0 = (100, N)) (hs1 : ab_sh h a1 = (100, N)) (hsp : sp = nI 0) (hdp : dp = nI 0) (hnn : n = nI N) (kk : ab_R k b M (pc + 3) ls st (ab_sI h a1 (ab_i h a0)) post) (hN : N ≤ 1000 := by decide) (hk : 1 ≤ k := by omega) (hW : (st.map fun v => v.category).sum ≤ 8 := by exact Nat.le_of_ble_eq_true rfl) : ab_R k b M pc ls (.int n :: .int dp :: .ref a1 :: .int sp :: .ref a0 :: st) h post := by
  intro B ex eA dA D p l e R s m args below meth c cm sm Q C hcm hsm hex H locs A cells slots hr hS hA h1 h2
  subst hsp hdp hnn
  have tk := C.2.2.2.2.1
  have q1 := C.2.2.2.2.2.2.2.1
  have q2 := C.2.2.2.2.2.2.2.2.1
  have ha0 := hr.2.2.1 a0 (by rw [hs0]; exact Nat.noConfusion)
  have ha1 := hr.2.2.1 a1 (by rw [hs1]; exact Nat.noConfusion)
  have e9 : ab_vv B ex (.ref a0) = .ref (ab_sg B ex a0) := ab_rf_pos (by omega)
  have e8 : ab_vv B ex (.ref a1) = .ref (ab_sg B ex a1) := ab_rf_pos (by omega)
  have hm0 : (.int (nI N) :: .int (nI 0) :: .ref a1 :: .int (nI 0) :: .ref a0 :: st : List Value).map (ab_vv B ex) = .int (nI N) :: .int (nI 0) :: .ref (ab_sg B ex a1) :: .int (nI 0) :: .ref (ab_sg B ex a0) :: st.map (ab_vv B ex) := by
    simp only [List.map_cons, e8, e9]; rfl
  rw [hm0]
  have c0 := ab_cell_arr (B := B) (ex := ex) (dA := dA) (t := 0) hs0 (Or.inl rfl)
  have c1 := ab_cell_arr (B := B) (ex := ex) (dA := dA) (t := 0) hs1 (Or.inl rfl)
  have hc0 : H[ab_sg B ex a0]? = some (arrV (dA 0) N (fun j => .int (ab_i h a0 j))) := hr.1 (a0 - 5) (ab_sg B ex a0, .inl (dA 0, N, .inl (ab_i h a0))) ((ab_ws_at ha0.1 ha0.2).trans (by rw [c0]))
  have hc1 : H[ab_sg B ex a1]? = some (arrV (dA 0) N (fun j => .int (ab_i h a1 j))) := hr.1 (a1 - 5) (ab_sg B ex a1, .inl (dA 0, N, .inl (ab_i h a1))) ((ab_ws_at ha1.1 ha1.2).trans (by rw [c1]))
  have hty := C.2.2.2.2.2.1.1.2 0 _ rfl
  obtain ⟨-, k0, hk0, cm0, hkk0⟩ := hty.1 N (fun j => .int (ab_i h a0 j))
  obtain ⟨-, k1, hk1, cm1, hkk1⟩ := hty.1 N (fun j => .int (ab_i h a1 j))
  have z0 : ¬ nI 0 < 0 := nI_pos (by omega)
  have zN : ¬ nI N < 0 := nI_pos (by omega)
  have i0 : (nI 0).toInt = ((0 : Nat) : Int) := nI_toInt (by omega)
  have iN : (nI N).toInt = (N : Int) := nI_toInt (by omega)
  have n0 : (nI 0).toNatClampNeg = 0 := nI_clamp (by omega)
  have nN : (nI N).toNatClampNeg = N := nI_clamp (by omega)
  intro T hT X
  obtain ⟨vm', X', step⟩ := X.arraycopy C.1 C.2.2.2.1 (tk _ (List.mem_filter.mpr ⟨hl, rfl⟩)) (tk _ (List.mem_filter.mpr ⟨nt_arraycopy, rfl⟩)) (tk _ (List.mem_filter.mpr ⟨st_acopy, rfl⟩)) (tk _ (List.mem_filter.mpr ⟨it_J10, rfl⟩)) (src := ab_sg B ex a0) (dst := ab_sg B ex a1) (cs := arrV (dA 0) N (fun j => .int (ab_i h a0 j))) (cd := arrV (dA 0) N (fun j => .int (ab_i h a1 j))) (srcPos := nI 0) (destPos := nI 0) (n := nI N) (by rw [hT]; exact hc0) (by rw [hT]; exact hc1)
    (fun _ h => by cases h) (fun _ h => by cases h) (fun h => by cases h) (fun h => by cases h) hk0 hk1 hkk0 hkk1 (by simp [refKind]) z0 z0 zN
    (by rw [i0, iN, arrV_size]; omega) (by rw [i0, iN, arrV_size]; omega)
    (fun vm₁ _ i hi => by
      rw [nN] at hi
      rw [n0, Nat.zero_add]
      have e : (arrV (dA 0) N (fun j => .int (ab_i h a0 j))).slots.getD i .null = .int (ab_i h a0 i) := by
        rw [Array.getD_eq_getD_getElem?, arrV_read _ _ hi]
        rfl
      exact ⟨by rw [e]; rfl, by rw [e]; exact trivial⟩)
    (g := F0 m pc A (.int (nI N) :: .int (nI 0) :: .ref (ab_sg B ex a1) :: .int (nI 0) :: .ref (ab_sg B ex a0) :: st.map (ab_vv B ex))) rfl (hA.1.trans C.2.2.1.symm) (rest := st.map (ab_vv B ex)) rfl (by rw [C.2.1]; exact hd) (Nat.le_trans hk q1) (by
      have hw : nativeFrameWords "java/lang/System" "arraycopy" 5 ≤ 20 := by decide
      show 2 * 0 + ((st.map (ab_vv B ex)).map fun v => v.category).sum + _ ≤ _
      rw [ab_cat_sum]; omega)
  have e1 : copied (arrV (dA 0) N (fun j => .int (ab_i h a0 j))) (arrV (dA 0) N (fun j => .int (ab_i h a1 j))) (nI 0) (nI 0) (nI N) = arrV (dA 0) N (fun j => .int (ab_i h a0 j)) := by
    refine (va_copied (fun z => .int z) (dA 0) (dA 0) (sp := (nI 0).toNatClampNeg) (dp := (nI 0).toNatClampNeg) (n := (nI N).toNatClampNeg) (ab_i h a0) (ab_i h a1) (by rw [n0, nN]; omega)).trans ?_
    apply ab_arrV_congr
    intro j hj
    simp only [va_cpy, n0, nN]
    rw [if_pos (by omega)]
    congr 2
    omega
  rw [e1] at X' step
  have hl : ab_sg B ex a1 < H.size := (Array.getElem?_eq_some_iff.mp hc1).1
  have hge : B ≤ ab_sg B ex a1 := by unfold ab_sg; rw [if_neg (by omega)]; exact Nat.le_add_right _ _
  have hheap : ((T.setVm vm').setCell (ab_sg B ex a1) (arrV (dA 0) N (fun j => .int (ab_i h a0 j)))).heap = H.setIfInBounds (ab_sg B ex a1) (arrV (dA 0) N (fun j => .int (ab_i h a0 j))) := by rw [← hT]; rfl
  have oq : ∀ q : Nat, q ≠ ab_sg B ex a1 → (H.setIfInBounds (ab_sg B ex a1) (arrV (dA 0) N (fun j => .int (ab_i h a0 j))))[q]? = H[q]? := fun q hq => by simp [Array.getElem?_setIfInBounds, Ne.symm hq]
  have es : ab_i (ab_sI h a1 (ab_i h a0)) a1 = ab_i h a0 := ab_up_self _ _ _
  have e2 : ab_cell B ex dA (ab_sI h a1 (ab_i h a0)) a1 = .inl (dA 0, N, .inl (ab_i h a0)) := by
    refine Eq.trans (ab_cell_arr (B := B) (ex := ex) (dA := dA) (t := 0) (show ab_sh (ab_sI h a1 (ab_i h a0)) a1 = (100, N) from hs1) (Or.inl rfl)) ?_
    rw [es]
  obtain ⟨r1, r2⟩ := ab_ast (h' := ab_sI h a1 (ab_i h a0)) (j := 0) hr ha1 rfl rfl rfl e2 (fun b hb => ab_cell_sI_ne b hb) hS (H1 := H.setIfInBounds (ab_sg B ex a1) (arrV (dA 0) N (fun j => .int (ab_i h a0 j)))) (by
    show (H.setIfInBounds _ _)[ab_sg B ex a1]? = some (arrV (dA 0) N (fun j => .int (ab_i h a0 j)))
    simp [Array.getElem?_setIfInBounds, hl]) (by simp) oq
  obtain ⟨t, a1', b1⟩ := kk B ex eA dA D p l e R s m args below meth c cm sm Q C hcm hsm hex _ _ A cells slots r1 ⟨r2.1, r2.2.1, fun q hq => by
      rcases List.mem_append.mp hq with h | h
      · exact hS.2.2 q h
      · obtain ⟨z, -, hz⟩ := List.mem_map.mp h
        rw [← hz]
        exact hge⟩ hA h1 h2 _ hheap X'
  exact ⟨t, step t a1', b1⟩
theorem ab_copyL {i a0 a1 N : Nat} {sp dp n : Int32} (hd : decode M.2.1 pc = .ok (.invokestatic i, 3)) (hl : Cond.methodLink M.1.cls i arraycopyName ∈ lw_tbl) (hs0 : ab_sh h a0 = (101, N)) (hs1 : ab_sh h a1 = (101, N)) (hsp : sp = nI 0) (hdp : dp = nI 0) (hnn : n = nI N) (kk : ab_R k b M (pc + 3) ls st (ab_sL h a1 (ab_l h a0)) post) (hN : N ≤ 1000 := by decide) (hk : 1 ≤ k := by omega) (hW : (st.map fun v => v.category).sum ≤ 8 := by exact Nat.le_of_ble_eq_true rfl) : ab_R k b M pc ls (.int n :: .int dp :: .ref a1 :: .int sp :: .ref a0 :: st) h post := by
  intro B ex eA dA D p l e R s m args below meth c cm sm Q C hcm hsm hex H locs A cells slots hr hS hA h1 h2
  subst hsp hdp hnn
  have tk := C.2.2.2.2.1
  have q1 := C.2.2.2.2.2.2.2.1
  have q2 := C.2.2.2.2.2.2.2.2.1
  have ha0 := hr.2.2.1 a0 (by rw [hs0]; exact Nat.noConfusion)
  have ha1 := hr.2.2.1 a1 (by rw [hs1]; exact Nat.noConfusion)
  have e9 : ab_vv B ex (.ref a0) = .ref (ab_sg B ex a0) := ab_rf_pos (by omega)
  have e8 : ab_vv B ex (.ref a1) = .ref (ab_sg B ex a1) := ab_rf_pos (by omega)
  have hm0 : (.int (nI N) :: .int (nI 0) :: .ref a1 :: .int (nI 0) :: .ref a0 :: st : List Value).map (ab_vv B ex) = .int (nI N) :: .int (nI 0) :: .ref (ab_sg B ex a1) :: .int (nI 0) :: .ref (ab_sg B ex a0) :: st.map (ab_vv B ex) := by
    simp only [List.map_cons, e8, e9]; rfl
  rw [hm0]
  have c0 := ab_cell_arl (B := B) (ex := ex) (dA := dA) hs0
  have c1 := ab_cell_arl (B := B) (ex := ex) (dA := dA) hs1
  have hc0 : H[ab_sg B ex a0]? = some (arrV (dA 1) N (fun j => .long (ab_l h a0 j))) := hr.1 (a0 - 5) (ab_sg B ex a0, .inl (dA 1, N, .inr (.inl (ab_l h a0)))) ((ab_ws_at ha0.1 ha0.2).trans (by rw [c0]))
  have hc1 : H[ab_sg B ex a1]? = some (arrV (dA 1) N (fun j => .long (ab_l h a1 j))) := hr.1 (a1 - 5) (ab_sg B ex a1, .inl (dA 1, N, .inr (.inl (ab_l h a1)))) ((ab_ws_at ha1.1 ha1.2).trans (by rw [c1]))
  have hty := C.2.2.2.2.2.1.1.2 1 _ rfl
  obtain ⟨-, k0, hk0, cm0, hkk0⟩ := hty.1 N (fun j => .long (ab_l h a0 j))
  obtain ⟨-, k1, hk1, cm1, hkk1⟩ := hty.1 N (fun j => .long (ab_l h a1 j))
  have z0 : ¬ nI 0 < 0 := nI_pos (by omega)
  have zN : ¬ nI N < 0 := nI_pos (by omega)
  have i0 : (nI 0).toInt = ((0 : Nat) : Int) := nI_toInt (by omega)
  have iN : (nI N).toInt = (N : Int) := nI_toInt (by omega)
  have n0 : (nI 0).toNatClampNeg = 0 := nI_clamp (by omega)
  have nN : (nI N).toNatClampNeg = N := nI_clamp (by omega)
  intro T hT X
  obtain ⟨vm', X', step⟩ := X.arraycopy C.1 C.2.2.2.1 (tk _ (List.mem_filter.mpr ⟨hl, rfl⟩)) (tk _ (List.mem_filter.mpr ⟨nt_arraycopy, rfl⟩)) (tk _ (List.mem_filter.mpr ⟨st_acopy, rfl⟩)) (tk _ (List.mem_filter.mpr ⟨it_J10, rfl⟩)) (src := ab_sg B ex a0) (dst := ab_sg B ex a1) (cs := arrV (dA 1) N (fun j => .long (ab_l h a0 j))) (cd := arrV (dA 1) N (fun j => .long (ab_l h a1 j))) (srcPos := nI 0) (destPos := nI 0) (n := nI N) (by rw [hT]; exact hc0) (by rw [hT]; exact hc1)
    (fun _ h => by cases h) (fun _ h => by cases h) (fun h => by cases h) (fun h => by cases h) hk0 hk1 hkk0 hkk1 (by simp [refKind]) z0 z0 zN
    (by rw [i0, iN, arrV_size]; omega) (by rw [i0, iN, arrV_size]; omega)
    (fun vm₁ _ i hi => by
      rw [nN] at hi
      rw [n0, Nat.zero_add]
      have e : (arrV (dA 1) N (fun j => .long (ab_l h a0 j))).slots.getD i .null = .long (ab_l h a0 i) := by
        rw [Array.getD_eq_getD_getElem?, arrV_read _ _ hi]
        rfl
      exact ⟨by rw [e]; rfl, by rw [e]; exact trivial⟩)
    (g := F0 m pc A (.int (nI N) :: .int (nI 0) :: .ref (ab_sg B ex a1) :: .int (nI 0) :: .ref (ab_sg B ex a0) :: st.map (ab_vv B ex))) rfl (hA.1.trans C.2.2.1.symm) (rest := st.map (ab_vv B ex)) rfl (by rw [C.2.1]; exact hd) (Nat.le_trans hk q1) (by
      have hw : nativeFrameWords "java/lang/System" "arraycopy" 5 ≤ 20 := by decide
      show 2 * 0 + ((st.map (ab_vv B ex)).map fun v => v.category).sum + _ ≤ _
      rw [ab_cat_sum]; omega)
  have e1 : copied (arrV (dA 1) N (fun j => .long (ab_l h a0 j))) (arrV (dA 1) N (fun j => .long (ab_l h a1 j))) (nI 0) (nI 0) (nI N) = arrV (dA 1) N (fun j => .long (ab_l h a0 j)) := by
    refine (va_copied (fun z => .long z) (dA 1) (dA 1) (sp := (nI 0).toNatClampNeg) (dp := (nI 0).toNatClampNeg) (n := (nI N).toNatClampNeg) (ab_l h a0) (ab_l h a1) (by rw [n0, nN]; omega)).trans ?_
    apply ab_arrV_congr
    intro j hj
    simp only [va_cpy, n0, nN]
    rw [if_pos (by omega)]
    congr 2
    omega
  rw [e1] at X' step
  have hl : ab_sg B ex a1 < H.size := (Array.getElem?_eq_some_iff.mp hc1).1
  have hge : B ≤ ab_sg B ex a1 := by unfold ab_sg; rw [if_neg (by omega)]; exact Nat.le_add_right _ _
  have hheap : ((T.setVm vm').setCell (ab_sg B ex a1) (arrV (dA 1) N (fun j => .long (ab_l h a0 j)))).heap = H.setIfInBounds (ab_sg B ex a1) (arrV (dA 1) N (fun j => .long (ab_l h a0 j))) := by rw [← hT]; rfl
  have oq : ∀ q : Nat, q ≠ ab_sg B ex a1 → (H.setIfInBounds (ab_sg B ex a1) (arrV (dA 1) N (fun j => .long (ab_l h a0 j))))[q]? = H[q]? := fun q hq => by simp [Array.getElem?_setIfInBounds, Ne.symm hq]
  have es : ab_l (ab_sL h a1 (ab_l h a0)) a1 = ab_l h a0 := ab_up_self _ _ _
  have e2 : ab_cell B ex dA (ab_sL h a1 (ab_l h a0)) a1 = .inl (dA 1, N, .inr (.inl (ab_l h a0))) := by
    refine Eq.trans (ab_cell_arl (B := B) (ex := ex) (dA := dA) (show ab_sh (ab_sL h a1 (ab_l h a0)) a1 = (101, N) from hs1)) ?_
    rw [es]
  obtain ⟨r1, r2⟩ := ab_ast (h' := ab_sL h a1 (ab_l h a0)) (j := 0) hr ha1 rfl rfl rfl e2 (fun b hb => ab_cell_sL_ne b hb) hS (H1 := H.setIfInBounds (ab_sg B ex a1) (arrV (dA 1) N (fun j => .long (ab_l h a0 j)))) (by
    show (H.setIfInBounds _ _)[ab_sg B ex a1]? = some (arrV (dA 1) N (fun j => .long (ab_l h a0 j)))
    simp [Array.getElem?_setIfInBounds, hl]) (by simp) oq
  obtain ⟨t, a1', b1⟩ := kk B ex eA dA D p l e R s m args below meth c cm sm Q C hcm hsm hex _ _ A cells slots r1 ⟨r2.1, r2.2.1, fun q hq => by
      rcases List.mem_append.mp hq with h | h
      · exact hS.2.2 q h
      · obtain ⟨z, -, hz⟩ := List.mem_map.mp h
        rw [← hz]
        exact hge⟩ hA h1 h2 _ hheap X'
  exact ⟨t, step t a1', b1⟩
end ABY
