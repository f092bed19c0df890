/-! ===== the class: Shapes ===== -/
def sh_C (r : Nat) (s : sS) (h : ab_H) : Prop := sW s ∧ ab_i h r 2 = nI s.1 ∧ ab_i h r 3 = nI s.2.2.1 ∧ (∀ i, i < 10 → rf_ok h 6 (ab_r h (r + 1) i)) ∧ (∀ i, i < 10 → rf_ok h 10 (ab_r h (r + 2) i)) ∧ (∀ i, i < s.1 → pt_at h (ab_r h (r + 1) i) (s.2.1 i)) ∧ ∀ i, i < s.2.2.1 → tr_at h (ab_r h (r + 2) i) (s.2.2.2 i) (sC s i) (sA s i)
theorem sh_C.W {r : Nat} {s : sS} {h : ab_H} (H : sh_C r s h) : sW s := H.1
theorem sh_C.np {r : Nat} {s : sS} {h : ab_H} (H : sh_C r s h) : ab_i h r 2 = nI s.1 := H.2.1
theorem sh_C.nt {r : Nat} {s : sS} {h : ab_H} (H : sh_C r s h) : ab_i h r 3 = nI s.2.2.1 := H.2.2.1
theorem sh_C.ro {r : Nat} {s : sS} {h : ab_H} (H : sh_C r s h) : ∀ i, i < 10 → rf_ok h 6 (ab_r h (r + 1) i) := H.2.2.2.1
theorem sh_C.rt {r : Nat} {s : sS} {h : ab_H} (H : sh_C r s h) : ∀ i, i < 10 → rf_ok h 10 (ab_r h (r + 2) i) := H.2.2.2.2.1
theorem sh_C.pt {r : Nat} {s : sS} {h : ab_H} (H : sh_C r s h) : ∀ i, i < s.1 → pt_at h (ab_r h (r + 1) i) (s.2.1 i) := H.2.2.2.2.2.1
theorem sh_C.tr {r : Nat} {s : sS} {h : ab_H} (H : sh_C r s h) : ∀ i, i < s.2.2.1 → tr_at h (ab_r h (r + 2) i) (s.2.2.2 i) (sC s i) (sA s i) := H.2.2.2.2.2.2
theorem sh_C.gr {S T : List Nat} {r : Nat} {s : sS} {h h1 : ab_H} (f : ab_gr S T h h1) (hs : ∀ a, a ∈ S → a < 78) (ht : ∀ a, a ∈ T → a < 78) (hb : ab_bs h) (hr : r + 2 < 78) (n0 : r ∉ S) (n1 : r + 1 ∉ T) (n2 : r + 2 ∉ T) (H : sh_C r s h) : sh_C r s h1 := by
  unfold ab_bs at hb
  have e0 := ((f.2.2 r (by omega)).2.1 n0).1
  have e1 := (f.2.2 (r + 1) (by omega)).2.2 n1
  have e2 := (f.2.2 (r + 2) (by omega)).2.2 n2
  unfold sh_C
  rw [e0, e1, e2]
  exact ⟨H.W, H.np, H.nt, fun i hi => (H.ro i hi).gr f, fun i hi => (H.rt i hi).gr f, fun i hi => (H.pt i hi).gr f hs ht, fun i hi => (H.tr i hi).gr f hs ht⟩
theorem rf_ok.st {h : ab_H} {c w : Nat} (H : rf_ok h c w) : w = 0 ∨ ab_sh h w = (c, 0) := H.elim Or.inl (fun q => Or.inr q.2.2)
theorem mem78 {L : List Nat} (h : L.all (fun a => decide (a < 78)) = true) : ∀ a, a ∈ L → a < 78 := fun a ha => of_decide_eq_true (List.all_eq_true.mp h a ha)
theorem sg78 {r : Nat} (h : r < 78) : ∀ a, a ∈ [r] → a < 78 := fun a ha => by rw [List.mem_singleton] at ha; omega
theorem sh_C.addP {r p X Y : Nat} {s : sS} {h h1 h' : ab_H} (H : sh_C r s h) (g : ab_gr [] [] h h1) (hp : pt_at h1 p (X, Y)) (hb : ab_bs h) (hr : r + 2 < 78) (h10 : s.1 < 10) (hX : X < 10000 ∧ X % 100 ≠ 0) (hY : Y < 10000 ∧ Y % 100 ≠ 0) (e : h' = ab_si (ab_sr h1 (r + 1) s.1 p) r 2 (nI (s.1 + 1))) : ab_gr [r] [r + 1] h h' ∧ sh_C r (sP s X Y) h' := by
  have H1 := H.gr g nil78 nil78 hb hr (by simp) (by simp) (by simp)
  have hb1 := hb.gr g
  have f2 : ab_gr [r] [r + 1] h1 h' := by
    rw [e]
    exact ((ab_gr.rf h1).srN _ _ (Or.inl (by simp))).siN _ _ (Or.inl (by simp))
  have er : ∀ i, ab_r h' (r + 1) i = if i = s.1 then p else ab_r h1 (r + 1) i := fun i => by rw [e]; exact ab_r_sr_same h1 (r + 1) s.1 p i
  have er2 : ab_r h' (r + 2) = ab_r h1 (r + 2) := by rw [e]; exact ab_up_ne _ _ (by omega)
  have ei : ∀ j, ab_i h' r j = if j = 2 then nI (s.1 + 1) else ab_i h1 r j := fun j => by rw [e]; exact ab_i_si_same (ab_sr h1 (r + 1) s.1 p) r 2 _ j
  have s1 := sg78 (show r < 78 by omega)
  have s2 := sg78 (show r + 1 < 78 by omega)
  refine ⟨(g.mono (fun _ q => by cases q) (fun _ q => by cases q)).trans f2 (fun _ q => q) (fun _ q => q), sP_W H.W h10 hX hY, ?_, ?_, ?_, ?_, ?_, ?_⟩
  · rw [ei, if_pos rfl]; rfl
  · rw [ei, if_neg (by decide)]; exact H1.nt
  · intro i hi
    rw [er]
    by_cases c : i = s.1
    · rw [if_pos c]; exact Or.inr ⟨hp.1, by have := f2.1; have := hp.2.1; omega, (f2.2.2 p hp.2.1).1.trans hp.2.2.1⟩
    · rw [if_neg c]; exact (H1.ro i hi).gr f2
  · intro i hi
    rw [er2]; exact (H1.rt i hi).gr f2
  · intro i hi
    have hi : i < s.1 + 1 := hi
    rw [er]
    show pt_at h' _ (ab_up s.2.1 s.1 (X, Y) i)
    by_cases c : i = s.1
    · rw [if_pos c, c, ab_up_self]; exact hp.gr f2 s1 s2
    · rw [if_neg c, ab_up_ne _ _ c]; exact (H1.pt i (by omega)).gr f2 s1 s2
  · intro i hi
    have hi : i < s.2.2.1 := hi
    rw [er2, (sP_A H.W hi).1, (sP_A H.W hi).2]
    exact (H1.tr i hi).gr f2 s1 s2
theorem sh_C.addT {r p k a b c : Nat} {s : sS} {h h1 h' : ab_H} (H : sh_C r s h) (g : ab_gr [] [] h h1) (hp : tr_at h1 p (k, a, b, c) (co k (s.2.1 a) (s.2.1 b) (s.2.1 c)) (ar k (s.2.1 a) (s.2.1 b) (s.2.1 c))) (hb : ab_bs h) (hr : r + 2 < 78) (h10 : s.2.2.1 < 10) (hk : k < 6) (ha : a < s.1) (hbb : b < s.1) (hc : c < s.1) (e : h' = ab_si (ab_sr h1 (r + 2) s.2.2.1 p) r 3 (nI (s.2.2.1 + 1))) : ab_gr [r] [r + 2] h h' ∧ sh_C r (sT s k a b c) h' := by
  have H1 := H.gr g nil78 nil78 hb hr (by simp) (by simp) (by simp)
  have f2 : ab_gr [r] [r + 2] h1 h' := by
    rw [e]
    exact ((ab_gr.rf h1).srN _ _ (Or.inl (by simp))).siN _ _ (Or.inl (by simp))
  have er : ∀ i, ab_r h' (r + 2) i = if i = s.2.2.1 then p else ab_r h1 (r + 2) i := fun i => by rw [e]; exact ab_r_sr_same h1 (r + 2) s.2.2.1 p i
  have er2 : ab_r h' (r + 1) = ab_r h1 (r + 1) := by rw [e]; exact ab_up_ne _ _ (by omega)
  have ei : ∀ j, ab_i h' r j = if j = 3 then nI (s.2.2.1 + 1) else ab_i h1 r j := fun j => by rw [e]; exact ab_i_si_same (ab_sr h1 (r + 2) s.2.2.1 p) r 3 _ j
  have s1 := sg78 (show r < 78 by omega)
  have s2 := sg78 (show r + 2 < 78 by omega)
  refine ⟨(g.mono (fun _ q => by cases q) (fun _ q => by cases q)).trans f2 (fun _ q => q) (fun _ q => q), sT_W H.W h10 hk ha hbb hc, ?_, ?_, ?_, ?_, ?_, ?_⟩
  · rw [ei, if_neg (by decide)]; exact H1.np
  · rw [ei, if_pos rfl]; rfl
  · intro i hi
    rw [er2]; exact (H1.ro i hi).gr f2
  · intro i hi
    rw [er]
    by_cases cc : i = s.2.2.1
    · rw [if_pos cc]; exact Or.inr ⟨hp.1, by have := f2.1; have := hp.2.1; omega, (f2.2.2 p hp.2.1).1.trans hp.2.2.1⟩
    · rw [if_neg cc]; exact (H1.rt i hi).gr f2
  · intro i hi
    rw [er2]; exact (H1.pt i hi).gr f2 s1 s2
  · intro i hi
    have hi : i < s.2.2.1 + 1 := hi
    rw [er]
    by_cases cc : i = s.2.2.1
    · have e1 : (sT s k a b c).2.2.2 i = (k, a, b, c) := by rw [cc]; exact ab_up_self _ _ _
      have e2 : sC (sT s k a b c) i = co k (s.2.1 a) (s.2.1 b) (s.2.1 c) := by unfold sC; rw [e1]; rfl
      have e3 : sA (sT s k a b c) i = ar k (s.2.1 a) (s.2.1 b) (s.2.1 c) := by unfold sA; rw [e1]; rfl
      rw [if_pos cc, e1, e2, e3]; exact hp.gr f2 s1 s2
    · have e1 : (sT s k a b c).2.2.2 i = s.2.2.2 i := ab_up_ne _ _ cc
      have hi2 : i < s.2.2.1 := by omega
      rw [if_neg cc, e1, (sT_A hi2).1, (sT_A hi2).2]; exact (H1.tr i hi2).gr f2 s1 s2
set_option maxRecDepth 100000 in
set_option maxHeartbeats 4000000 in
theorem c_hasPoint {k b r : Nat} {h : ab_H} {s : sS} {x : Int32} (hS : at_Shapes (ab_sh h) (ab_r h) r) (hD : sh_C r s h) : ab_M k b mX9_hasPoint [.ref r, .int x] h (ab_pb (fun t h' => h' = h ∧ t = ab_inr 0 ((s.1 : Int) - 1) x)) := by
  refine ab_enter ?_
  have hW := hD.W
  have h10 := hW.1
  have h11 := hW.2.1
  refine ab_iload_n dX9_hasPoint_0 rfl ?_
  refine ab_if_lt 16 dX9_hasPoint_1 (by decide) (fun c_1 => ?_) (fun c_1 => ?_)
  · skip
    refine ab_iconst (v := nI 0) dX9_hasPoint_16 (by decide) ?_
    refine ab_retb (x := false) dX9_hasPoint_17 ?_
    exact ⟨rfl, (ab_inr_no (Or.inl (ab_lt0.mp c_1))).symm⟩
  · skip
    refine ab_iload_n dX9_hasPoint_4 rfl ?_
    refine ab_aload_n dX9_hasPoint_5 rfl ?_
    refine ab_getI dX9_hasPoint_6 fl_X9_21 hS.1 hD.np ?_
    refine ab_icmp_ge 16 dX9_hasPoint_9 (by decide) (fun c_9 => ?_) (fun c_9 => ?_)
    · skip
      refine ab_iconst (v := nI 0) dX9_hasPoint_16 (by decide) ?_
      refine ab_retb (x := false) dX9_hasPoint_17 ?_
      exact ⟨rfl, (ab_inr_no (Or.inr (by have := (ab_leN (n := s.1) (by omega)).mp c_9; omega))).symm⟩
    · skip
      refine ab_iconst (v := nI 1) dX9_hasPoint_12 (by decide) ?_
      refine ab_goto 17 dX9_hasPoint_13 (by decide) ?_
      refine ab_retb (x := true) dX9_hasPoint_17 ?_
      exact ⟨rfl, (ab_inr_ok (by have := mt ab_lt0.mpr c_1; omega) (by have := mt (ab_leN (n := s.1) (by omega)).mpr c_9; omega)).symm⟩
set_option maxRecDepth 100000 in
set_option maxHeartbeats 4000000 in
theorem c_hasTriangle {k b r : Nat} {h : ab_H} {s : sS} {x : Int32} (hS : at_Shapes (ab_sh h) (ab_r h) r) (hD : sh_C r s h) : ab_M k b mX9_hasTriangle [.ref r, .int x] h (ab_pb (fun t h' => h' = h ∧ t = ab_inr 0 ((s.2.2.1 : Int) - 1) x)) := by
  refine ab_enter ?_
  have hW := hD.W
  have h10 := hW.1
  have h11 := hW.2.1
  refine ab_iload_n dX9_hasTriangle_0 rfl ?_
  refine ab_if_lt 16 dX9_hasTriangle_1 (by decide) (fun c_1 => ?_) (fun c_1 => ?_)
  · skip
    refine ab_iconst (v := nI 0) dX9_hasTriangle_16 (by decide) ?_
    refine ab_retb (x := false) dX9_hasTriangle_17 ?_
    exact ⟨rfl, (ab_inr_no (Or.inl (ab_lt0.mp c_1))).symm⟩
  · skip
    refine ab_iload_n dX9_hasTriangle_4 rfl ?_
    refine ab_aload_n dX9_hasTriangle_5 rfl ?_
    refine ab_getI dX9_hasTriangle_6 fl_X9_25 hS.1 hD.nt ?_
    refine ab_icmp_ge 16 dX9_hasTriangle_9 (by decide) (fun c_9 => ?_) (fun c_9 => ?_)
    · skip
      refine ab_iconst (v := nI 0) dX9_hasTriangle_16 (by decide) ?_
      refine ab_retb (x := false) dX9_hasTriangle_17 ?_
      exact ⟨rfl, (ab_inr_no (Or.inr (by have := (ab_leN (n := s.2.2.1) (by omega)).mp c_9; omega))).symm⟩
    · skip
      refine ab_iconst (v := nI 1) dX9_hasTriangle_12 (by decide) ?_
      refine ab_goto 17 dX9_hasTriangle_13 (by decide) ?_
      refine ab_retb (x := true) dX9_hasTriangle_17 ?_
      exact ⟨rfl, (ab_inr_ok (by have := mt ab_lt0.mpr c_1; omega) (by have := mt (ab_leN (n := s.2.2.1) (by omega)).mpr c_9; omega)).symm⟩
theorem st_fit {n t : Nat} : n >>> t = 0 ↔ n < 2 ^ t := by
  rw [Nat.shiftRight_eq_div_pow]
  have : 0 < 2 ^ t := Nat.two_pow_pos t
  rw [Nat.div_eq_zero_iff]
  omega
/-- a set of n triangles -/
def st_in (n : Nat) (x : Int32) : Bool := ab_inr 0 (((2 ^ n : Nat) : Int) - 1) x
theorem st_nat {n : Nat} {x : Int32} (h : st_in n x = true) : ∃ w, x = nI w ∧ w < 2 ^ n ∧ w < 2147483648 := by
  unfold st_in at h
  have q := of_decide_eq_true h
  obtain ⟨w, rfl, hw⟩ := ab_of0 (x := x) (ab_ge0.mpr q.1)
  rw [nI_toInt hw] at q
  exact ⟨w, rfl, by omega, hw⟩
set_option maxRecDepth 100000 in
set_option maxHeartbeats 4000000 in
theorem c_hasSet {k b r : Nat} {h : ab_H} {s : sS} {x : Int32} (hS : at_Shapes (ab_sh h) (ab_r h) r) (hD : sh_C r s h) : ab_M k b mX9_hasSet [.ref r, .int x] h (ab_pb (fun t h' => h' = h ∧ t = st_in s.2.2.1 x)) := by
  refine ab_enter ?_
  have hW := hD.W
  have h10 := hW.1
  have h11 := hW.2.1
  refine ab_iload_n dX9_hasSet_0 rfl ?_
  refine ab_if_lt 17 dX9_hasSet_1 (by decide) (fun c_1 => ?_) (fun c_1 => ?_)
  · skip
    refine ab_iconst (v := nI 0) dX9_hasSet_17 (by decide) ?_
    refine ab_retb (x := false) dX9_hasSet_18 ?_
    exact ⟨rfl, (ab_inr_no (Or.inl (ab_lt0.mp c_1))).symm⟩
  · skip
    obtain ⟨n, rfl, hn⟩ := ab_of0 (Int32.not_lt.mp c_1)
    refine ab_iload_n dX9_hasSet_4 rfl ?_
    refine ab_aload_n dX9_hasSet_5 rfl ?_
    refine ab_getI dX9_hasSet_6 fl_X9_25 hS.1 hD.nt ?_
    refine ab_nshrR dX9_hasSet_9 hn (by omega) ?_
    refine ab_nif_ne 17 dX9_hasSet_10 (by decide) (ab_shr_lt _ hn) (fun c_10 => ?_) (fun c_10 => ?_)
    · skip
      refine ab_iconst (v := nI 0) dX9_hasSet_17 (by decide) ?_
      refine ab_retb (x := false) dX9_hasSet_18 ?_
      exact ⟨rfl, (ab_inr_no (Or.inr (by have q := mt st_fit.mpr c_10; rw [nI_toInt hn]; omega))).symm⟩
    · skip
      refine ab_iconst (v := nI 1) dX9_hasSet_13 (by decide) ?_
      refine ab_goto 18 dX9_hasSet_14 (by decide) ?_
      refine ab_retb (x := true) dX9_hasSet_18 ?_
      exact ⟨rfl, (ab_inr_ok (by rw [nI_toInt hn]; omega) (by have q := st_fit.mp c_10; rw [nI_toInt hn]; omega)).symm⟩
def th (np : Nat) (a b c : Int32) : Prop := ab_inr 0 ((np : Int) - 1) a = true ∧ ab_inr 0 ((np : Int) - 1) b = true ∧ ab_inr 0 ((np : Int) - 1) c = true ∧ a ≠ b ∧ a ≠ c ∧ b ≠ c
theorem th_i {n : Nat} {x : Int32} (hn : n ≤ 10) (h : ¬ x < 0) (h2 : ¬ nI n ≤ x) : ab_inr 0 ((n : Int) - 1) x = true := ab_inr_ok (by have := mt ab_lt0.mpr h; omega) (by have := mt (ab_leN (n := n) (by omega)).mpr h2; omega)
theorem th_n1 {n : Nat} {x : Int32} (h : x < 0) : ¬ ab_inr 0 ((n : Int) - 1) x = true := fun q => ab_tf q (ab_inr_no (Or.inl (ab_lt0.mp h)))
theorem th_n2 {n : Nat} {x : Int32} (hn : n ≤ 10) (h : nI n ≤ x) : ¬ ab_inr 0 ((n : Int) - 1) x = true := fun q => ab_tf q (ab_inr_no (Or.inr (by have := (ab_leN (n := n) (by omega)).mp h; omega)))
set_option maxRecDepth 100000 in
set_option maxHeartbeats 4000000 in
theorem c_areThree {k b np : Nat} {h : ab_H} {x y z : Int32} (hn : np ≤ 10) : ab_M k b mX9_areThree [.int (nI np), .int x, .int y, .int z] h (ab_pb (fun t h' => h' = h ∧ t = @decide (th np x y z) (Classical.propDecidable _))) := by
  refine ab_enter ?_
  refine ab_iload_n dX9_areThree_0 rfl ?_
  refine ab_if_lt 31 dX9_areThree_1 (by decide) (fun c_1 => ?_) (fun c_1 => ?_)
  · skip
    refine ab_iconst (v := nI 0) dX9_areThree_31 (by decide) ?_
    refine ab_sti (ls' := [_, _, _, _, _]) dX9_areThree_32 (by decide) rfl ?_
    refine ab_iload dX9_areThree_34 rfl ?_
    refine ab_nif_eq 58 dX9_areThree_36 (by decide) (by omega) (fun c_36 => ?_) (fun c_36 => ?_)
    · skip
      refine ab_iconst (v := nI 0) dX9_areThree_58 (by decide) ?_
      refine ab_retb (x := false) dX9_areThree_59 ?_
      first | exact ⟨rfl, (@decide_eq_false _ (Classical.propDecidable _) (fun q => by first | exact th_n1 c_1 q.1 | exact th_n2 hn c_6 q.1 | exact th_n1 c_10 q.2.1 | exact th_n2 hn c_15 q.2.1 | exact th_n1 c_19 q.2.2.1 | exact th_n2 hn c_24 q.2.2.1 | exact q.2.2.2.1 c_41 | exact q.2.2.2.2.1 c_46 | exact q.2.2.2.2.2 c_51)).symm⟩ | exact ⟨rfl, (@decide_eq_true _ (Classical.propDecidable _) ⟨th_i hn c_1 c_6, th_i hn c_10 c_15, th_i hn c_19 c_24, c_41, c_46, c_51⟩).symm⟩
    · skip
      exact absurd rfl c_36
  · skip
    refine ab_iload_n dX9_areThree_4 rfl ?_
    refine ab_iload_n dX9_areThree_5 rfl ?_
    refine ab_icmp_ge 31 dX9_areThree_6 (by decide) (fun c_6 => ?_) (fun c_6 => ?_)
    · skip
      refine ab_iconst (v := nI 0) dX9_areThree_31 (by decide) ?_
      refine ab_sti (ls' := [_, _, _, _, _]) dX9_areThree_32 (by decide) rfl ?_
      refine ab_iload dX9_areThree_34 rfl ?_
      refine ab_nif_eq 58 dX9_areThree_36 (by decide) (by omega) (fun c_36 => ?_) (fun c_36 => ?_)
      · skip
        refine ab_iconst (v := nI 0) dX9_areThree_58 (by decide) ?_
        refine ab_retb (x := false) dX9_areThree_59 ?_
        first | exact ⟨rfl, (@decide_eq_false _ (Classical.propDecidable _) (fun q => by first | exact th_n1 c_1 q.1 | exact th_n2 hn c_6 q.1 | exact th_n1 c_10 q.2.1 | exact th_n2 hn c_15 q.2.1 | exact th_n1 c_19 q.2.2.1 | exact th_n2 hn c_24 q.2.2.1 | exact q.2.2.2.1 c_41 | exact q.2.2.2.2.1 c_46 | exact q.2.2.2.2.2 c_51)).symm⟩ | exact ⟨rfl, (@decide_eq_true _ (Classical.propDecidable _) ⟨th_i hn c_1 c_6, th_i hn c_10 c_15, th_i hn c_19 c_24, c_41, c_46, c_51⟩).symm⟩
      · skip
        exact absurd rfl c_36
    · skip
      refine ab_iload_n dX9_areThree_9 rfl ?_
      refine ab_if_lt 31 dX9_areThree_10 (by decide) (fun c_10 => ?_) (fun c_10 => ?_)
      · skip
        refine ab_iconst (v := nI 0) dX9_areThree_31 (by decide) ?_
        refine ab_sti (ls' := [_, _, _, _, _]) dX9_areThree_32 (by decide) rfl ?_
        refine ab_iload dX9_areThree_34 rfl ?_
        refine ab_nif_eq 58 dX9_areThree_36 (by decide) (by omega) (fun c_36 => ?_) (fun c_36 => ?_)
        · skip
          refine ab_iconst (v := nI 0) dX9_areThree_58 (by decide) ?_
          refine ab_retb (x := false) dX9_areThree_59 ?_
          first | exact ⟨rfl, (@decide_eq_false _ (Classical.propDecidable _) (fun q => by first | exact th_n1 c_1 q.1 | exact th_n2 hn c_6 q.1 | exact th_n1 c_10 q.2.1 | exact th_n2 hn c_15 q.2.1 | exact th_n1 c_19 q.2.2.1 | exact th_n2 hn c_24 q.2.2.1 | exact q.2.2.2.1 c_41 | exact q.2.2.2.2.1 c_46 | exact q.2.2.2.2.2 c_51)).symm⟩ | exact ⟨rfl, (@decide_eq_true _ (Classical.propDecidable _) ⟨th_i hn c_1 c_6, th_i hn c_10 c_15, th_i hn c_19 c_24, c_41, c_46, c_51⟩).symm⟩
        · skip
          exact absurd rfl c_36
      · skip
        refine ab_iload_n dX9_areThree_13 rfl ?_
        refine ab_iload_n dX9_areThree_14 rfl ?_
        refine ab_icmp_ge 31 dX9_areThree_15 (by decide) (fun c_15 => ?_) (fun c_15 => ?_)
        · skip
          refine ab_iconst (v := nI 0) dX9_areThree_31 (by decide) ?_
          refine ab_sti (ls' := [_, _, _, _, _]) dX9_areThree_32 (by decide) rfl ?_
          refine ab_iload dX9_areThree_34 rfl ?_
          refine ab_nif_eq 58 dX9_areThree_36 (by decide) (by omega) (fun c_36 => ?_) (fun c_36 => ?_)
          · skip
            refine ab_iconst (v := nI 0) dX9_areThree_58 (by decide) ?_
            refine ab_retb (x := false) dX9_areThree_59 ?_
            first | exact ⟨rfl, (@decide_eq_false _ (Classical.propDecidable _) (fun q => by first | exact th_n1 c_1 q.1 | exact th_n2 hn c_6 q.1 | exact th_n1 c_10 q.2.1 | exact th_n2 hn c_15 q.2.1 | exact th_n1 c_19 q.2.2.1 | exact th_n2 hn c_24 q.2.2.1 | exact q.2.2.2.1 c_41 | exact q.2.2.2.2.1 c_46 | exact q.2.2.2.2.2 c_51)).symm⟩ | exact ⟨rfl, (@decide_eq_true _ (Classical.propDecidable _) ⟨th_i hn c_1 c_6, th_i hn c_10 c_15, th_i hn c_19 c_24, c_41, c_46, c_51⟩).symm⟩
          · skip
            exact absurd rfl c_36
        · skip
          refine ab_iload_n dX9_areThree_18 rfl ?_
          refine ab_if_lt 31 dX9_areThree_19 (by decide) (fun c_19 => ?_) (fun c_19 => ?_)
          · skip
            refine ab_iconst (v := nI 0) dX9_areThree_31 (by decide) ?_
            refine ab_sti (ls' := [_, _, _, _, _]) dX9_areThree_32 (by decide) rfl ?_
            refine ab_iload dX9_areThree_34 rfl ?_
            refine ab_nif_eq 58 dX9_areThree_36 (by decide) (by omega) (fun c_36 => ?_) (fun c_36 => ?_)
            · skip
              refine ab_iconst (v := nI 0) dX9_areThree_58 (by decide) ?_
              refine ab_retb (x := false) dX9_areThree_59 ?_
              first | exact ⟨rfl, (@decide_eq_false _ (Classical.propDecidable _) (fun q => by first | exact th_n1 c_1 q.1 | exact th_n2 hn c_6 q.1 | exact th_n1 c_10 q.2.1 | exact th_n2 hn c_15 q.2.1 | exact th_n1 c_19 q.2.2.1 | exact th_n2 hn c_24 q.2.2.1 | exact q.2.2.2.1 c_41 | exact q.2.2.2.2.1 c_46 | exact q.2.2.2.2.2 c_51)).symm⟩ | exact ⟨rfl, (@decide_eq_true _ (Classical.propDecidable _) ⟨th_i hn c_1 c_6, th_i hn c_10 c_15, th_i hn c_19 c_24, c_41, c_46, c_51⟩).symm⟩
            · skip
              exact absurd rfl c_36
          · skip
            refine ab_iload_n dX9_areThree_22 rfl ?_
            refine ab_iload_n dX9_areThree_23 rfl ?_
            refine ab_icmp_ge 31 dX9_areThree_24 (by decide) (fun c_24 => ?_) (fun c_24 => ?_)
            · skip
              refine ab_iconst (v := nI 0) dX9_areThree_31 (by decide) ?_
              refine ab_sti (ls' := [_, _, _, _, _]) dX9_areThree_32 (by decide) rfl ?_
              refine ab_iload dX9_areThree_34 rfl ?_
              refine ab_nif_eq 58 dX9_areThree_36 (by decide) (by omega) (fun c_36 => ?_) (fun c_36 => ?_)
              · skip
                refine ab_iconst (v := nI 0) dX9_areThree_58 (by decide) ?_
                refine ab_retb (x := false) dX9_areThree_59 ?_
                first | exact ⟨rfl, (@decide_eq_false _ (Classical.propDecidable _) (fun q => by first | exact th_n1 c_1 q.1 | exact th_n2 hn c_6 q.1 | exact th_n1 c_10 q.2.1 | exact th_n2 hn c_15 q.2.1 | exact th_n1 c_19 q.2.2.1 | exact th_n2 hn c_24 q.2.2.1 | exact q.2.2.2.1 c_41 | exact q.2.2.2.2.1 c_46 | exact q.2.2.2.2.2 c_51)).symm⟩ | exact ⟨rfl, (@decide_eq_true _ (Classical.propDecidable _) ⟨th_i hn c_1 c_6, th_i hn c_10 c_15, th_i hn c_19 c_24, c_41, c_46, c_51⟩).symm⟩
              · skip
                exact absurd rfl c_36
            · skip
              refine ab_iconst (v := nI 1) dX9_areThree_27 (by decide) ?_
              refine ab_goto 32 dX9_areThree_28 (by decide) ?_
              refine ab_sti (ls' := [_, _, _, _, _]) dX9_areThree_32 (by decide) rfl ?_
              refine ab_iload dX9_areThree_34 rfl ?_
              refine ab_nif_eq 58 dX9_areThree_36 (by decide) (by omega) (fun c_36 => ?_) (fun c_36 => ?_)
              · skip
                exact absurd c_36 (by omega)
              · skip
                refine ab_iload_n dX9_areThree_39 rfl ?_
                refine ab_iload_n dX9_areThree_40 rfl ?_
                refine ab_icmp_eq 58 dX9_areThree_41 (by decide) (fun c_41 => ?_) (fun c_41 => ?_)
                · skip
                  refine ab_iconst (v := nI 0) dX9_areThree_58 (by decide) ?_
                  refine ab_retb (x := false) dX9_areThree_59 ?_
                  first | exact ⟨rfl, (@decide_eq_false _ (Classical.propDecidable _) (fun q => by first | exact th_n1 c_1 q.1 | exact th_n2 hn c_6 q.1 | exact th_n1 c_10 q.2.1 | exact th_n2 hn c_15 q.2.1 | exact th_n1 c_19 q.2.2.1 | exact th_n2 hn c_24 q.2.2.1 | exact q.2.2.2.1 c_41 | exact q.2.2.2.2.1 c_46 | exact q.2.2.2.2.2 c_51)).symm⟩ | exact ⟨rfl, (@decide_eq_true _ (Classical.propDecidable _) ⟨th_i hn c_1 c_6, th_i hn c_10 c_15, th_i hn c_19 c_24, c_41, c_46, c_51⟩).symm⟩
                · skip
                  refine ab_iload_n dX9_areThree_44 rfl ?_
                  refine ab_iload_n dX9_areThree_45 rfl ?_
                  refine ab_icmp_eq 58 dX9_areThree_46 (by decide) (fun c_46 => ?_) (fun c_46 => ?_)
                  · skip
                    refine ab_iconst (v := nI 0) dX9_areThree_58 (by decide) ?_
                    refine ab_retb (x := false) dX9_areThree_59 ?_
                    first | exact ⟨rfl, (@decide_eq_false _ (Classical.propDecidable _) (fun q => by first | exact th_n1 c_1 q.1 | exact th_n2 hn c_6 q.1 | exact th_n1 c_10 q.2.1 | exact th_n2 hn c_15 q.2.1 | exact th_n1 c_19 q.2.2.1 | exact th_n2 hn c_24 q.2.2.1 | exact q.2.2.2.1 c_41 | exact q.2.2.2.2.1 c_46 | exact q.2.2.2.2.2 c_51)).symm⟩ | exact ⟨rfl, (@decide_eq_true _ (Classical.propDecidable _) ⟨th_i hn c_1 c_6, th_i hn c_10 c_15, th_i hn c_19 c_24, c_41, c_46, c_51⟩).symm⟩
                  · skip
                    refine ab_iload_n dX9_areThree_49 rfl ?_
                    refine ab_iload_n dX9_areThree_50 rfl ?_
                    refine ab_icmp_eq 58 dX9_areThree_51 (by decide) (fun c_51 => ?_) (fun c_51 => ?_)
                    · skip
                      refine ab_iconst (v := nI 0) dX9_areThree_58 (by decide) ?_
                      refine ab_retb (x := false) dX9_areThree_59 ?_
                      first | exact ⟨rfl, (@decide_eq_false _ (Classical.propDecidable _) (fun q => by first | exact th_n1 c_1 q.1 | exact th_n2 hn c_6 q.1 | exact th_n1 c_10 q.2.1 | exact th_n2 hn c_15 q.2.1 | exact th_n1 c_19 q.2.2.1 | exact th_n2 hn c_24 q.2.2.1 | exact q.2.2.2.1 c_41 | exact q.2.2.2.2.1 c_46 | exact q.2.2.2.2.2 c_51)).symm⟩ | exact ⟨rfl, (@decide_eq_true _ (Classical.propDecidable _) ⟨th_i hn c_1 c_6, th_i hn c_10 c_15, th_i hn c_19 c_24, c_41, c_46, c_51⟩).symm⟩
                    · skip
                      refine ab_iconst (v := nI 1) dX9_areThree_54 (by decide) ?_
                      refine ab_goto 59 dX9_areThree_55 (by decide) ?_
                      refine ab_retb (x := true) dX9_areThree_59 ?_
                      first | exact ⟨rfl, (@decide_eq_false _ (Classical.propDecidable _) (fun q => by first | exact th_n1 c_1 q.1 | exact th_n2 hn c_6 q.1 | exact th_n1 c_10 q.2.1 | exact th_n2 hn c_15 q.2.1 | exact th_n1 c_19 q.2.2.1 | exact th_n2 hn c_24 q.2.2.1 | exact q.2.2.2.1 c_41 | exact q.2.2.2.2.1 c_46 | exact q.2.2.2.2.2 c_51)).symm⟩ | exact ⟨rfl, (@decide_eq_true _ (Classical.propDecidable _) ⟨th_i hn c_1 c_6, th_i hn c_10 c_15, th_i hn c_19 c_24, c_41, c_46, c_51⟩).symm⟩
set_option maxRecDepth 100000 in
set_option maxHeartbeats 4000000 in
theorem c_isIn {k b r n i : Nat} {h : ab_H} (hs : n < 2147483648) (hi : i < 32) : ab_M k b mX9_isIn [.ref r, .int (nI n), .int (nI i)] h (ab_pb (fun t h' => h' = h ∧ t = decide (n >>> i &&& 1 = 1))) := by
  refine ab_enter ?_
  refine ab_iload_n dX9_isIn_0 rfl ?_
  refine ab_iload_n dX9_isIn_1 rfl ?_
  refine ab_nshrR dX9_isIn_2 hs hi ?_
  refine ab_iconst (v := nI 1) dX9_isIn_3 (by decide) ?_
  refine ab_nandR dX9_isIn_4 ?_
  refine ab_iconst (v := nI 1) dX9_isIn_5 (by decide) ?_
  refine ab_nicmp_ne 13 dX9_isIn_6 (by decide) (by rw [ab_and1]; omega) (by omega) (fun c_6 => ?_) (fun c_6 => ?_)
  · skip
    refine ab_iconst (v := nI 0) dX9_isIn_13 (by decide) ?_
    refine ab_retb (x := false) dX9_isIn_14 ?_
    exact ⟨rfl, (decide_eq_false c_6).symm⟩
  · skip
    refine ab_iconst (v := nI 1) dX9_isIn_9 (by decide) ?_
    refine ab_goto 14 dX9_isIn_10 (by decide) ?_
    refine ab_retb (x := true) dX9_isIn_14 ?_
    exact ⟨rfl, (decide_eq_true c_6).symm⟩
set_option maxRecDepth 100000 in
set_option maxHeartbeats 4000000 in
theorem c_fractionOf {k b X : Nat} {h : ab_H} (hk : 3 ≤ k) (hb1 : 1 ≤ b) (hb : ab_bs h) (hX : X < 10000 ∧ X % 100 ≠ 0) : ab_M k b mX9_fractionOf [.int (nI X)] h (ab_pr (fun x h' => ab_gr [] [] h h' ∧ fr_at h' x (fR (pq X)))) := by
  refine ab_enter ?_
  refine ab_iload_n dX9_fractionOf_0 rfl ?_
  refine ab_bipush (v := nI 100) dX9_fractionOf_1 (by decide) ?_
  refine ab_ndivR dX9_fractionOf_3 (by omega) (by omega) (by omega) ?_
  refine ab_i2l dX9_fractionOf_4 ?_
  refine ab_topL (zI_i2l (by omega)) ?_
  refine ab_iload_n dX9_fractionOf_5 rfl ?_
  refine ab_bipush (v := nI 100) dX9_fractionOf_6 (by decide) ?_
  refine ab_nremR dX9_fractionOf_8 (by omega) (by omega) (by omega) ?_
  refine ab_i2l dX9_fractionOf_9 ?_
  refine ab_topL (zI_i2l (by omega)) ?_
  refine ab_callSr [_, _] dX9_fractionOf_10 ml_X9_35 mk_X2_inLeastTerms (c_least (p := pq X) (k := 2) (b := 1) (Nat.le_refl _) (Nat.le_refl _) hb ((pq_B hX).k1 (by decide)) (pq_B hX).2.1 ((pq_B hX).k2 (by decide))) (fun x h1 hq => ?_)
  refine ab_retr dX9_fractionOf_13 ?_
  exact hq
