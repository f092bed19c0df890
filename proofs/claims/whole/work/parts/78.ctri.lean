/-! ===== the class: points and triangles in the heap ===== -/
def rf_ok (h : ab_H) (c w : Nat) : Prop := w = 0 ∨ (78 ≤ w ∧ w < 5 + ab_n h ∧ ab_sh h w = (c, 0))
theorem rf_ok.gr {S T : List Nat} {h h1 : ab_H} {c w : Nat} (f : ab_gr S T h h1) (H : rf_ok h c w) : rf_ok h1 c w := H.elim Or.inl (fun q => Or.inr ⟨q.1, by have := f.1; have := q.2.1; omega, (f.2.2 w q.2.1).1.trans q.2.2⟩)
def pt_at (h : ab_H) (r : Nat) (P : Nat × Nat) : Prop := 78 ≤ r ∧ r < 5 + ab_n h ∧ ab_sh h r = (6, 0) ∧ fr_at h (ab_r h r 0) (fR (pq P.1)) ∧ fr_at h (ab_r h r 1) (fR (pq P.2))
theorem pt_at.gr {S T : List Nat} {h h1 : ab_H} {r : Nat} {P : Nat × Nat} (f : ab_gr S T h h1) (hs : ∀ a, a ∈ S → a < 78) (ht : ∀ a, a ∈ T → a < 78) (H : pt_at h r P) : pt_at h1 r P := by
  have g := f.2.2 r H.2.1
  have e := g.2.2 (ab_lo ht H.1)
  exact ⟨H.1, by have := f.1; have := H.2.1; omega, g.1.trans H.2.2.1, by rw [e]; exact H.2.2.2.1.gr f hs, by rw [e]; exact H.2.2.2.2.gr f hs⟩
def tr_at (h : ab_H) (r : Nat) (t : Nat × Nat × Nat × Nat) (c : Nat) (A : Int × Nat) : Prop := 78 ≤ r ∧ r < 5 + ab_n h ∧ ab_sh h r = (10, 0) ∧ ab_i h r 0 = nI t.1 ∧ ab_i h r 1 = nI t.2.1 ∧ ab_i h r 2 = nI t.2.2.1 ∧ ab_i h r 3 = nI t.2.2.2 ∧ ab_i h r 4 = nI c ∧ fr_at h (ab_r h r 5) A
theorem tr_at.gr {S T : List Nat} {h h1 : ab_H} {r c : Nat} {t : Nat × Nat × Nat × Nat} {A : Int × Nat} (f : ab_gr S T h h1) (hs : ∀ a, a ∈ S → a < 78) (ht : ∀ a, a ∈ T → a < 78) (H : tr_at h r t c A) : tr_at h1 r t c A := by
  have g := f.2.2 r H.2.1
  have e := g.2.2 (ab_lo ht H.1)
  have e2 := (g.2.1 (ab_lo hs H.1)).1
  unfold tr_at
  rw [e, e2]
  exact ⟨H.1, by have := f.1; have := H.2.1; omega, g.1.trans H.2.2.1, H.2.2.2.1, H.2.2.2.2.1, H.2.2.2.2.2.1, H.2.2.2.2.2.2.1, H.2.2.2.2.2.2.2.1, H.2.2.2.2.2.2.2.2.gr f hs⟩
/-- the constant arrays -/
def ab_cs (h : ab_H) : Prop := (ab_e h 2).1 = 6 ∧ (ab_e h 3).1 = 6 ∧ (ab_e h 4).1 = 6 ∧ ((ab_e h 2).2 0 = -1 ∧ (ab_e h 2).2 1 = nI 0 ∧ (ab_e h 2).2 2 = nI 0 ∧ (ab_e h 2).2 3 = nI 0 ∧ (ab_e h 2).2 4 = nI 1 ∧ (ab_e h 2).2 5 = nI 3) ∧ (∀ k, k < 6 → (ab_e h 3).2 k = nI (tm k)) ∧ ∀ k, k < 6 → (ab_e h 4).2 k = nI (dv k)
theorem ab_cs.gr {S T : List Nat} {h h1 : ab_H} (f : ab_gr S T h h1) (H : ab_cs h) : ab_cs h1 := by unfold ab_cs at *; rw [f.2.1]; exact H
/-! ===== kinds ===== -/
set_option maxRecDepth 100000 in
set_option maxHeartbeats 4000000 in
theorem c_isKind {k b : Nat} {h : ab_H} {x : Int32} : ab_M k b mX10_isKind [.int x] h (ab_pb (fun t h' => h' = h ∧ t = ab_inr 0 5 x)) := by
  refine ab_enter ?_
  refine ab_iload_n dX10_isKind_0 rfl ?_
  refine ab_if_lt 14 dX10_isKind_1 (by decide) (fun c_1 => ?_) (fun c_1 => ?_)
  · skip
    refine ab_iconst (v := nI 0) dX10_isKind_14 (by decide) ?_
    refine ab_retb (x := false) dX10_isKind_15 ?_
    exact ⟨rfl, (ab_inr_no (Or.inl (ab_lt0.mp c_1))).symm⟩
  · skip
    refine ab_iload_n dX10_isKind_4 rfl ?_
    refine ab_bipush (v := nI 6) dX10_isKind_5 (by decide) ?_
    refine ab_icmp_ge 14 dX10_isKind_7 (by decide) (fun c_7 => ?_) (fun c_7 => ?_)
    · skip
      refine ab_iconst (v := nI 0) dX10_isKind_14 (by decide) ?_
      refine ab_retb (x := false) dX10_isKind_15 ?_
      exact ⟨rfl, (ab_inr_no (Or.inr (by have := (ab_leN (n := 6) (by omega)).mp c_7; omega))).symm⟩
    · skip
      refine ab_iconst (v := nI 1) dX10_isKind_10 (by decide) ?_
      refine ab_goto 15 dX10_isKind_11 (by decide) ?_
      refine ab_retb (x := true) dX10_isKind_15 ?_
      exact ⟨rfl, (ab_inr_ok (by have := mt ab_lt0.mpr c_1; omega) (by have := mt (ab_leN (n := 6) (by omega)).mpr c_7; omega)).symm⟩
set_option maxRecDepth 100000 in
set_option maxHeartbeats 4000000 in
theorem c_isUnder {k' b k o : Nat} {h : ab_H} (hk' : 1 ≤ k') (hE : ab_cs h) (hk : k < 6) (ho : o < 6) : ab_M k' b mX10_isUnder [.int (nI k), .int (nI o)] h (ab_pb (fun t h' => h' = h ∧ t = un k o)) := by
  have ho31 : o < 2147483648 := by omega
  match k, hk with
  | 0, _ =>
    refine ab_enter ?_
    refine ab_iload_n dX10_isUnder_0 rfl ?_
    refine ab_sti_n (ls' := [_, _, _, _]) dX10_isUnder_1 (by decide) rfl ?_
    refine ab_iconst (v := nI 0) dX10_isUnder_2 (by decide) ?_
    refine ab_sti_n (ls' := [_, _, _, _]) dX10_isUnder_3 (by decide) rfl ?_
    refine ab_iload_n dX10_isUnder_4 rfl ?_
    refine ab_bipush (v := nI 6) dX10_isUnder_5 (by decide) ?_
    refine ab_nicmp_ge 36 dX10_isUnder_7 (by decide) (by omega) (by omega) (fun c_7 => ?_) (fun c_7 => ?_)
    · skip
      exact absurd c_7 (by omega)
    · skip
      refine ab_iload_n dX10_isUnder_10 rfl ?_
      refine ab_callSb [_] dX10_isUnder_11 ml_X10_83 mk_X10_isKind (c_isKind (k := 0) (b := 0)) (fun t1 hh1 hq => ?_)
      obtain ⟨hhe, rfl⟩ := hq
      rw [hhe]
      refine ab_bif_eq 36 dX10_isUnder_14 (by decide) (fun c_14 => ?_) (fun c_14 => ?_)
      · skip
        exact (ab_tf (show ab_inr 0 5 (nI 0) = true by decide) c_14).elim
      · skip
        refine ab_iload_n dX10_isUnder_17 rfl ?_
        refine ab_iload_n dX10_isUnder_18 rfl ?_
        refine ab_nicmp_ne 24 dX10_isUnder_19 (by decide) (by omega) (by omega) (fun n_0 => ?_) (fun n_0 => ?_)
        · skip
          refine ab_gets (j := 2) dX10_isUnder_24 fl_X10_87 ?_
          refine ab_iload_n dX10_isUnder_27 rfl ?_
          refine ab_eald dX10_isUnder_28 rfl (by rw [hE.1]; decide) hE.2.2.2.1.1 ?_
          refine ab_sti_n (ls' := [_, _, _, _]) dX10_isUnder_29 (by decide) rfl ?_
          refine ab_nincR (ls' := [_, _, _, _]) dX10_isUnder_30 rfl rfl ?_
          refine ab_goto 4 dX10_isUnder_33 (by decide) ?_
          refine ab_iload_n dX10_isUnder_4 rfl ?_
          refine ab_bipush (v := nI 6) dX10_isUnder_5 (by decide) ?_
          refine ab_nicmp_ge 36 dX10_isUnder_7 (by decide) (by omega) (by omega) (fun c_7 => ?_) (fun c_7 => ?_)
          · skip
            exact absurd c_7 (by omega)
          · skip
            refine ab_iload_n dX10_isUnder_10 rfl ?_
            refine ab_callSb [_] dX10_isUnder_11 ml_X10_83 mk_X10_isKind (c_isKind (k := 0) (b := 0)) (fun t1 hh1 hq => ?_)
            obtain ⟨hhe, rfl⟩ := hq
            rw [hhe]
            refine ab_bif_eq 36 dX10_isUnder_14 (by decide) (fun c_14 => ?_) (fun c_14 => ?_)
            · skip
              refine ab_iconst (v := nI 0) dX10_isUnder_36 (by decide) ?_
              refine ab_retb (x := false) dX10_isUnder_37 ?_
              exact ⟨rfl, (decide_eq_false (by omega)).symm⟩
            · skip
              exact (ab_tf c_14 (show ab_inr 0 5 (-1) = false by decide)).elim
        · skip
          refine ab_iconst (v := nI 1) dX10_isUnder_22 (by decide) ?_
          refine ab_retb (x := true) dX10_isUnder_23 ?_
          exact ⟨rfl, (decide_eq_true (by omega)).symm⟩
  | 1, _ =>
    refine ab_enter ?_
    refine ab_iload_n dX10_isUnder_0 rfl ?_
    refine ab_sti_n (ls' := [_, _, _, _]) dX10_isUnder_1 (by decide) rfl ?_
    refine ab_iconst (v := nI 0) dX10_isUnder_2 (by decide) ?_
    refine ab_sti_n (ls' := [_, _, _, _]) dX10_isUnder_3 (by decide) rfl ?_
    refine ab_iload_n dX10_isUnder_4 rfl ?_
    refine ab_bipush (v := nI 6) dX10_isUnder_5 (by decide) ?_
    refine ab_nicmp_ge 36 dX10_isUnder_7 (by decide) (by omega) (by omega) (fun c_7 => ?_) (fun c_7 => ?_)
    · skip
      exact absurd c_7 (by omega)
    · skip
      refine ab_iload_n dX10_isUnder_10 rfl ?_
      refine ab_callSb [_] dX10_isUnder_11 ml_X10_83 mk_X10_isKind (c_isKind (k := 0) (b := 0)) (fun t1 hh1 hq => ?_)
      obtain ⟨hhe, rfl⟩ := hq
      rw [hhe]
      refine ab_bif_eq 36 dX10_isUnder_14 (by decide) (fun c_14 => ?_) (fun c_14 => ?_)
      · skip
        exact (ab_tf (show ab_inr 0 5 (nI 1) = true by decide) c_14).elim
      · skip
        refine ab_iload_n dX10_isUnder_17 rfl ?_
        refine ab_iload_n dX10_isUnder_18 rfl ?_
        refine ab_nicmp_ne 24 dX10_isUnder_19 (by decide) (by omega) (by omega) (fun n_0 => ?_) (fun n_0 => ?_)
        · skip
          refine ab_gets (j := 2) dX10_isUnder_24 fl_X10_87 ?_
          refine ab_iload_n dX10_isUnder_27 rfl ?_
          refine ab_eald dX10_isUnder_28 rfl (by rw [hE.1]; decide) hE.2.2.2.1.2.1 ?_
          refine ab_sti_n (ls' := [_, _, _, _]) dX10_isUnder_29 (by decide) rfl ?_
          refine ab_nincR (ls' := [_, _, _, _]) dX10_isUnder_30 rfl rfl ?_
          refine ab_goto 4 dX10_isUnder_33 (by decide) ?_
          refine ab_iload_n dX10_isUnder_4 rfl ?_
          refine ab_bipush (v := nI 6) dX10_isUnder_5 (by decide) ?_
          refine ab_nicmp_ge 36 dX10_isUnder_7 (by decide) (by omega) (by omega) (fun c_7 => ?_) (fun c_7 => ?_)
          · skip
            exact absurd c_7 (by omega)
          · skip
            refine ab_iload_n dX10_isUnder_10 rfl ?_
            refine ab_callSb [_] dX10_isUnder_11 ml_X10_83 mk_X10_isKind (c_isKind (k := 0) (b := 0)) (fun t1 hh1 hq => ?_)
            obtain ⟨hhe, rfl⟩ := hq
            rw [hhe]
            refine ab_bif_eq 36 dX10_isUnder_14 (by decide) (fun c_14 => ?_) (fun c_14 => ?_)
            · skip
              exact (ab_tf (show ab_inr 0 5 (nI 0) = true by decide) c_14).elim
            · skip
              refine ab_iload_n dX10_isUnder_17 rfl ?_
              refine ab_iload_n dX10_isUnder_18 rfl ?_
              refine ab_nicmp_ne 24 dX10_isUnder_19 (by decide) (by omega) (by omega) (fun n_1 => ?_) (fun n_1 => ?_)
              · skip
                refine ab_gets (j := 2) dX10_isUnder_24 fl_X10_87 ?_
                refine ab_iload_n dX10_isUnder_27 rfl ?_
                refine ab_eald dX10_isUnder_28 rfl (by rw [hE.1]; decide) hE.2.2.2.1.1 ?_
                refine ab_sti_n (ls' := [_, _, _, _]) dX10_isUnder_29 (by decide) rfl ?_
                refine ab_nincR (ls' := [_, _, _, _]) dX10_isUnder_30 rfl rfl ?_
                refine ab_goto 4 dX10_isUnder_33 (by decide) ?_
                refine ab_iload_n dX10_isUnder_4 rfl ?_
                refine ab_bipush (v := nI 6) dX10_isUnder_5 (by decide) ?_
                refine ab_nicmp_ge 36 dX10_isUnder_7 (by decide) (by omega) (by omega) (fun c_7 => ?_) (fun c_7 => ?_)
                · skip
                  exact absurd c_7 (by omega)
                · skip
                  refine ab_iload_n dX10_isUnder_10 rfl ?_
                  refine ab_callSb [_] dX10_isUnder_11 ml_X10_83 mk_X10_isKind (c_isKind (k := 0) (b := 0)) (fun t1 hh1 hq => ?_)
                  obtain ⟨hhe, rfl⟩ := hq
                  rw [hhe]
                  refine ab_bif_eq 36 dX10_isUnder_14 (by decide) (fun c_14 => ?_) (fun c_14 => ?_)
                  · skip
                    refine ab_iconst (v := nI 0) dX10_isUnder_36 (by decide) ?_
                    refine ab_retb (x := false) dX10_isUnder_37 ?_
                    exact ⟨rfl, (decide_eq_false (by omega)).symm⟩
                  · skip
                    exact (ab_tf c_14 (show ab_inr 0 5 (-1) = false by decide)).elim
              · skip
                refine ab_iconst (v := nI 1) dX10_isUnder_22 (by decide) ?_
                refine ab_retb (x := true) dX10_isUnder_23 ?_
                exact ⟨rfl, (decide_eq_true (by omega)).symm⟩
        · skip
          refine ab_iconst (v := nI 1) dX10_isUnder_22 (by decide) ?_
          refine ab_retb (x := true) dX10_isUnder_23 ?_
          exact ⟨rfl, (decide_eq_true (by omega)).symm⟩
  | 2, _ =>
    refine ab_enter ?_
    refine ab_iload_n dX10_isUnder_0 rfl ?_
    refine ab_sti_n (ls' := [_, _, _, _]) dX10_isUnder_1 (by decide) rfl ?_
    refine ab_iconst (v := nI 0) dX10_isUnder_2 (by decide) ?_
    refine ab_sti_n (ls' := [_, _, _, _]) dX10_isUnder_3 (by decide) rfl ?_
    refine ab_iload_n dX10_isUnder_4 rfl ?_
    refine ab_bipush (v := nI 6) dX10_isUnder_5 (by decide) ?_
    refine ab_nicmp_ge 36 dX10_isUnder_7 (by decide) (by omega) (by omega) (fun c_7 => ?_) (fun c_7 => ?_)
    · skip
      exact absurd c_7 (by omega)
    · skip
      refine ab_iload_n dX10_isUnder_10 rfl ?_
      refine ab_callSb [_] dX10_isUnder_11 ml_X10_83 mk_X10_isKind (c_isKind (k := 0) (b := 0)) (fun t1 hh1 hq => ?_)
      obtain ⟨hhe, rfl⟩ := hq
      rw [hhe]
      refine ab_bif_eq 36 dX10_isUnder_14 (by decide) (fun c_14 => ?_) (fun c_14 => ?_)
      · skip
        exact (ab_tf (show ab_inr 0 5 (nI 2) = true by decide) c_14).elim
      · skip
        refine ab_iload_n dX10_isUnder_17 rfl ?_
        refine ab_iload_n dX10_isUnder_18 rfl ?_
        refine ab_nicmp_ne 24 dX10_isUnder_19 (by decide) (by omega) (by omega) (fun n_0 => ?_) (fun n_0 => ?_)
        · skip
          refine ab_gets (j := 2) dX10_isUnder_24 fl_X10_87 ?_
          refine ab_iload_n dX10_isUnder_27 rfl ?_
          refine ab_eald dX10_isUnder_28 rfl (by rw [hE.1]; decide) hE.2.2.2.1.2.2.1 ?_
          refine ab_sti_n (ls' := [_, _, _, _]) dX10_isUnder_29 (by decide) rfl ?_
          refine ab_nincR (ls' := [_, _, _, _]) dX10_isUnder_30 rfl rfl ?_
          refine ab_goto 4 dX10_isUnder_33 (by decide) ?_
          refine ab_iload_n dX10_isUnder_4 rfl ?_
          refine ab_bipush (v := nI 6) dX10_isUnder_5 (by decide) ?_
          refine ab_nicmp_ge 36 dX10_isUnder_7 (by decide) (by omega) (by omega) (fun c_7 => ?_) (fun c_7 => ?_)
          · skip
            exact absurd c_7 (by omega)
          · skip
            refine ab_iload_n dX10_isUnder_10 rfl ?_
            refine ab_callSb [_] dX10_isUnder_11 ml_X10_83 mk_X10_isKind (c_isKind (k := 0) (b := 0)) (fun t1 hh1 hq => ?_)
            obtain ⟨hhe, rfl⟩ := hq
            rw [hhe]
            refine ab_bif_eq 36 dX10_isUnder_14 (by decide) (fun c_14 => ?_) (fun c_14 => ?_)
            · skip
              exact (ab_tf (show ab_inr 0 5 (nI 0) = true by decide) c_14).elim
            · skip
              refine ab_iload_n dX10_isUnder_17 rfl ?_
              refine ab_iload_n dX10_isUnder_18 rfl ?_
              refine ab_nicmp_ne 24 dX10_isUnder_19 (by decide) (by omega) (by omega) (fun n_1 => ?_) (fun n_1 => ?_)
              · skip
                refine ab_gets (j := 2) dX10_isUnder_24 fl_X10_87 ?_
                refine ab_iload_n dX10_isUnder_27 rfl ?_
                refine ab_eald dX10_isUnder_28 rfl (by rw [hE.1]; decide) hE.2.2.2.1.1 ?_
                refine ab_sti_n (ls' := [_, _, _, _]) dX10_isUnder_29 (by decide) rfl ?_
                refine ab_nincR (ls' := [_, _, _, _]) dX10_isUnder_30 rfl rfl ?_
                refine ab_goto 4 dX10_isUnder_33 (by decide) ?_
                refine ab_iload_n dX10_isUnder_4 rfl ?_
                refine ab_bipush (v := nI 6) dX10_isUnder_5 (by decide) ?_
                refine ab_nicmp_ge 36 dX10_isUnder_7 (by decide) (by omega) (by omega) (fun c_7 => ?_) (fun c_7 => ?_)
                · skip
                  exact absurd c_7 (by omega)
                · skip
                  refine ab_iload_n dX10_isUnder_10 rfl ?_
                  refine ab_callSb [_] dX10_isUnder_11 ml_X10_83 mk_X10_isKind (c_isKind (k := 0) (b := 0)) (fun t1 hh1 hq => ?_)
                  obtain ⟨hhe, rfl⟩ := hq
                  rw [hhe]
                  refine ab_bif_eq 36 dX10_isUnder_14 (by decide) (fun c_14 => ?_) (fun c_14 => ?_)
                  · skip
                    refine ab_iconst (v := nI 0) dX10_isUnder_36 (by decide) ?_
                    refine ab_retb (x := false) dX10_isUnder_37 ?_
                    exact ⟨rfl, (decide_eq_false (by omega)).symm⟩
                  · skip
                    exact (ab_tf c_14 (show ab_inr 0 5 (-1) = false by decide)).elim
              · skip
                refine ab_iconst (v := nI 1) dX10_isUnder_22 (by decide) ?_
                refine ab_retb (x := true) dX10_isUnder_23 ?_
                exact ⟨rfl, (decide_eq_true (by omega)).symm⟩
        · skip
          refine ab_iconst (v := nI 1) dX10_isUnder_22 (by decide) ?_
          refine ab_retb (x := true) dX10_isUnder_23 ?_
          exact ⟨rfl, (decide_eq_true (by omega)).symm⟩
  | 3, _ =>
    refine ab_enter ?_
    refine ab_iload_n dX10_isUnder_0 rfl ?_
    refine ab_sti_n (ls' := [_, _, _, _]) dX10_isUnder_1 (by decide) rfl ?_
    refine ab_iconst (v := nI 0) dX10_isUnder_2 (by decide) ?_
    refine ab_sti_n (ls' := [_, _, _, _]) dX10_isUnder_3 (by decide) rfl ?_
    refine ab_iload_n dX10_isUnder_4 rfl ?_
    refine ab_bipush (v := nI 6) dX10_isUnder_5 (by decide) ?_
    refine ab_nicmp_ge 36 dX10_isUnder_7 (by decide) (by omega) (by omega) (fun c_7 => ?_) (fun c_7 => ?_)
    · skip
      exact absurd c_7 (by omega)
    · skip
      refine ab_iload_n dX10_isUnder_10 rfl ?_
      refine ab_callSb [_] dX10_isUnder_11 ml_X10_83 mk_X10_isKind (c_isKind (k := 0) (b := 0)) (fun t1 hh1 hq => ?_)
      obtain ⟨hhe, rfl⟩ := hq
      rw [hhe]
      refine ab_bif_eq 36 dX10_isUnder_14 (by decide) (fun c_14 => ?_) (fun c_14 => ?_)
      · skip
        exact (ab_tf (show ab_inr 0 5 (nI 3) = true by decide) c_14).elim
      · skip
        refine ab_iload_n dX10_isUnder_17 rfl ?_
        refine ab_iload_n dX10_isUnder_18 rfl ?_
        refine ab_nicmp_ne 24 dX10_isUnder_19 (by decide) (by omega) (by omega) (fun n_0 => ?_) (fun n_0 => ?_)
        · skip
          refine ab_gets (j := 2) dX10_isUnder_24 fl_X10_87 ?_
          refine ab_iload_n dX10_isUnder_27 rfl ?_
          refine ab_eald dX10_isUnder_28 rfl (by rw [hE.1]; decide) hE.2.2.2.1.2.2.2.1 ?_
          refine ab_sti_n (ls' := [_, _, _, _]) dX10_isUnder_29 (by decide) rfl ?_
          refine ab_nincR (ls' := [_, _, _, _]) dX10_isUnder_30 rfl rfl ?_
          refine ab_goto 4 dX10_isUnder_33 (by decide) ?_
          refine ab_iload_n dX10_isUnder_4 rfl ?_
          refine ab_bipush (v := nI 6) dX10_isUnder_5 (by decide) ?_
          refine ab_nicmp_ge 36 dX10_isUnder_7 (by decide) (by omega) (by omega) (fun c_7 => ?_) (fun c_7 => ?_)
          · skip
            exact absurd c_7 (by omega)
          · skip
            refine ab_iload_n dX10_isUnder_10 rfl ?_
            refine ab_callSb [_] dX10_isUnder_11 ml_X10_83 mk_X10_isKind (c_isKind (k := 0) (b := 0)) (fun t1 hh1 hq => ?_)
            obtain ⟨hhe, rfl⟩ := hq
            rw [hhe]
            refine ab_bif_eq 36 dX10_isUnder_14 (by decide) (fun c_14 => ?_) (fun c_14 => ?_)
            · skip
              exact (ab_tf (show ab_inr 0 5 (nI 0) = true by decide) c_14).elim
            · skip
              refine ab_iload_n dX10_isUnder_17 rfl ?_
              refine ab_iload_n dX10_isUnder_18 rfl ?_
              refine ab_nicmp_ne 24 dX10_isUnder_19 (by decide) (by omega) (by omega) (fun n_1 => ?_) (fun n_1 => ?_)
              · skip
                refine ab_gets (j := 2) dX10_isUnder_24 fl_X10_87 ?_
                refine ab_iload_n dX10_isUnder_27 rfl ?_
                refine ab_eald dX10_isUnder_28 rfl (by rw [hE.1]; decide) hE.2.2.2.1.1 ?_
                refine ab_sti_n (ls' := [_, _, _, _]) dX10_isUnder_29 (by decide) rfl ?_
                refine ab_nincR (ls' := [_, _, _, _]) dX10_isUnder_30 rfl rfl ?_
                refine ab_goto 4 dX10_isUnder_33 (by decide) ?_
                refine ab_iload_n dX10_isUnder_4 rfl ?_
                refine ab_bipush (v := nI 6) dX10_isUnder_5 (by decide) ?_
                refine ab_nicmp_ge 36 dX10_isUnder_7 (by decide) (by omega) (by omega) (fun c_7 => ?_) (fun c_7 => ?_)
                · skip
                  exact absurd c_7 (by omega)
                · skip
                  refine ab_iload_n dX10_isUnder_10 rfl ?_
                  refine ab_callSb [_] dX10_isUnder_11 ml_X10_83 mk_X10_isKind (c_isKind (k := 0) (b := 0)) (fun t1 hh1 hq => ?_)
                  obtain ⟨hhe, rfl⟩ := hq
                  rw [hhe]
                  refine ab_bif_eq 36 dX10_isUnder_14 (by decide) (fun c_14 => ?_) (fun c_14 => ?_)
                  · skip
                    refine ab_iconst (v := nI 0) dX10_isUnder_36 (by decide) ?_
                    refine ab_retb (x := false) dX10_isUnder_37 ?_
                    exact ⟨rfl, (decide_eq_false (by omega)).symm⟩
                  · skip
                    exact (ab_tf c_14 (show ab_inr 0 5 (-1) = false by decide)).elim
              · skip
                refine ab_iconst (v := nI 1) dX10_isUnder_22 (by decide) ?_
                refine ab_retb (x := true) dX10_isUnder_23 ?_
                exact ⟨rfl, (decide_eq_true (by omega)).symm⟩
        · skip
          refine ab_iconst (v := nI 1) dX10_isUnder_22 (by decide) ?_
          refine ab_retb (x := true) dX10_isUnder_23 ?_
          exact ⟨rfl, (decide_eq_true (by omega)).symm⟩
  | 4, _ =>
    refine ab_enter ?_
    refine ab_iload_n dX10_isUnder_0 rfl ?_
    refine ab_sti_n (ls' := [_, _, _, _]) dX10_isUnder_1 (by decide) rfl ?_
    refine ab_iconst (v := nI 0) dX10_isUnder_2 (by decide) ?_
    refine ab_sti_n (ls' := [_, _, _, _]) dX10_isUnder_3 (by decide) rfl ?_
    refine ab_iload_n dX10_isUnder_4 rfl ?_
    refine ab_bipush (v := nI 6) dX10_isUnder_5 (by decide) ?_
    refine ab_nicmp_ge 36 dX10_isUnder_7 (by decide) (by omega) (by omega) (fun c_7 => ?_) (fun c_7 => ?_)
    · skip
      exact absurd c_7 (by omega)
    · skip
      refine ab_iload_n dX10_isUnder_10 rfl ?_
      refine ab_callSb [_] dX10_isUnder_11 ml_X10_83 mk_X10_isKind (c_isKind (k := 0) (b := 0)) (fun t1 hh1 hq => ?_)
      obtain ⟨hhe, rfl⟩ := hq
      rw [hhe]
      refine ab_bif_eq 36 dX10_isUnder_14 (by decide) (fun c_14 => ?_) (fun c_14 => ?_)
      · skip
        exact (ab_tf (show ab_inr 0 5 (nI 4) = true by decide) c_14).elim
      · skip
        refine ab_iload_n dX10_isUnder_17 rfl ?_
        refine ab_iload_n dX10_isUnder_18 rfl ?_
        refine ab_nicmp_ne 24 dX10_isUnder_19 (by decide) (by omega) (by omega) (fun n_0 => ?_) (fun n_0 => ?_)
        · skip
          refine ab_gets (j := 2) dX10_isUnder_24 fl_X10_87 ?_
          refine ab_iload_n dX10_isUnder_27 rfl ?_
          refine ab_eald dX10_isUnder_28 rfl (by rw [hE.1]; decide) hE.2.2.2.1.2.2.2.2.1 ?_
          refine ab_sti_n (ls' := [_, _, _, _]) dX10_isUnder_29 (by decide) rfl ?_
          refine ab_nincR (ls' := [_, _, _, _]) dX10_isUnder_30 rfl rfl ?_
          refine ab_goto 4 dX10_isUnder_33 (by decide) ?_
          refine ab_iload_n dX10_isUnder_4 rfl ?_
          refine ab_bipush (v := nI 6) dX10_isUnder_5 (by decide) ?_
          refine ab_nicmp_ge 36 dX10_isUnder_7 (by decide) (by omega) (by omega) (fun c_7 => ?_) (fun c_7 => ?_)
          · skip
            exact absurd c_7 (by omega)
          · skip
            refine ab_iload_n dX10_isUnder_10 rfl ?_
            refine ab_callSb [_] dX10_isUnder_11 ml_X10_83 mk_X10_isKind (c_isKind (k := 0) (b := 0)) (fun t1 hh1 hq => ?_)
            obtain ⟨hhe, rfl⟩ := hq
            rw [hhe]
            refine ab_bif_eq 36 dX10_isUnder_14 (by decide) (fun c_14 => ?_) (fun c_14 => ?_)
            · skip
              exact (ab_tf (show ab_inr 0 5 (nI 1) = true by decide) c_14).elim
            · skip
              refine ab_iload_n dX10_isUnder_17 rfl ?_
              refine ab_iload_n dX10_isUnder_18 rfl ?_
              refine ab_nicmp_ne 24 dX10_isUnder_19 (by decide) (by omega) (by omega) (fun n_1 => ?_) (fun n_1 => ?_)
              · skip
                refine ab_gets (j := 2) dX10_isUnder_24 fl_X10_87 ?_
                refine ab_iload_n dX10_isUnder_27 rfl ?_
                refine ab_eald dX10_isUnder_28 rfl (by rw [hE.1]; decide) hE.2.2.2.1.2.1 ?_
                refine ab_sti_n (ls' := [_, _, _, _]) dX10_isUnder_29 (by decide) rfl ?_
                refine ab_nincR (ls' := [_, _, _, _]) dX10_isUnder_30 rfl rfl ?_
                refine ab_goto 4 dX10_isUnder_33 (by decide) ?_
                refine ab_iload_n dX10_isUnder_4 rfl ?_
                refine ab_bipush (v := nI 6) dX10_isUnder_5 (by decide) ?_
                refine ab_nicmp_ge 36 dX10_isUnder_7 (by decide) (by omega) (by omega) (fun c_7 => ?_) (fun c_7 => ?_)
                · skip
                  exact absurd c_7 (by omega)
                · skip
                  refine ab_iload_n dX10_isUnder_10 rfl ?_
                  refine ab_callSb [_] dX10_isUnder_11 ml_X10_83 mk_X10_isKind (c_isKind (k := 0) (b := 0)) (fun t1 hh1 hq => ?_)
                  obtain ⟨hhe, rfl⟩ := hq
                  rw [hhe]
                  refine ab_bif_eq 36 dX10_isUnder_14 (by decide) (fun c_14 => ?_) (fun c_14 => ?_)
                  · skip
                    exact (ab_tf (show ab_inr 0 5 (nI 0) = true by decide) c_14).elim
                  · skip
                    refine ab_iload_n dX10_isUnder_17 rfl ?_
                    refine ab_iload_n dX10_isUnder_18 rfl ?_
                    refine ab_nicmp_ne 24 dX10_isUnder_19 (by decide) (by omega) (by omega) (fun n_2 => ?_) (fun n_2 => ?_)
                    · skip
                      refine ab_gets (j := 2) dX10_isUnder_24 fl_X10_87 ?_
                      refine ab_iload_n dX10_isUnder_27 rfl ?_
                      refine ab_eald dX10_isUnder_28 rfl (by rw [hE.1]; decide) hE.2.2.2.1.1 ?_
                      refine ab_sti_n (ls' := [_, _, _, _]) dX10_isUnder_29 (by decide) rfl ?_
                      refine ab_nincR (ls' := [_, _, _, _]) dX10_isUnder_30 rfl rfl ?_
                      refine ab_goto 4 dX10_isUnder_33 (by decide) ?_
                      refine ab_iload_n dX10_isUnder_4 rfl ?_
                      refine ab_bipush (v := nI 6) dX10_isUnder_5 (by decide) ?_
                      refine ab_nicmp_ge 36 dX10_isUnder_7 (by decide) (by omega) (by omega) (fun c_7 => ?_) (fun c_7 => ?_)
                      · skip
                        exact absurd c_7 (by omega)
                      · skip
                        refine ab_iload_n dX10_isUnder_10 rfl ?_
                        refine ab_callSb [_] dX10_isUnder_11 ml_X10_83 mk_X10_isKind (c_isKind (k := 0) (b := 0)) (fun t1 hh1 hq => ?_)
                        obtain ⟨hhe, rfl⟩ := hq
                        rw [hhe]
                        refine ab_bif_eq 36 dX10_isUnder_14 (by decide) (fun c_14 => ?_) (fun c_14 => ?_)
                        · skip
                          refine ab_iconst (v := nI 0) dX10_isUnder_36 (by decide) ?_
                          refine ab_retb (x := false) dX10_isUnder_37 ?_
                          exact ⟨rfl, (decide_eq_false (by omega)).symm⟩
                        · skip
                          exact (ab_tf c_14 (show ab_inr 0 5 (-1) = false by decide)).elim
                    · skip
                      refine ab_iconst (v := nI 1) dX10_isUnder_22 (by decide) ?_
                      refine ab_retb (x := true) dX10_isUnder_23 ?_
                      exact ⟨rfl, (decide_eq_true (by omega)).symm⟩
              · skip
                refine ab_iconst (v := nI 1) dX10_isUnder_22 (by decide) ?_
                refine ab_retb (x := true) dX10_isUnder_23 ?_
                exact ⟨rfl, (decide_eq_true (by omega)).symm⟩
        · skip
          refine ab_iconst (v := nI 1) dX10_isUnder_22 (by decide) ?_
          refine ab_retb (x := true) dX10_isUnder_23 ?_
          exact ⟨rfl, (decide_eq_true (by omega)).symm⟩
  | 5, _ =>
    refine ab_enter ?_
    refine ab_iload_n dX10_isUnder_0 rfl ?_
    refine ab_sti_n (ls' := [_, _, _, _]) dX10_isUnder_1 (by decide) rfl ?_
    refine ab_iconst (v := nI 0) dX10_isUnder_2 (by decide) ?_
    refine ab_sti_n (ls' := [_, _, _, _]) dX10_isUnder_3 (by decide) rfl ?_
    refine ab_iload_n dX10_isUnder_4 rfl ?_
    refine ab_bipush (v := nI 6) dX10_isUnder_5 (by decide) ?_
    refine ab_nicmp_ge 36 dX10_isUnder_7 (by decide) (by omega) (by omega) (fun c_7 => ?_) (fun c_7 => ?_)
    · skip
      exact absurd c_7 (by omega)
    · skip
      refine ab_iload_n dX10_isUnder_10 rfl ?_
      refine ab_callSb [_] dX10_isUnder_11 ml_X10_83 mk_X10_isKind (c_isKind (k := 0) (b := 0)) (fun t1 hh1 hq => ?_)
      obtain ⟨hhe, rfl⟩ := hq
      rw [hhe]
      refine ab_bif_eq 36 dX10_isUnder_14 (by decide) (fun c_14 => ?_) (fun c_14 => ?_)
      · skip
        exact (ab_tf (show ab_inr 0 5 (nI 5) = true by decide) c_14).elim
      · skip
        refine ab_iload_n dX10_isUnder_17 rfl ?_
        refine ab_iload_n dX10_isUnder_18 rfl ?_
        refine ab_nicmp_ne 24 dX10_isUnder_19 (by decide) (by omega) (by omega) (fun n_0 => ?_) (fun n_0 => ?_)
        · skip
          refine ab_gets (j := 2) dX10_isUnder_24 fl_X10_87 ?_
          refine ab_iload_n dX10_isUnder_27 rfl ?_
          refine ab_eald dX10_isUnder_28 rfl (by rw [hE.1]; decide) hE.2.2.2.1.2.2.2.2.2 ?_
          refine ab_sti_n (ls' := [_, _, _, _]) dX10_isUnder_29 (by decide) rfl ?_
          refine ab_nincR (ls' := [_, _, _, _]) dX10_isUnder_30 rfl rfl ?_
          refine ab_goto 4 dX10_isUnder_33 (by decide) ?_
          refine ab_iload_n dX10_isUnder_4 rfl ?_
          refine ab_bipush (v := nI 6) dX10_isUnder_5 (by decide) ?_
          refine ab_nicmp_ge 36 dX10_isUnder_7 (by decide) (by omega) (by omega) (fun c_7 => ?_) (fun c_7 => ?_)
          · skip
            exact absurd c_7 (by omega)
          · skip
            refine ab_iload_n dX10_isUnder_10 rfl ?_
            refine ab_callSb [_] dX10_isUnder_11 ml_X10_83 mk_X10_isKind (c_isKind (k := 0) (b := 0)) (fun t1 hh1 hq => ?_)
            obtain ⟨hhe, rfl⟩ := hq
            rw [hhe]
            refine ab_bif_eq 36 dX10_isUnder_14 (by decide) (fun c_14 => ?_) (fun c_14 => ?_)
            · skip
              exact (ab_tf (show ab_inr 0 5 (nI 3) = true by decide) c_14).elim
            · skip
              refine ab_iload_n dX10_isUnder_17 rfl ?_
              refine ab_iload_n dX10_isUnder_18 rfl ?_
              refine ab_nicmp_ne 24 dX10_isUnder_19 (by decide) (by omega) (by omega) (fun n_1 => ?_) (fun n_1 => ?_)
              · skip
                refine ab_gets (j := 2) dX10_isUnder_24 fl_X10_87 ?_
                refine ab_iload_n dX10_isUnder_27 rfl ?_
                refine ab_eald dX10_isUnder_28 rfl (by rw [hE.1]; decide) hE.2.2.2.1.2.2.2.1 ?_
                refine ab_sti_n (ls' := [_, _, _, _]) dX10_isUnder_29 (by decide) rfl ?_
                refine ab_nincR (ls' := [_, _, _, _]) dX10_isUnder_30 rfl rfl ?_
                refine ab_goto 4 dX10_isUnder_33 (by decide) ?_
                refine ab_iload_n dX10_isUnder_4 rfl ?_
                refine ab_bipush (v := nI 6) dX10_isUnder_5 (by decide) ?_
                refine ab_nicmp_ge 36 dX10_isUnder_7 (by decide) (by omega) (by omega) (fun c_7 => ?_) (fun c_7 => ?_)
                · skip
                  exact absurd c_7 (by omega)
                · skip
                  refine ab_iload_n dX10_isUnder_10 rfl ?_
                  refine ab_callSb [_] dX10_isUnder_11 ml_X10_83 mk_X10_isKind (c_isKind (k := 0) (b := 0)) (fun t1 hh1 hq => ?_)
                  obtain ⟨hhe, rfl⟩ := hq
                  rw [hhe]
                  refine ab_bif_eq 36 dX10_isUnder_14 (by decide) (fun c_14 => ?_) (fun c_14 => ?_)
                  · skip
                    exact (ab_tf (show ab_inr 0 5 (nI 0) = true by decide) c_14).elim
                  · skip
                    refine ab_iload_n dX10_isUnder_17 rfl ?_
                    refine ab_iload_n dX10_isUnder_18 rfl ?_
                    refine ab_nicmp_ne 24 dX10_isUnder_19 (by decide) (by omega) (by omega) (fun n_2 => ?_) (fun n_2 => ?_)
                    · skip
                      refine ab_gets (j := 2) dX10_isUnder_24 fl_X10_87 ?_
                      refine ab_iload_n dX10_isUnder_27 rfl ?_
                      refine ab_eald dX10_isUnder_28 rfl (by rw [hE.1]; decide) hE.2.2.2.1.1 ?_
                      refine ab_sti_n (ls' := [_, _, _, _]) dX10_isUnder_29 (by decide) rfl ?_
                      refine ab_nincR (ls' := [_, _, _, _]) dX10_isUnder_30 rfl rfl ?_
                      refine ab_goto 4 dX10_isUnder_33 (by decide) ?_
                      refine ab_iload_n dX10_isUnder_4 rfl ?_
                      refine ab_bipush (v := nI 6) dX10_isUnder_5 (by decide) ?_
                      refine ab_nicmp_ge 36 dX10_isUnder_7 (by decide) (by omega) (by omega) (fun c_7 => ?_) (fun c_7 => ?_)
                      · skip
                        exact absurd c_7 (by omega)
                      · skip
                        refine ab_iload_n dX10_isUnder_10 rfl ?_
                        refine ab_callSb [_] dX10_isUnder_11 ml_X10_83 mk_X10_isKind (c_isKind (k := 0) (b := 0)) (fun t1 hh1 hq => ?_)
                        obtain ⟨hhe, rfl⟩ := hq
                        rw [hhe]
                        refine ab_bif_eq 36 dX10_isUnder_14 (by decide) (fun c_14 => ?_) (fun c_14 => ?_)
                        · skip
                          refine ab_iconst (v := nI 0) dX10_isUnder_36 (by decide) ?_
                          refine ab_retb (x := false) dX10_isUnder_37 ?_
                          exact ⟨rfl, (decide_eq_false (by omega)).symm⟩
                        · skip
                          exact (ab_tf c_14 (show ab_inr 0 5 (-1) = false by decide)).elim
                    · skip
                      refine ab_iconst (v := nI 1) dX10_isUnder_22 (by decide) ?_
                      refine ab_retb (x := true) dX10_isUnder_23 ?_
                      exact ⟨rfl, (decide_eq_true (by omega)).symm⟩
              · skip
                refine ab_iconst (v := nI 1) dX10_isUnder_22 (by decide) ?_
                refine ab_retb (x := true) dX10_isUnder_23 ?_
                exact ⟨rfl, (decide_eq_true (by omega)).symm⟩
        · skip
          refine ab_iconst (v := nI 1) dX10_isUnder_22 (by decide) ?_
          refine ab_retb (x := true) dX10_isUnder_23 ?_
          exact ⟨rfl, (decide_eq_true (by omega)).symm⟩
/-! ===== a point's colour ===== -/
theorem iI_gt0 {p : Int × Nat} : ¬ iI (vQ p) ≤ 0 ↔ 0 < vQ p := by
  have h := vQ_in p
  rw [Int32.le_iff_toInt_le, iI_int h.1 h.2, Int32.toInt_zero]; omega
theorem iI_le {p q : Int × Nat} : iI (vQ p) ≤ iI (vQ q) ↔ vQ p ≤ vQ q := by
  have h := vQ_in p
  have g := vQ_in q
  rw [Int32.le_iff_toInt_le, iI_int h.1 h.2, iI_int g.1 g.2]
theorem vQ_pq {X : Nat} (h : X < 10000 ∧ X % 100 ≠ 0) : vQ (fR (pq X)) = vQ (pq X) := vQ_R (pq_B h).2.1 ((pq_B h).k1 (by decide)) ((pq_B h).k2 (by decide))
set_option maxRecDepth 100000 in
set_option maxHeartbeats 4000000 in
theorem c_shade {k b r : Nat} {h : ab_H} {m : Bool} {P : Nat × Nat} (hk : 2 ≤ k) (hA : pt_at h r P) (hP : pOK P) : ab_M k b mX6_shade [.ref r, .int (nI m.toNat)] h (ab_pi (fun v h' => h' = h ∧ v = nI (sd m P))) := by
  cases m with
  | false =>
    refine ab_enter ?_
    refine ab_iload_n dX6_shade_0 rfl ?_
    refine ab_bif_eq 14 dX6_shade_1 (by decide) (fun c_1 => ?_) (fun c_1 => ?_)
    · skip
      refine ab_aload_n dX6_shade_14 rfl ?_
      refine ab_getR dX6_shade_15 fl_X6_7 hA.2.2.1 rfl ?_
      refine ab_callVi [] dX6_shade_18 ml_X6_16 mk_X2_valuation hA.2.2.2.1.2.2.1 (c_fr_val (k := 1) (b := 0) (Nat.le_refl _) hA.2.2.2.1 (fR_0 (pq_0 _)) ((pq_B hP.1).R.k1 (by decide)) (pq_B hP.1).R.2.1 ((pq_B hP.1).R.k2 (by decide))) (fun x h1 hq => ?_)
      obtain ⟨hhe, rfl⟩ := hq
      rw [hhe]
      rw [vQ_pq hP.1]
      refine ab_sti_n (ls' := [_, _, _, _]) dX6_shade_21 (by decide) rfl ?_
      refine ab_iload_n dX6_shade_22 rfl ?_
      refine ab_bif_eq 36 dX6_shade_23 (by decide) (fun c_23 => ?_) (fun c_23 => ?_)
      · skip
        refine ab_aload_n dX6_shade_36 rfl ?_
        refine ab_getR dX6_shade_37 fl_X6_13 hA.2.2.1 rfl ?_
        refine ab_callVi [] dX6_shade_40 ml_X6_16 mk_X2_valuation hA.2.2.2.2.2.2.1 (c_fr_val (k := 1) (b := 0) (Nat.le_refl _) hA.2.2.2.2 (fR_0 (pq_0 _)) ((pq_B hP.2).R.k1 (by decide)) (pq_B hP.2).R.2.1 ((pq_B hP.2).R.k2 (by decide))) (fun x h1 hq => ?_)
        obtain ⟨hhe, rfl⟩ := hq
        rw [hhe]
        rw [vQ_pq hP.2]
        refine ab_sti_n (ls' := [_, _, _, _]) dX6_shade_43 (by decide) rfl ?_
        refine ab_iload_n dX6_shade_44 rfl ?_
        refine ab_if_le 54 dX6_shade_45 (by decide) (fun c_45 => ?_) (fun c_45 => ?_)
        · skip
          refine ab_iload_n dX6_shade_54 rfl ?_
          refine ab_iload_n dX6_shade_55 rfl ?_
          refine ab_icmp_gt 63 dX6_shade_56 (by decide) (fun c_56 => ?_) (fun c_56 => ?_)
          · skip
            refine ab_iconst (v := nI 2) dX6_shade_63 (by decide) ?_
            refine ab_reti dX6_shade_64 ?_
            first | exact ⟨rfl, congrArg nI (show 0 = sd false P by unfold sd cb; rw [if_neg (by decide), if_pos ⟨iI_gt0.mp c_45, iI_gt0.mp c_49⟩])⟩ | exact ⟨rfl, congrArg nI (show 1 = sd false P by unfold sd cb; rw [if_neg (by decide), if_neg (fun q => by first | exact absurd c_45 (iI_gt0.mpr q.1) | exact absurd c_49 (iI_gt0.mpr q.2)), if_pos (iI_le.mp (Int32.not_lt.mp c_56))])⟩ | exact ⟨rfl, congrArg nI (show 2 = sd false P by unfold sd cb; rw [if_neg (by decide), if_neg (fun q => by first | exact absurd c_45 (iI_gt0.mpr q.1) | exact absurd c_49 (iI_gt0.mpr q.2)), if_neg (mt iI_le.mpr (Int32.not_le.mpr c_56))])⟩
          · skip
            refine ab_iconst (v := nI 1) dX6_shade_59 (by decide) ?_
            refine ab_goto 64 dX6_shade_60 (by decide) ?_
            refine ab_reti dX6_shade_64 ?_
            first | exact ⟨rfl, congrArg nI (show 0 = sd false P by unfold sd cb; rw [if_neg (by decide), if_pos ⟨iI_gt0.mp c_45, iI_gt0.mp c_49⟩])⟩ | exact ⟨rfl, congrArg nI (show 1 = sd false P by unfold sd cb; rw [if_neg (by decide), if_neg (fun q => by first | exact absurd c_45 (iI_gt0.mpr q.1) | exact absurd c_49 (iI_gt0.mpr q.2)), if_pos (iI_le.mp (Int32.not_lt.mp c_56))])⟩ | exact ⟨rfl, congrArg nI (show 2 = sd false P by unfold sd cb; rw [if_neg (by decide), if_neg (fun q => by first | exact absurd c_45 (iI_gt0.mpr q.1) | exact absurd c_49 (iI_gt0.mpr q.2)), if_neg (mt iI_le.mpr (Int32.not_le.mpr c_56))])⟩
        · skip
          refine ab_iload_n dX6_shade_48 rfl ?_
          refine ab_if_le 54 dX6_shade_49 (by decide) (fun c_49 => ?_) (fun c_49 => ?_)
          · skip
            refine ab_iload_n dX6_shade_54 rfl ?_
            refine ab_iload_n dX6_shade_55 rfl ?_
            refine ab_icmp_gt 63 dX6_shade_56 (by decide) (fun c_56 => ?_) (fun c_56 => ?_)
            · skip
              refine ab_iconst (v := nI 2) dX6_shade_63 (by decide) ?_
              refine ab_reti dX6_shade_64 ?_
              first | exact ⟨rfl, congrArg nI (show 0 = sd false P by unfold sd cb; rw [if_neg (by decide), if_pos ⟨iI_gt0.mp c_45, iI_gt0.mp c_49⟩])⟩ | exact ⟨rfl, congrArg nI (show 1 = sd false P by unfold sd cb; rw [if_neg (by decide), if_neg (fun q => by first | exact absurd c_45 (iI_gt0.mpr q.1) | exact absurd c_49 (iI_gt0.mpr q.2)), if_pos (iI_le.mp (Int32.not_lt.mp c_56))])⟩ | exact ⟨rfl, congrArg nI (show 2 = sd false P by unfold sd cb; rw [if_neg (by decide), if_neg (fun q => by first | exact absurd c_45 (iI_gt0.mpr q.1) | exact absurd c_49 (iI_gt0.mpr q.2)), if_neg (mt iI_le.mpr (Int32.not_le.mpr c_56))])⟩
            · skip
              refine ab_iconst (v := nI 1) dX6_shade_59 (by decide) ?_
              refine ab_goto 64 dX6_shade_60 (by decide) ?_
              refine ab_reti dX6_shade_64 ?_
              first | exact ⟨rfl, congrArg nI (show 0 = sd false P by unfold sd cb; rw [if_neg (by decide), if_pos ⟨iI_gt0.mp c_45, iI_gt0.mp c_49⟩])⟩ | exact ⟨rfl, congrArg nI (show 1 = sd false P by unfold sd cb; rw [if_neg (by decide), if_neg (fun q => by first | exact absurd c_45 (iI_gt0.mpr q.1) | exact absurd c_49 (iI_gt0.mpr q.2)), if_pos (iI_le.mp (Int32.not_lt.mp c_56))])⟩ | exact ⟨rfl, congrArg nI (show 2 = sd false P by unfold sd cb; rw [if_neg (by decide), if_neg (fun q => by first | exact absurd c_45 (iI_gt0.mpr q.1) | exact absurd c_49 (iI_gt0.mpr q.2)), if_neg (mt iI_le.mpr (Int32.not_le.mpr c_56))])⟩
          · skip
            refine ab_iconst (v := nI 0) dX6_shade_52 (by decide) ?_
            refine ab_reti dX6_shade_53 ?_
            first | exact ⟨rfl, congrArg nI (show 0 = sd false P by unfold sd cb; rw [if_neg (by decide), if_pos ⟨iI_gt0.mp c_45, iI_gt0.mp c_49⟩])⟩ | exact ⟨rfl, congrArg nI (show 1 = sd false P by unfold sd cb; rw [if_neg (by decide), if_neg (fun q => by first | exact absurd c_45 (iI_gt0.mpr q.1) | exact absurd c_49 (iI_gt0.mpr q.2)), if_pos (iI_le.mp (Int32.not_lt.mp c_56))])⟩ | exact ⟨rfl, congrArg nI (show 2 = sd false P by unfold sd cb; rw [if_neg (by decide), if_neg (fun q => by first | exact absurd c_45 (iI_gt0.mpr q.1) | exact absurd c_49 (iI_gt0.mpr q.2)), if_neg (mt iI_le.mpr (Int32.not_le.mpr c_56))])⟩
      · skip
        exact absurd c_23 (by decide)
    · skip
      exact absurd c_1 (by decide)
  | true =>
    refine ab_enter ?_
    refine ab_iload_n dX6_shade_0 rfl ?_
    refine ab_bif_eq 14 dX6_shade_1 (by decide) (fun c_1 => ?_) (fun c_1 => ?_)
    · skip
      exact absurd c_1 (by decide)
    · skip
      refine ab_aload_n dX6_shade_4 rfl ?_
      refine ab_getR dX6_shade_5 fl_X6_13 hA.2.2.1 rfl ?_
      refine ab_callVi [] dX6_shade_8 ml_X6_16 mk_X2_valuation hA.2.2.2.2.2.2.1 (c_fr_val (k := 1) (b := 0) (Nat.le_refl _) hA.2.2.2.2 (fR_0 (pq_0 _)) ((pq_B hP.2).R.k1 (by decide)) (pq_B hP.2).R.2.1 ((pq_B hP.2).R.k2 (by decide))) (fun x h1 hq => ?_)
      obtain ⟨hhe, rfl⟩ := hq
      rw [hhe]
      rw [vQ_pq hP.2]
      refine ab_goto 21 dX6_shade_11 (by decide) ?_
      refine ab_sti_n (ls' := [_, _, _, _]) dX6_shade_21 (by decide) rfl ?_
      refine ab_iload_n dX6_shade_22 rfl ?_
      refine ab_bif_eq 36 dX6_shade_23 (by decide) (fun c_23 => ?_) (fun c_23 => ?_)
      · skip
        exact absurd c_23 (by decide)
      · skip
        refine ab_aload_n dX6_shade_26 rfl ?_
        refine ab_getR dX6_shade_27 fl_X6_7 hA.2.2.1 rfl ?_
        refine ab_callVi [] dX6_shade_30 ml_X6_16 mk_X2_valuation hA.2.2.2.1.2.2.1 (c_fr_val (k := 1) (b := 0) (Nat.le_refl _) hA.2.2.2.1 (fR_0 (pq_0 _)) ((pq_B hP.1).R.k1 (by decide)) (pq_B hP.1).R.2.1 ((pq_B hP.1).R.k2 (by decide))) (fun x h1 hq => ?_)
        obtain ⟨hhe, rfl⟩ := hq
        rw [hhe]
        rw [vQ_pq hP.1]
        refine ab_goto 43 dX6_shade_33 (by decide) ?_
        refine ab_sti_n (ls' := [_, _, _, _]) dX6_shade_43 (by decide) rfl ?_
        refine ab_iload_n dX6_shade_44 rfl ?_
        refine ab_if_le 54 dX6_shade_45 (by decide) (fun c_45 => ?_) (fun c_45 => ?_)
        · skip
          refine ab_iload_n dX6_shade_54 rfl ?_
          refine ab_iload_n dX6_shade_55 rfl ?_
          refine ab_icmp_gt 63 dX6_shade_56 (by decide) (fun c_56 => ?_) (fun c_56 => ?_)
          · skip
            refine ab_iconst (v := nI 2) dX6_shade_63 (by decide) ?_
            refine ab_reti dX6_shade_64 ?_
            first | exact ⟨rfl, congrArg nI (show 0 = sd true P by unfold sd cb; rw [if_pos rfl, if_pos ⟨iI_gt0.mp c_45, iI_gt0.mp c_49⟩])⟩ | exact ⟨rfl, congrArg nI (show 1 = sd true P by unfold sd cb; rw [if_pos rfl, if_neg (fun q => by first | exact absurd c_45 (iI_gt0.mpr q.1) | exact absurd c_49 (iI_gt0.mpr q.2)), if_pos (iI_le.mp (Int32.not_lt.mp c_56))])⟩ | exact ⟨rfl, congrArg nI (show 2 = sd true P by unfold sd cb; rw [if_pos rfl, if_neg (fun q => by first | exact absurd c_45 (iI_gt0.mpr q.1) | exact absurd c_49 (iI_gt0.mpr q.2)), if_neg (mt iI_le.mpr (Int32.not_le.mpr c_56))])⟩
          · skip
            refine ab_iconst (v := nI 1) dX6_shade_59 (by decide) ?_
            refine ab_goto 64 dX6_shade_60 (by decide) ?_
            refine ab_reti dX6_shade_64 ?_
            first | exact ⟨rfl, congrArg nI (show 0 = sd true P by unfold sd cb; rw [if_pos rfl, if_pos ⟨iI_gt0.mp c_45, iI_gt0.mp c_49⟩])⟩ | exact ⟨rfl, congrArg nI (show 1 = sd true P by unfold sd cb; rw [if_pos rfl, if_neg (fun q => by first | exact absurd c_45 (iI_gt0.mpr q.1) | exact absurd c_49 (iI_gt0.mpr q.2)), if_pos (iI_le.mp (Int32.not_lt.mp c_56))])⟩ | exact ⟨rfl, congrArg nI (show 2 = sd true P by unfold sd cb; rw [if_pos rfl, if_neg (fun q => by first | exact absurd c_45 (iI_gt0.mpr q.1) | exact absurd c_49 (iI_gt0.mpr q.2)), if_neg (mt iI_le.mpr (Int32.not_le.mpr c_56))])⟩
        · skip
          refine ab_iload_n dX6_shade_48 rfl ?_
          refine ab_if_le 54 dX6_shade_49 (by decide) (fun c_49 => ?_) (fun c_49 => ?_)
          · skip
            refine ab_iload_n dX6_shade_54 rfl ?_
            refine ab_iload_n dX6_shade_55 rfl ?_
            refine ab_icmp_gt 63 dX6_shade_56 (by decide) (fun c_56 => ?_) (fun c_56 => ?_)
            · skip
              refine ab_iconst (v := nI 2) dX6_shade_63 (by decide) ?_
              refine ab_reti dX6_shade_64 ?_
              first | exact ⟨rfl, congrArg nI (show 0 = sd true P by unfold sd cb; rw [if_pos rfl, if_pos ⟨iI_gt0.mp c_45, iI_gt0.mp c_49⟩])⟩ | exact ⟨rfl, congrArg nI (show 1 = sd true P by unfold sd cb; rw [if_pos rfl, if_neg (fun q => by first | exact absurd c_45 (iI_gt0.mpr q.1) | exact absurd c_49 (iI_gt0.mpr q.2)), if_pos (iI_le.mp (Int32.not_lt.mp c_56))])⟩ | exact ⟨rfl, congrArg nI (show 2 = sd true P by unfold sd cb; rw [if_pos rfl, if_neg (fun q => by first | exact absurd c_45 (iI_gt0.mpr q.1) | exact absurd c_49 (iI_gt0.mpr q.2)), if_neg (mt iI_le.mpr (Int32.not_le.mpr c_56))])⟩
            · skip
              refine ab_iconst (v := nI 1) dX6_shade_59 (by decide) ?_
              refine ab_goto 64 dX6_shade_60 (by decide) ?_
              refine ab_reti dX6_shade_64 ?_
              first | exact ⟨rfl, congrArg nI (show 0 = sd true P by unfold sd cb; rw [if_pos rfl, if_pos ⟨iI_gt0.mp c_45, iI_gt0.mp c_49⟩])⟩ | exact ⟨rfl, congrArg nI (show 1 = sd true P by unfold sd cb; rw [if_pos rfl, if_neg (fun q => by first | exact absurd c_45 (iI_gt0.mpr q.1) | exact absurd c_49 (iI_gt0.mpr q.2)), if_pos (iI_le.mp (Int32.not_lt.mp c_56))])⟩ | exact ⟨rfl, congrArg nI (show 2 = sd true P by unfold sd cb; rw [if_pos rfl, if_neg (fun q => by first | exact absurd c_45 (iI_gt0.mpr q.1) | exact absurd c_49 (iI_gt0.mpr q.2)), if_neg (mt iI_le.mpr (Int32.not_le.mpr c_56))])⟩
          · skip
            refine ab_iconst (v := nI 0) dX6_shade_52 (by decide) ?_
            refine ab_reti dX6_shade_53 ?_
            first | exact ⟨rfl, congrArg nI (show 0 = sd true P by unfold sd cb; rw [if_pos rfl, if_pos ⟨iI_gt0.mp c_45, iI_gt0.mp c_49⟩])⟩ | exact ⟨rfl, congrArg nI (show 1 = sd true P by unfold sd cb; rw [if_pos rfl, if_neg (fun q => by first | exact absurd c_45 (iI_gt0.mpr q.1) | exact absurd c_49 (iI_gt0.mpr q.2)), if_pos (iI_le.mp (Int32.not_lt.mp c_56))])⟩ | exact ⟨rfl, congrArg nI (show 2 = sd true P by unfold sd cb; rw [if_pos rfl, if_neg (fun q => by first | exact absurd c_45 (iI_gt0.mpr q.1) | exact absurd c_49 (iI_gt0.mpr q.2)), if_neg (mt iI_le.mpr (Int32.not_le.mpr c_56))])⟩
