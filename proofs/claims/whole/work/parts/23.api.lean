/-! ===== what the calls of the rule answer ===== -/
def sp_rule (ρ : Nat → Nat) (x y z : Int32) : Nat ⊕ Int32 := if ab_inr 0 3 x = true ∧ ab_inr 0 3 y = true ∧ ab_inr 0 3 z = true then .inr (nI (ρ (x.toNatClampNeg * 4 + y.toNatClampNeg))) else .inl 2
def sp_behind (ρ : Nat → Nat) (x n t : Int32) : Nat ⊕ Int64 := if ab_inr 0 3 x = true ∧ ab_inr 0 3 t = true then (if n.toInt < 0 then .inl 4 else if 15 < n.toInt then .inl 6 else .inr (ab_lies ρ x.toNatClampNeg n.toNatClampNeg t.toNatClampNeg)) else .inl 2
def sp_address (ρ : Nat → Nat) (x a n : Int32) : Nat ⊕ Int32 := if ab_inr 0 3 x = true then (if a.toInt < 0 ∨ n.toInt < 0 then .inl 4 else if 15 < n.toInt ∨ 4 ^ n.toNatClampNeg ≤ a.toNatClampNeg then .inl 6 else .inr (nI (ab_way ρ n.toNatClampNeg x.toNatClampNeg a.toNatClampNeg))) else .inl 2
def sp_meet (ρ : Nat → Nat) (x y w : Int32) : Nat ⊕ Int32 := if ab_inr 0 3 x = true ∧ ab_inr 0 3 y = true ∧ ab_inr 0 1 w = true then .inr (ab_meetOut (decide (w = nI 1)) (ab_meetFrom ρ (x.toNatClampNeg * 4 + y.toNatClampNeg) 15 0)) else .inl 2
def sp_steady (ρ : Nat → Nat) (x : Int32) : Nat ⊕ Int32 := if ab_inr 0 3 x = true then .inr (nI (ab_steady ρ x.toNatClampNeg 15)) else .inl 2
def sp_falls (ρ : Nat → Nat) (x : Int32) : Nat ⊕ Int32 := if ab_inr 0 3 x = true then .inr (ab_fallsFrom ρ x.toNatClampNeg 15 1) else .inl 2
def sp_lots (ρ : Nat → Nat) (x n z w : Int32) : Nat ⊕ Int32 := if ab_inr 0 3 x = true ∧ ab_inr 0 1 w = true then (if n.toInt < 1 then .inl 4 else if 50 < n.toInt then .inl 6 else .inr (nI (if w = nI 1 then (ab_lots ab_seed ab_dg ρ x.toNatClampNeg n.toNatClampNeg z).2 else (ab_lots ab_seed ab_dg ρ x.toNatClampNeg n.toNatClampNeg z).1))) else .inl 2
/-! ===== the class: refusals, ranges ===== -/
set_option maxRecDepth 100000 in
set_option maxHeartbeats 4000000 in
theorem c_refuse {k b c : Nat} {h : ab_H} {x : Int32} (hC : at_C (ab_sh h) (ab_r h)) (hx : x = -(nI c)) (h1 : 1 ≤ c) (h6 : c ≤ 6) : ab_M k b mX11_refuse [.ref 5, .int x] h (ab_pi (fun v h' => v = -(nI c) ∧ h' = ab_si h 37 c (ab_i h 37 c + 1))) := by
  subst hx
  refine ab_enter ?_
  refine ab_iload_n dX11_refuse_0 rfl ?_
  refine ab_if_ge 21 dX11_refuse_1 (by decide) (fun c_1 => ?_) (fun c_1 => ?_)
  · skip
    exact absurd c_1 (ab_ref_a c h1 h6).1
  · skip
    refine ab_iload_n dX11_refuse_4 rfl ?_
    refine ab_bipush (v := -6) dX11_refuse_5 (by decide) ?_
    refine ab_icmp_lt 21 dX11_refuse_7 (by decide) (fun c_7 => ?_) (fun c_7 => ?_)
    · skip
      exact absurd c_7 (ab_ref_a c h1 h6).2
    · skip
      refine ab_aload_n dX11_refuse_10 rfl ?_
      refine ab_getR dX11_refuse_11 fl_X11_56 hC.hs hC.p5_7 ?_
      refine ab_iload_n dX11_refuse_14 rfl ?_
      refine ab_ineg dX11_refuse_15 ?_
      refine ab_topI Int32.neg_neg ?_
      refine ab_dup2 dX11_refuse_16 rfl rfl ?_
      refine ab_iald dX11_refuse_17 hC.s37 rfl (by omega) rfl ?_
      refine ab_iconst (v := nI 1) dX11_refuse_18 (by decide) ?_
      refine ab_iadd dX11_refuse_19 ?_
      refine ab_iast dX11_refuse_20 hC.s37 rfl (by omega) ?_
      refine ab_iload_n dX11_refuse_21 rfl ?_
      refine ab_reti dX11_refuse_22 ?_
      exact ⟨rfl, rfl⟩
set_option maxRecDepth 100000 in
set_option maxHeartbeats 4000000 in
theorem c_refuseFar {k b c : Nat} {h : ab_H} {x : Int32} (hk : 1 ≤ k) (hC : at_C (ab_sh h) (ab_r h)) (hx : x = -(nI c)) (h1 : 1 ≤ c) (h6 : c ≤ 6) : ab_M k b mX11_refuseFar [.ref 5, .int x] h (ab_pl (fun v h' => v = ab_far c ∧ h' = ab_si h 37 c (ab_i h 37 c + 1))) := by
  refine ab_enter ?_
  refine ab_ldc2 dX11_refuseFar_0 kc_X11_357 ?_
  refine ab_aload_n dX11_refuseFar_3 rfl ?_
  refine ab_iload_n dX11_refuseFar_4 rfl ?_
  refine ab_callVi [_] dX11_refuseFar_5 ml_X11_66 mk_X11_refuse hC.hs (c_refuse (k := 0) (b := 0) hC hx h1 h6) (fun x h1 hq => ?_)
  obtain ⟨rfl, rfl⟩ := hq
  refine ab_i2l dX11_refuseFar_8 ?_
  refine ab_lsub dX11_refuseFar_9 ?_
  refine ab_retl dX11_refuseFar_10 ?_
  exact ⟨rfl, rfl⟩
set_option maxRecDepth 100000 in
set_option maxHeartbeats 4000000 in
theorem c_isWay {k b : Nat} {h : ab_H} {x : Int32} : ab_M k b mX11_isWay [.int x] h (ab_pb (fun t h' => h' = h ∧ t = ab_inr 0 3 x)) := by
  refine ab_enter ?_
  refine ab_iload_n dX11_isWay_0 rfl ?_
  refine ab_if_lt 13 dX11_isWay_1 (by decide) (fun c_1 => ?_) (fun c_1 => ?_)
  · skip
    refine ab_iconst (v := nI 0) dX11_isWay_13 (by decide) ?_
    refine ab_retb (x := false) dX11_isWay_14 ?_
    exact ⟨rfl, (ab_inr_no (Or.inl (ab_lt0.mp c_1))).symm⟩
  · skip
    refine ab_iload_n dX11_isWay_4 rfl ?_
    refine ab_iconst (v := nI 4) dX11_isWay_5 (by decide) ?_
    refine ab_icmp_ge 13 dX11_isWay_6 (by decide) (fun c_6 => ?_) (fun c_6 => ?_)
    · skip
      refine ab_iconst (v := nI 0) dX11_isWay_13 (by decide) ?_
      refine ab_retb (x := false) dX11_isWay_14 ?_
      exact ⟨rfl, (ab_inr_no (Or.inr (by have := (ab_leN (n := 4) (by omega)).mp c_6; omega))).symm⟩
    · skip
      refine ab_iconst (v := nI 1) dX11_isWay_9 (by decide) ?_
      refine ab_goto 14 dX11_isWay_10 (by decide) ?_
      refine ab_retb (x := true) dX11_isWay_14 ?_
      exact ⟨rfl, (ab_inr_ok (by have := mt ab_lt0.mpr c_1; omega) (by have := mt (ab_leN (n := 4) (by omega)).mpr c_6; omega)).symm⟩
set_option maxRecDepth 100000 in
set_option maxHeartbeats 4000000 in
theorem c_isRow {k b : Nat} {h : ab_H} {x : Int32} : ab_M k b mX11_isRow [.int x] h (ab_pb (fun t h' => h' = h ∧ t = ab_inr 0 2 x)) := by
  refine ab_enter ?_
  refine ab_iload_n dX11_isRow_0 rfl ?_
  refine ab_if_lt 13 dX11_isRow_1 (by decide) (fun c_1 => ?_) (fun c_1 => ?_)
  · skip
    refine ab_iconst (v := nI 0) dX11_isRow_13 (by decide) ?_
    refine ab_retb (x := false) dX11_isRow_14 ?_
    exact ⟨rfl, (ab_inr_no (Or.inl (ab_lt0.mp c_1))).symm⟩
  · skip
    refine ab_iload_n dX11_isRow_4 rfl ?_
    refine ab_iconst (v := nI 3) dX11_isRow_5 (by decide) ?_
    refine ab_icmp_ge 13 dX11_isRow_6 (by decide) (fun c_6 => ?_) (fun c_6 => ?_)
    · skip
      refine ab_iconst (v := nI 0) dX11_isRow_13 (by decide) ?_
      refine ab_retb (x := false) dX11_isRow_14 ?_
      exact ⟨rfl, (ab_inr_no (Or.inr (by have := (ab_leN (n := 3) (by omega)).mp c_6; omega))).symm⟩
    · skip
      refine ab_iconst (v := nI 1) dX11_isRow_9 (by decide) ?_
      refine ab_goto 14 dX11_isRow_10 (by decide) ?_
      refine ab_retb (x := true) dX11_isRow_14 ?_
      exact ⟨rfl, (ab_inr_ok (by have := mt ab_lt0.mpr c_1; omega) (by have := mt (ab_leN (n := 3) (by omega)).mpr c_6; omega)).symm⟩
set_option maxRecDepth 100000 in
set_option maxHeartbeats 4000000 in
theorem c_isPartOfFraction {k b : Nat} {h : ab_H} {x : Int32} : ab_M k b mX11_isPartOfFraction [.int x] h (ab_pb (fun t h' => h' = h ∧ t = ab_inr 0 1 x)) := by
  refine ab_enter ?_
  refine ab_iload_n dX11_isPartOfFraction_0 rfl ?_
  refine ab_if_eq 9 dX11_isPartOfFraction_1 (by decide) (fun c_1 => ?_) (fun c_1 => ?_)
  · skip
    refine ab_iconst (v := nI 1) dX11_isPartOfFraction_9 (by decide) ?_
    refine ab_goto 14 dX11_isPartOfFraction_10 (by decide) ?_
    refine ab_retb (x := true) dX11_isPartOfFraction_14 ?_
    exact ⟨rfl, (ab_inr_ok (by rw [ab_0eq.mp c_1]; omega) (by rw [ab_0eq.mp c_1]; omega)).symm⟩
  · skip
    refine ab_iload_n dX11_isPartOfFraction_4 rfl ?_
    refine ab_iconst (v := nI 1) dX11_isPartOfFraction_5 (by decide) ?_
    refine ab_icmp_ne 13 dX11_isPartOfFraction_6 (by decide) (fun c_6 => ?_) (fun c_6 => ?_)
    · skip
      refine ab_iconst (v := nI 0) dX11_isPartOfFraction_13 (by decide) ?_
      refine ab_retb (x := false) dX11_isPartOfFraction_14 ?_
      exact ⟨rfl, (ab_inr_no (by have h1 := mt ab_0eq.mpr c_1; have h2 := mt (ab_Neq (n := 1) (by omega)).mpr c_6; omega)).symm⟩
    · skip
      refine ab_iconst (v := nI 1) dX11_isPartOfFraction_9 (by decide) ?_
      refine ab_goto 14 dX11_isPartOfFraction_10 (by decide) ?_
      refine ab_retb (x := true) dX11_isPartOfFraction_14 ?_
      exact ⟨rfl, (ab_inr_ok (by have := (ab_Neq (n := 1) (by omega)).mp c_6; omega) (by have := (ab_Neq (n := 1) (by omega)).mp c_6; omega)).symm⟩
