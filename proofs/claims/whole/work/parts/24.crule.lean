/-! ===== the class: the rule ===== -/
theorem ab_tf {t : Bool} (h1 : t = true) (h2 : t = false) : False := by rw [h1] at h2; cases h2
/-- as ab_oI, what an answered call does being K -/
def ab_oK (F : Nat) (K : ab_H → Prop) (h : ab_H) (o : Nat ⊕ Int32) (v : Int32) (h' : ab_H) : Prop := match o with
  | .inl c => v = -(nI c) ∧ h' = ab_si h F c (ab_i h F c + 1)
  | .inr x => v = x ∧ K h'
theorem ab_oK_no {F : Nat} {K : ab_H → Prop} {h : ab_H} {o : Nat ⊕ Int32} {c : Nat} {v : Int32} {h' : ab_H} (e : o = .inl c) (hv : v = -(nI c)) (hh : h' = ab_si h F c (ab_i h F c + 1)) : ab_oK F K h o v h' := by rw [e]; exact ⟨hv, hh⟩
theorem ab_oK_ok {F : Nat} {K : ab_H → Prop} {h : ab_H} {o : Nat ⊕ Int32} {v : Int32} {h' : ab_H} (e : o = .inr v) (f : K h') : ab_oK F K h o v h' := by rw [e]; exact ⟨rfl, f⟩
theorem ab_inr_true {n : Nat} {w : Nat} (h : w ≤ n) (hn : n < 2147483648) : ab_inr 0 n (nI w) = true := ab_inr_ok (by rw [nI_toInt (by omega)]; omega) (by rw [nI_toInt (by omega)]; omega)
theorem ab_i3 {w : Nat} (h : w < 4) : ab_inr 0 3 (nI w) = true := ab_inr_true (n := 3) (by omega) (by omega)
theorem ab_shr_ne0 {a n : Nat} : a >>> (2 * n) = 0 ↔ a < 4 ^ n := by
  rw [Nat.shiftRight_eq_div_pow, show 2 ^ (2 * n) = 4 ^ n by rw [Nat.pow_mul]]
  have : 0 < 4 ^ n := Nat.pow_pos (by omega)
  rw [Nat.div_eq_zero_iff]
  omega
set_option maxRecDepth 100000 in
set_option maxHeartbeats 4000000 in
theorem c_rule {k b : Nat} {h : ab_H} {ρ : Nat → Nat} {x y z : Int32} (hk : 1 ≤ k) (hC : at_C (ab_sh h) (ab_r h)) (hU : ab_rho h 14 ρ) : ab_M k b mX11_rule [.ref 5, .int x, .int y, .int z] h (ab_pi (ab_oK 37 (fun h' => h' = ab_si h 14 (x.toNatClampNeg * 4 + y.toNatClampNeg) z) h (sp_rule ρ x y z))) := by
  refine ab_enter ?_
  refine ab_iload_n dX11_rule_0 rfl ?_
  refine ab_callSb [_] dX11_rule_1 ml_X11_139 mk_X11_isWay (c_isWay (k := 0) (b := 0)) (fun t1 hh0 hq => ?_)
  obtain ⟨hhe, rfl⟩ := hq
  rw [hhe]
  refine ab_bif_eq 21 dX11_rule_4 (by decide) (fun c_4 => ?_) (fun c_4 => ?_)
  · skip
    refine ab_aload_n dX11_rule_21 rfl ?_
    refine ab_bipush (v := -2) dX11_rule_22 (by decide) ?_
    refine ab_callVi [_] dX11_rule_24 ml_X11_66 mk_X11_refuse hC.hs (c_refuse (k := 0) (b := 0) (c := 2) hC (by decide) (by omega) (by omega)) (fun v1 hh1 hq => ?_)
    obtain ⟨hv, hh⟩ := hq
    refine ab_reti dX11_rule_27 ?_
    exact ab_oK_no (by unfold sp_rule; rw [if_neg (fun q => by first | exact ab_tf q.1 c_4 | exact ab_tf q.2.1 c_11 | exact ab_tf q.2.2 c_18)]) hv hh
  · skip
    refine ab_iload_n dX11_rule_7 rfl ?_
    refine ab_callSb [_] dX11_rule_8 ml_X11_139 mk_X11_isWay (c_isWay (k := 0) (b := 0)) (fun t1 hh0 hq => ?_)
    obtain ⟨hhe, rfl⟩ := hq
    rw [hhe]
    refine ab_bif_eq 21 dX11_rule_11 (by decide) (fun c_11 => ?_) (fun c_11 => ?_)
    · skip
      refine ab_aload_n dX11_rule_21 rfl ?_
      refine ab_bipush (v := -2) dX11_rule_22 (by decide) ?_
      refine ab_callVi [_] dX11_rule_24 ml_X11_66 mk_X11_refuse hC.hs (c_refuse (k := 0) (b := 0) (c := 2) hC (by decide) (by omega) (by omega)) (fun v1 hh1 hq => ?_)
      obtain ⟨hv, hh⟩ := hq
      refine ab_reti dX11_rule_27 ?_
      exact ab_oK_no (by unfold sp_rule; rw [if_neg (fun q => by first | exact ab_tf q.1 c_4 | exact ab_tf q.2.1 c_11 | exact ab_tf q.2.2 c_18)]) hv hh
    · skip
      refine ab_iload_n dX11_rule_14 rfl ?_
      refine ab_callSb [_] dX11_rule_15 ml_X11_139 mk_X11_isWay (c_isWay (k := 0) (b := 0)) (fun t1 hh0 hq => ?_)
      obtain ⟨hhe, rfl⟩ := hq
      rw [hhe]
      refine ab_bif_ne 28 dX11_rule_18 (by decide) (fun c_18 => ?_) (fun c_18 => ?_)
      · skip
        obtain ⟨w, rfl, hw, -⟩ := ab_inr_nat (n := 3) c_4
        obtain ⟨p, rfl, hp, -⟩ := ab_inr_nat (n := 3) c_11
        obtain ⟨t, rfl, ht, -⟩ := ab_inr_nat (n := 3) c_18
        refine ab_aload_n dX11_rule_28 rfl ?_
        refine ab_getR dX11_rule_29 fl_X11_19 hC.hs hC.p5_1 ?_
        refine ab_iload_n dX11_rule_32 rfl ?_
        refine ab_iload_n dX11_rule_33 rfl ?_
        refine ab_callVn [_, _] dX11_rule_34 ml_X11_161 mk_X8_wayOfPart hC.rule.1 (c_wayOfPart (k := 0) (b := 0) hC.rule hU (by omega) (by omega)) (fun x h1 hq => ?_)
        obtain ⟨hhe, rfl⟩ := hq
        rw [hhe]
        refine ab_sti (ls' := [_, _, _, _, _]) dX11_rule_37 (by decide) rfl ?_
        refine ab_aload_n dX11_rule_39 rfl ?_
        refine ab_getR dX11_rule_40 fl_X11_19 hC.hs hC.p5_1 ?_
        refine ab_iload_n dX11_rule_43 rfl ?_
        refine ab_iload_n dX11_rule_44 rfl ?_
        refine ab_iload_n dX11_rule_45 rfl ?_
        refine ab_callVv [_, _, _] dX11_rule_46 ml_X11_164 mk_X8_become hC.rule.1 (c_become (k := 0) (b := 0) hC.rule (by omega) (by omega)) (fun h1 hq => ?_)
        obtain rfl := hq
        refine ab_iload dX11_rule_49 rfl ?_
        refine ab_reti dX11_rule_51 ?_
        refine ab_oK_ok (by unfold sp_rule; rw [if_pos ⟨c_4, c_11, c_18⟩, nI_clamp (by omega), nI_clamp (by omega)]) ?_
        rw [nI_clamp (by omega), nI_clamp (by omega)]
      · skip
        refine ab_aload_n dX11_rule_21 rfl ?_
        refine ab_bipush (v := -2) dX11_rule_22 (by decide) ?_
        refine ab_callVi [_] dX11_rule_24 ml_X11_66 mk_X11_refuse hC.hs (c_refuse (k := 0) (b := 0) (c := 2) hC (by decide) (by omega) (by omega)) (fun v1 hh1 hq => ?_)
        obtain ⟨hv, hh⟩ := hq
        refine ab_reti dX11_rule_27 ?_
        exact ab_oK_no (by unfold sp_rule; rw [if_neg (fun q => by first | exact ab_tf q.1 c_4 | exact ab_tf q.2.1 c_11 | exact ab_tf q.2.2 c_18)]) hv hh
set_option maxRecDepth 100000 in
set_option maxHeartbeats 4000000 in
theorem c_behind {k b : Nat} {h : ab_H} {ρ : Nat → Nat} {x n0 t0 : Int32} (hk : 3 ≤ k) (hC : at_C (ab_sh h) (ab_r h)) (hU : ab_rho h 14 ρ) : ab_M k b mX11_behind [.ref 5, .int x, .int n0, .int t0] h (ab_pl (ab_oL 37 [15, 16] h (sp_behind ρ x n0 t0))) := by
  refine ab_enter ?_
  refine ab_iload_n dX11_behind_0 rfl ?_
  refine ab_callSb [_] dX11_behind_1 ml_X11_139 mk_X11_isWay (c_isWay (k := 0) (b := 0)) (fun t1 hh0 hq => ?_)
  obtain ⟨hhe, rfl⟩ := hq
  rw [hhe]
  refine ab_bif_eq 14 dX11_behind_4 (by decide) (fun c_4 => ?_) (fun c_4 => ?_)
  · skip
    refine ab_aload_n dX11_behind_14 rfl ?_
    refine ab_bipush (v := -2) dX11_behind_15 (by decide) ?_
    refine ab_callVl [_] dX11_behind_17 ml_X11_148 mk_X11_refuseFar hC.hs (c_refuseFar (k := 1) (b := 0) (c := 2) (by omega) hC (by decide) (by omega) (by omega)) (fun v1 hh1 hq => ?_)
    obtain ⟨hv, hh⟩ := hq
    refine ab_retl dX11_behind_20 ?_
    exact ab_oL_no (by unfold sp_behind; rw [if_neg (fun q => by first | exact ab_tf q.1 c_4 | exact ab_tf q.2 c_11)]) hv hh
  · skip
    refine ab_iload_n dX11_behind_7 rfl ?_
    refine ab_callSb [_] dX11_behind_8 ml_X11_139 mk_X11_isWay (c_isWay (k := 0) (b := 0)) (fun t1 hh0 hq => ?_)
    obtain ⟨hhe, rfl⟩ := hq
    rw [hhe]
    refine ab_bif_ne 21 dX11_behind_11 (by decide) (fun c_11 => ?_) (fun c_11 => ?_)
    · skip
      refine ab_iload_n dX11_behind_21 rfl ?_
      refine ab_if_ge 32 dX11_behind_22 (by decide) (fun c_22 => ?_) (fun c_22 => ?_)
      · skip
        refine ab_iload_n dX11_behind_32 rfl ?_
        refine ab_bipush (v := nI 15) dX11_behind_33 (by decide) ?_
        refine ab_icmp_le 45 dX11_behind_35 (by decide) (fun c_35 => ?_) (fun c_35 => ?_)
        · skip
          obtain ⟨w, rfl, hw, -⟩ := ab_inr_nat (n := 3) c_4
          obtain ⟨t, rfl, ht, -⟩ := ab_inr_nat (n := 3) c_11
          obtain ⟨n, rfl, hn⟩ := ab_of0 c_22
          have hn15 : n ≤ 15 := by have := (ab_Nle (n := 15) (by omega)).mp c_35; rw [nI_toInt hn] at this; omega
          refine ab_aload_n dX11_behind_45 rfl ?_
          refine ab_getR dX11_behind_46 fl_X11_19 hC.hs hC.p5_1 ?_
          refine ab_iload_n dX11_behind_49 rfl ?_
          refine ab_iload_n dX11_behind_50 rfl ?_
          refine ab_iload_n dX11_behind_51 rfl ?_
          refine ab_callVl [_, _, _] dX11_behind_52 ml_X11_167 mk_X8_lyingBehind hC.rule.1 (c_lyingBehind (k := 2) (b := 0) (by omega) hC.rule hU (by omega) hn15 (by omega)) (fun v1 hh1 hq => ?_)
          obtain ⟨f, rfl⟩ := hq
          refine ab_retl dX11_behind_55 ?_
          exact ab_oL_ok (by unfold sp_behind; rw [if_pos ⟨c_4, c_11⟩, if_neg (by rw [nI_toInt hn]; omega), if_neg (by rw [nI_toInt hn]; omega), nI_clamp (by omega), nI_clamp (by omega), nI_clamp (by omega)]) f
        · skip
          refine ab_aload_n dX11_behind_38 rfl ?_
          refine ab_bipush (v := -6) dX11_behind_39 (by decide) ?_
          refine ab_callVl [_] dX11_behind_41 ml_X11_148 mk_X11_refuseFar hC.hs (c_refuseFar (k := 1) (b := 0) (c := 6) (by omega) hC (by decide) (by omega) (by omega)) (fun v1 hh1 hq => ?_)
          obtain ⟨hv, hh⟩ := hq
          refine ab_retl dX11_behind_44 ?_
          exact ab_oL_no (by unfold sp_behind; rw [if_pos ⟨c_4, c_11⟩, if_neg (by have := ab_ge0.mp c_22; omega), if_pos (by have := mt (ab_Nle (n := 15) (by omega)).mpr c_35; omega)]) hv hh
      · skip
        refine ab_aload_n dX11_behind_25 rfl ?_
        refine ab_bipush (v := -4) dX11_behind_26 (by decide) ?_
        refine ab_callVl [_] dX11_behind_28 ml_X11_148 mk_X11_refuseFar hC.hs (c_refuseFar (k := 1) (b := 0) (c := 4) (by omega) hC (by decide) (by omega) (by omega)) (fun v1 hh1 hq => ?_)
        obtain ⟨hv, hh⟩ := hq
        refine ab_retl dX11_behind_31 ?_
        exact ab_oL_no (by unfold sp_behind; rw [if_pos ⟨c_4, c_11⟩, if_pos (by have := mt ab_ge0.mpr c_22; omega)]) hv hh
    · skip
      refine ab_aload_n dX11_behind_14 rfl ?_
      refine ab_bipush (v := -2) dX11_behind_15 (by decide) ?_
      refine ab_callVl [_] dX11_behind_17 ml_X11_148 mk_X11_refuseFar hC.hs (c_refuseFar (k := 1) (b := 0) (c := 2) (by omega) hC (by decide) (by omega) (by omega)) (fun v1 hh1 hq => ?_)
      obtain ⟨hv, hh⟩ := hq
      refine ab_retl dX11_behind_20 ?_
      exact ab_oL_no (by unfold sp_behind; rw [if_neg (fun q => by first | exact ab_tf q.1 c_4 | exact ab_tf q.2 c_11)]) hv hh
set_option maxRecDepth 100000 in
set_option maxHeartbeats 4000000 in
theorem c_address {k b : Nat} {h : ab_H} {ρ : Nat → Nat} {x a0 n0 : Int32} (hk : 2 ≤ k) (hC : at_C (ab_sh h) (ab_r h)) (hU : ab_rho h 14 ρ) : ab_M k b mX11_address [.ref 5, .int x, .int a0, .int n0] h (ab_pi (ab_oI 37 [] h (sp_address ρ x a0 n0))) := by
  refine ab_enter ?_
  refine ab_iload_n dX11_address_0 rfl ?_
  refine ab_callSb [_] dX11_address_1 ml_X11_139 mk_X11_isWay (c_isWay (k := 0) (b := 0)) (fun t1 hh0 hq => ?_)
  obtain ⟨hhe, rfl⟩ := hq
  rw [hhe]
  refine ab_bif_ne 14 dX11_address_4 (by decide) (fun c_4 => ?_) (fun c_4 => ?_)
  · skip
    refine ab_iload_n dX11_address_14 rfl ?_
    refine ab_if_lt 22 dX11_address_15 (by decide) (fun c_15 => ?_) (fun c_15 => ?_)
    · skip
      refine ab_aload_n dX11_address_22 rfl ?_
      refine ab_bipush (v := -4) dX11_address_23 (by decide) ?_
      refine ab_callVi [_] dX11_address_25 ml_X11_66 mk_X11_refuse hC.hs (c_refuse (k := 0) (b := 0) (c := 4) hC (by decide) (by omega) (by omega)) (fun v1 hh1 hq => ?_)
      obtain ⟨hv, hh⟩ := hq
      refine ab_reti dX11_address_28 ?_
      exact ab_oI_no (by unfold sp_address; rw [if_pos c_4, if_pos (by first | exact Or.inl (ab_lt0.mp c_15) | exact Or.inr (by have := mt ab_ge0.mpr c_19; omega))]) hv hh
    · skip
      refine ab_iload_n dX11_address_18 rfl ?_
      refine ab_if_ge 29 dX11_address_19 (by decide) (fun c_19 => ?_) (fun c_19 => ?_)
      · skip
        obtain ⟨a, rfl, ha⟩ := ab_of0 (Int32.not_lt.mp c_15)
        obtain ⟨n, rfl, hn⟩ := ab_of0 c_19
        obtain ⟨w, rfl, hw, -⟩ := ab_inr_nat (n := 3) c_4
        refine ab_iload_n dX11_address_29 rfl ?_
        refine ab_bipush (v := nI 15) dX11_address_30 (by decide) ?_
        refine ab_nicmp_gt 43 dX11_address_32 (by decide) (by omega) (by omega) (fun c_32 => ?_) (fun c_32 => ?_)
        · skip
          refine ab_aload_n dX11_address_43 rfl ?_
          refine ab_bipush (v := -6) dX11_address_44 (by decide) ?_
          refine ab_callVi [_] dX11_address_46 ml_X11_66 mk_X11_refuse hC.hs (c_refuse (k := 0) (b := 0) (c := 6) hC (by decide) (by omega) (by omega)) (fun v1 hh1 hq => ?_)
          obtain ⟨hv, hh⟩ := hq
          refine ab_reti dX11_address_49 ?_
          exact ab_oI_no (by unfold sp_address; rw [if_pos c_4, if_neg (by rw [nI_toInt ha, nI_toInt hn]; omega), if_pos (by rw [nI_toInt hn, nI_clamp ha, nI_clamp hn]; first | exact Or.inl (by omega) | exact Or.inr (Nat.not_lt.mp (mt ab_shr_ne0.mpr c_40)))]) hv hh
        · skip
          refine ab_iload_n dX11_address_35 rfl ?_
          refine ab_iconst (v := nI 2) dX11_address_36 (by decide) ?_
          refine ab_iload_n dX11_address_37 rfl ?_
          refine ab_nmulR dX11_address_38 ?_
          refine ab_nshrR dX11_address_39 ha (by omega) ?_
          refine ab_nif_eq 50 dX11_address_40 (by decide) (ab_shr_lt _ ha) (fun c_40 => ?_) (fun c_40 => ?_)
          · skip
            refine ab_aload_n dX11_address_50 rfl ?_
            refine ab_getR dX11_address_51 fl_X11_19 hC.hs hC.p5_1 ?_
            refine ab_iload_n dX11_address_54 rfl ?_
            refine ab_iload_n dX11_address_55 rfl ?_
            refine ab_iload_n dX11_address_56 rfl ?_
            refine ab_callVn [_, _, _] dX11_address_57 ml_X11_171 mk_X8_wayAt hC.rule.1 (c_wayAt (k := 1) (b := 0) (by omega) hC.rule hU (by omega) ha (by omega)) (fun v1 hh1 hq => ?_)
            obtain ⟨hhe, rfl⟩ := hq
            rw [hhe]
            refine ab_reti dX11_address_60 ?_
            exact ab_oI_ok (by unfold sp_address; rw [if_pos c_4, if_neg (by rw [nI_toInt ha, nI_toInt hn]; omega), if_neg (by rw [nI_toInt hn, nI_clamp ha, nI_clamp hn]; have := ab_shr_ne0.mp c_40; omega), nI_clamp ha, nI_clamp hn, nI_clamp (by omega)]) (ab_fr.rf h)
          · skip
            refine ab_aload_n dX11_address_43 rfl ?_
            refine ab_bipush (v := -6) dX11_address_44 (by decide) ?_
            refine ab_callVi [_] dX11_address_46 ml_X11_66 mk_X11_refuse hC.hs (c_refuse (k := 0) (b := 0) (c := 6) hC (by decide) (by omega) (by omega)) (fun v1 hh1 hq => ?_)
            obtain ⟨hv, hh⟩ := hq
            refine ab_reti dX11_address_49 ?_
            exact ab_oI_no (by unfold sp_address; rw [if_pos c_4, if_neg (by rw [nI_toInt ha, nI_toInt hn]; omega), if_pos (by rw [nI_toInt hn, nI_clamp ha, nI_clamp hn]; first | exact Or.inl (by omega) | exact Or.inr (Nat.not_lt.mp (mt ab_shr_ne0.mpr c_40)))]) hv hh
      · skip
        refine ab_aload_n dX11_address_22 rfl ?_
        refine ab_bipush (v := -4) dX11_address_23 (by decide) ?_
        refine ab_callVi [_] dX11_address_25 ml_X11_66 mk_X11_refuse hC.hs (c_refuse (k := 0) (b := 0) (c := 4) hC (by decide) (by omega) (by omega)) (fun v1 hh1 hq => ?_)
        obtain ⟨hv, hh⟩ := hq
        refine ab_reti dX11_address_28 ?_
        exact ab_oI_no (by unfold sp_address; rw [if_pos c_4, if_pos (by first | exact Or.inl (ab_lt0.mp c_15) | exact Or.inr (by have := mt ab_ge0.mpr c_19; omega))]) hv hh
  · skip
    refine ab_aload_n dX11_address_7 rfl ?_
    refine ab_bipush (v := -2) dX11_address_8 (by decide) ?_
    refine ab_callVi [_] dX11_address_10 ml_X11_66 mk_X11_refuse hC.hs (c_refuse (k := 0) (b := 0) (c := 2) hC (by decide) (by omega) (by omega)) (fun v1 hh1 hq => ?_)
    obtain ⟨hv, hh⟩ := hq
    refine ab_reti dX11_address_13 ?_
    exact ab_oI_no (by unfold sp_address; rw [if_neg (fun q => ab_tf q c_4)]) hv hh
set_option maxRecDepth 100000 in
set_option maxHeartbeats 4000000 in
theorem c_steady {k b : Nat} {h : ab_H} {ρ : Nat → Nat} {x : Int32} (hk : 2 ≤ k) (hC : at_C (ab_sh h) (ab_r h)) (hU : ab_rho h 14 ρ) : ab_M k b mX11_steady [.ref 5, .int x] h (ab_pi (ab_oI 37 [] h (sp_steady ρ x))) := by
  refine ab_enter ?_
  refine ab_iload_n dX11_steady_0 rfl ?_
  refine ab_callSb [_] dX11_steady_1 ml_X11_139 mk_X11_isWay (c_isWay (k := 0) (b := 0)) (fun t1 hh0 hq => ?_)
  obtain ⟨hhe, rfl⟩ := hq
  rw [hhe]
  refine ab_bif_ne 14 dX11_steady_4 (by decide) (fun c_4 => ?_) (fun c_4 => ?_)
  · skip
    obtain ⟨w, rfl, hw, -⟩ := ab_inr_nat (n := 3) c_4
    refine ab_aload_n dX11_steady_14 rfl ?_
    refine ab_getR dX11_steady_15 fl_X11_19 hC.hs hC.p5_1 ?_
    refine ab_iload_n dX11_steady_18 rfl ?_
    refine ab_callVn [_] dX11_steady_19 ml_X11_179 mk_X8_steadyWays hC.rule.1 (c_steadyWays (k := 1) (b := 0) (by omega) hC.rule hU (by omega)) (fun v1 hh1 hq => ?_)
    obtain ⟨hhe, rfl⟩ := hq
    rw [hhe]
    refine ab_reti dX11_steady_22 ?_
    exact ab_oI_ok (by unfold sp_steady; rw [if_pos c_4, nI_clamp (by omega)]) (ab_fr.rf h)
  · skip
    refine ab_aload_n dX11_steady_7 rfl ?_
    refine ab_bipush (v := -2) dX11_steady_8 (by decide) ?_
    refine ab_callVi [_] dX11_steady_10 ml_X11_66 mk_X11_refuse hC.hs (c_refuse (k := 0) (b := 0) (c := 2) hC (by decide) (by omega) (by omega)) (fun v1 hh1 hq => ?_)
    obtain ⟨hv, hh⟩ := hq
    refine ab_reti dX11_steady_13 ?_
    exact ab_oI_no (by unfold sp_steady; rw [if_neg (fun q => ab_tf q c_4)]) hv hh
set_option maxRecDepth 100000 in
set_option maxHeartbeats 4000000 in
theorem c_falls {k b : Nat} {h : ab_H} {ρ : Nat → Nat} {x : Int32} (hk : 3 ≤ k) (hC : at_C (ab_sh h) (ab_r h)) (hU : ab_rho h 14 ρ) : ab_M k b mX11_falls [.ref 5, .int x] h (ab_pi (ab_oI 37 [15, 16] h (sp_falls ρ x))) := by
  refine ab_enter ?_
  refine ab_iload_n dX11_falls_0 rfl ?_
  refine ab_callSb [_] dX11_falls_1 ml_X11_139 mk_X11_isWay (c_isWay (k := 0) (b := 0)) (fun t1 hh0 hq => ?_)
  obtain ⟨hhe, rfl⟩ := hq
  rw [hhe]
  refine ab_bif_ne 14 dX11_falls_4 (by decide) (fun c_4 => ?_) (fun c_4 => ?_)
  · skip
    obtain ⟨w, rfl, hw, -⟩ := ab_inr_nat (n := 3) c_4
    refine ab_aload_n dX11_falls_14 rfl ?_
    refine ab_getR dX11_falls_15 fl_X11_19 hC.hs hC.p5_1 ?_
    refine ab_iload_n dX11_falls_18 rfl ?_
    refine ab_callVi [_] dX11_falls_19 ml_X11_182 mk_X8_cutsToAlike hC.rule.1 (c_cutsToAlike (k := 2) (b := 0) (by omega) hC.rule hU (by omega)) (fun v1 hh1 hq => ?_)
    obtain ⟨f, rfl⟩ := hq
    refine ab_reti dX11_falls_22 ?_
    exact ab_oI_ok (by unfold sp_falls; rw [if_pos c_4, nI_clamp (by omega)]) f
  · skip
    refine ab_aload_n dX11_falls_7 rfl ?_
    refine ab_bipush (v := -2) dX11_falls_8 (by decide) ?_
    refine ab_callVi [_] dX11_falls_10 ml_X11_66 mk_X11_refuse hC.hs (c_refuse (k := 0) (b := 0) (c := 2) hC (by decide) (by omega) (by omega)) (fun v1 hh1 hq => ?_)
    obtain ⟨hv, hh⟩ := hq
    refine ab_reti dX11_falls_13 ?_
    exact ab_oI_no (by unfold sp_falls; rw [if_neg (fun q => ab_tf q c_4)]) hv hh
set_option maxRecDepth 100000 in
set_option maxHeartbeats 4000000 in
theorem c_meet {k b : Nat} {h : ab_H} {ρ : Nat → Nat} {x y z : Int32} (hk : 3 ≤ k) (hC : at_C (ab_sh h) (ab_r h)) (hU : ab_rho h 14 ρ) : ab_M k b mX11_meet [.ref 5, .int x, .int y, .int z] h (ab_pi (ab_oI 37 [17, 18] h (sp_meet ρ x y z))) := by
  refine ab_enter ?_
  refine ab_iload_n dX11_meet_0 rfl ?_
  refine ab_callSb [_] dX11_meet_1 ml_X11_139 mk_X11_isWay (c_isWay (k := 0) (b := 0)) (fun t1 hh0 hq => ?_)
  obtain ⟨hhe, rfl⟩ := hq
  rw [hhe]
  refine ab_bif_eq 23 dX11_meet_4 (by decide) (fun c_4 => ?_) (fun c_4 => ?_)
  · skip
    refine ab_aload_n dX11_meet_23 rfl ?_
    refine ab_bipush (v := -2) dX11_meet_24 (by decide) ?_
    refine ab_callVi [_] dX11_meet_26 ml_X11_66 mk_X11_refuse hC.hs (c_refuse (k := 0) (b := 0) (c := 2) hC (by decide) (by omega) (by omega)) (fun v1 hh1 hq => ?_)
    obtain ⟨hv, hh⟩ := hq
    refine ab_reti dX11_meet_29 ?_
    exact ab_oI_no (by unfold sp_meet; rw [if_neg (fun q => by first | exact ab_tf q.1 c_4 | exact ab_tf q.2.1 c_11 | exact ab_tf q.2.2 (ab_inr_no (by first | exact Or.inl (ab_lt0.mp c_15) | exact Or.inr (by have := mt (ab_Nle (n := 1) (by omega)).mpr c_20; omega))))]) hv hh
  · skip
    refine ab_iload_n dX11_meet_7 rfl ?_
    refine ab_callSb [_] dX11_meet_8 ml_X11_139 mk_X11_isWay (c_isWay (k := 0) (b := 0)) (fun t1 hh0 hq => ?_)
    obtain ⟨hhe, rfl⟩ := hq
    rw [hhe]
    refine ab_bif_eq 23 dX11_meet_11 (by decide) (fun c_11 => ?_) (fun c_11 => ?_)
    · skip
      refine ab_aload_n dX11_meet_23 rfl ?_
      refine ab_bipush (v := -2) dX11_meet_24 (by decide) ?_
      refine ab_callVi [_] dX11_meet_26 ml_X11_66 mk_X11_refuse hC.hs (c_refuse (k := 0) (b := 0) (c := 2) hC (by decide) (by omega) (by omega)) (fun v1 hh1 hq => ?_)
      obtain ⟨hv, hh⟩ := hq
      refine ab_reti dX11_meet_29 ?_
      exact ab_oI_no (by unfold sp_meet; rw [if_neg (fun q => by first | exact ab_tf q.1 c_4 | exact ab_tf q.2.1 c_11 | exact ab_tf q.2.2 (ab_inr_no (by first | exact Or.inl (ab_lt0.mp c_15) | exact Or.inr (by have := mt (ab_Nle (n := 1) (by omega)).mpr c_20; omega))))]) hv hh
    · skip
      refine ab_iload_n dX11_meet_14 rfl ?_
      refine ab_if_lt 23 dX11_meet_15 (by decide) (fun c_15 => ?_) (fun c_15 => ?_)
      · skip
        refine ab_aload_n dX11_meet_23 rfl ?_
        refine ab_bipush (v := -2) dX11_meet_24 (by decide) ?_
        refine ab_callVi [_] dX11_meet_26 ml_X11_66 mk_X11_refuse hC.hs (c_refuse (k := 0) (b := 0) (c := 2) hC (by decide) (by omega) (by omega)) (fun v1 hh1 hq => ?_)
        obtain ⟨hv, hh⟩ := hq
        refine ab_reti dX11_meet_29 ?_
        exact ab_oI_no (by unfold sp_meet; rw [if_neg (fun q => by first | exact ab_tf q.1 c_4 | exact ab_tf q.2.1 c_11 | exact ab_tf q.2.2 (ab_inr_no (by first | exact Or.inl (ab_lt0.mp c_15) | exact Or.inr (by have := mt (ab_Nle (n := 1) (by omega)).mpr c_20; omega))))]) hv hh
      · skip
        refine ab_iload_n dX11_meet_18 rfl ?_
        refine ab_iconst (v := nI 1) dX11_meet_19 (by decide) ?_
        refine ab_icmp_le 30 dX11_meet_20 (by decide) (fun c_20 => ?_) (fun c_20 => ?_)
        · skip
          obtain ⟨w, rfl, hw, -⟩ := ab_inr_nat (n := 3) c_4
          obtain ⟨p, rfl, hp, -⟩ := ab_inr_nat (n := 3) c_11
          refine ab_aload_n dX11_meet_30 rfl ?_
          refine ab_getR dX11_meet_31 fl_X11_19 hC.hs hC.p5_1 ?_
          refine ab_iload_n dX11_meet_34 rfl ?_
          refine ab_iload_n dX11_meet_35 rfl ?_
          refine ab_iload_n dX11_meet_36 rfl ?_
          refine ab_iconst (v := nI 1) dX11_meet_37 (by decide) ?_
          refine ab_icmp_ne 45 dX11_meet_38 (by decide) (fun c_38 => ?_) (fun c_38 => ?_)
          · skip
            refine ab_iconst (v := nI 0) dX11_meet_45 (by decide) ?_
            refine ab_callVi [_, _, _] dX11_meet_46 ml_X11_175 mk_X8_meeting hC.rule.1 (c_meeting (k := 2) (b := 0) (fl := false) (s := w * 4 + p) (by omega) hC.rule hU (by omega) rfl) (fun v1 hh1 hq => ?_)
            obtain ⟨f, rfl⟩ := hq
            refine ab_reti dX11_meet_49 ?_
            exact ab_oI_ok (by unfold sp_meet; rw [if_pos ⟨c_4, c_11, ab_inr_ok (by have := mt ab_lt0.mpr c_15; omega) (by have := (ab_Nle (n := 1) (by omega)).mp c_20; omega)⟩, nI_clamp (by omega), nI_clamp (by omega)]; rw [show decide (z = nI 1) = false from by simp [c_38]]) f
          · skip
            refine ab_iconst (v := nI 1) dX11_meet_41 (by decide) ?_
            refine ab_goto 46 dX11_meet_42 (by decide) ?_
            refine ab_callVi [_, _, _] dX11_meet_46 ml_X11_175 mk_X8_meeting hC.rule.1 (c_meeting (k := 2) (b := 0) (fl := true) (s := w * 4 + p) (by omega) hC.rule hU (by omega) rfl) (fun v1 hh1 hq => ?_)
            obtain ⟨f, rfl⟩ := hq
            refine ab_reti dX11_meet_49 ?_
            exact ab_oI_ok (by unfold sp_meet; rw [if_pos ⟨c_4, c_11, ab_inr_ok (by have := mt ab_lt0.mpr c_15; omega) (by have := (ab_Nle (n := 1) (by omega)).mp c_20; omega)⟩, nI_clamp (by omega), nI_clamp (by omega)]; rw [show decide (z = nI 1) = true from by simp [c_38]]) f
        · skip
          refine ab_aload_n dX11_meet_23 rfl ?_
          refine ab_bipush (v := -2) dX11_meet_24 (by decide) ?_
          refine ab_callVi [_] dX11_meet_26 ml_X11_66 mk_X11_refuse hC.hs (c_refuse (k := 0) (b := 0) (c := 2) hC (by decide) (by omega) (by omega)) (fun v1 hh1 hq => ?_)
          obtain ⟨hv, hh⟩ := hq
          refine ab_reti dX11_meet_29 ?_
          exact ab_oI_no (by unfold sp_meet; rw [if_neg (fun q => by first | exact ab_tf q.1 c_4 | exact ab_tf q.2.1 c_11 | exact ab_tf q.2.2 (ab_inr_no (by first | exact Or.inl (ab_lt0.mp c_15) | exact Or.inr (by have := mt (ab_Nle (n := 1) (by omega)).mpr c_20; omega))))]) hv hh
set_option maxRecDepth 100000 in
set_option maxHeartbeats 4000000 in
theorem c_lots {k b : Nat} {h : ab_H} {ρ : Nat → Nat} {x n0 z y : Int32} (hk : 2 ≤ k) (hC : at_C (ab_sh h) (ab_r h)) (hU : ab_rho h 14 ρ) : ab_M k b mX11_lots [.ref 5, .int x, .int n0, .int z, .int y] h (ab_pi (ab_oI 37 [] h (sp_lots ρ x n0 z y))) := by
  refine ab_enter ?_
  refine ab_iload_n dX11_lots_0 rfl ?_
  refine ab_callSb [_] dX11_lots_1 ml_X11_139 mk_X11_isWay (c_isWay (k := 0) (b := 0)) (fun t1 hh0 hq => ?_)
  obtain ⟨hhe, rfl⟩ := hq
  rw [hhe]
  refine ab_bif_eq 18 dX11_lots_4 (by decide) (fun c_4 => ?_) (fun c_4 => ?_)
  · skip
    refine ab_aload_n dX11_lots_18 rfl ?_
    refine ab_bipush (v := -2) dX11_lots_19 (by decide) ?_
    refine ab_callVi [_] dX11_lots_21 ml_X11_66 mk_X11_refuse hC.hs (c_refuse (k := 0) (b := 0) (c := 2) hC (by decide) (by omega) (by omega)) (fun v1 hh1 hq => ?_)
    obtain ⟨hv, hh⟩ := hq
    refine ab_reti dX11_lots_24 ?_
    exact ab_oI_no (by unfold sp_lots; rw [if_neg (fun q => by first | exact ab_tf q.1 c_4 | exact ab_tf q.2 (ab_inr_no (by first | exact Or.inl (ab_lt0.mp c_9) | exact Or.inr (by have := mt (ab_Nle (n := 1) (by omega)).mpr c_15; omega))))]) hv hh
  · skip
    refine ab_iload dX11_lots_7 rfl ?_
    refine ab_if_lt 18 dX11_lots_9 (by decide) (fun c_9 => ?_) (fun c_9 => ?_)
    · skip
      refine ab_aload_n dX11_lots_18 rfl ?_
      refine ab_bipush (v := -2) dX11_lots_19 (by decide) ?_
      refine ab_callVi [_] dX11_lots_21 ml_X11_66 mk_X11_refuse hC.hs (c_refuse (k := 0) (b := 0) (c := 2) hC (by decide) (by omega) (by omega)) (fun v1 hh1 hq => ?_)
      obtain ⟨hv, hh⟩ := hq
      refine ab_reti dX11_lots_24 ?_
      exact ab_oI_no (by unfold sp_lots; rw [if_neg (fun q => by first | exact ab_tf q.1 c_4 | exact ab_tf q.2 (ab_inr_no (by first | exact Or.inl (ab_lt0.mp c_9) | exact Or.inr (by have := mt (ab_Nle (n := 1) (by omega)).mpr c_15; omega))))]) hv hh
    · skip
      refine ab_iload dX11_lots_12 rfl ?_
      refine ab_iconst (v := nI 1) dX11_lots_14 (by decide) ?_
      refine ab_icmp_le 25 dX11_lots_15 (by decide) (fun c_15 => ?_) (fun c_15 => ?_)
      · skip
        refine ab_iload_n dX11_lots_25 rfl ?_
        refine ab_iconst (v := nI 1) dX11_lots_26 (by decide) ?_
        refine ab_icmp_ge 37 dX11_lots_27 (by decide) (fun c_27 => ?_) (fun c_27 => ?_)
        · skip
          refine ab_iload_n dX11_lots_37 rfl ?_
          refine ab_bipush (v := nI 50) dX11_lots_38 (by decide) ?_
          refine ab_icmp_le 50 dX11_lots_40 (by decide) (fun c_40 => ?_) (fun c_40 => ?_)
          · skip
            obtain ⟨w, rfl, hw, -⟩ := ab_inr_nat (n := 3) c_4
            have hn1 := (ab_leN (n := 1) (by omega)).mp c_27
            have hn50 := (ab_Nle (n := 50) (by omega)).mp c_40
            obtain ⟨n, rfl, hn31⟩ := ab_of0 (x := n0) (ab_ge0.mpr (by omega))
            rw [nI_toInt hn31] at hn1 hn50
            refine ab_aload_n dX11_lots_50 rfl ?_
            refine ab_getR dX11_lots_51 fl_X11_19 hC.hs hC.p5_1 ?_
            refine ab_iload_n dX11_lots_54 rfl ?_
            refine ab_iload_n dX11_lots_55 rfl ?_
            refine ab_iload_n dX11_lots_56 rfl ?_
            refine ab_iload dX11_lots_57 rfl ?_
            refine ab_iconst (v := nI 1) dX11_lots_59 (by decide) ?_
            refine ab_icmp_ne 67 dX11_lots_60 (by decide) (fun c_60 => ?_) (fun c_60 => ?_)
            · skip
              refine ab_iconst (v := nI 0) dX11_lots_67 (by decide) ?_
              refine ab_callVn [_, _, _, _] dX11_lots_68 ml_X11_185 mk_X8_drawLots hC.rule.1 (c_drawLots (k := 1) (b := 0) (fl := false) (by omega) hC.rule hU (by omega) (by omega)) (fun v1 hh1 hq => ?_)
              obtain ⟨hhe, rfl⟩ := hq
              rw [hhe]
              refine ab_reti dX11_lots_71 ?_
              exact ab_oI_ok (by unfold sp_lots; rw [if_pos ⟨c_4, ab_inr_ok (by have := mt ab_lt0.mpr c_9; omega) (by have := (ab_Nle (n := 1) (by omega)).mp c_15; omega)⟩, if_neg (by rw [nI_toInt hn31]; omega), if_neg (by rw [nI_toInt hn31]; omega), nI_clamp hn31, nI_clamp (by omega)]; simp [c_60]) (ab_fr.rf h)
            · skip
              refine ab_iconst (v := nI 1) dX11_lots_63 (by decide) ?_
              refine ab_goto 68 dX11_lots_64 (by decide) ?_
              refine ab_callVn [_, _, _, _] dX11_lots_68 ml_X11_185 mk_X8_drawLots hC.rule.1 (c_drawLots (k := 1) (b := 0) (fl := true) (by omega) hC.rule hU (by omega) (by omega)) (fun v1 hh1 hq => ?_)
              obtain ⟨hhe, rfl⟩ := hq
              rw [hhe]
              refine ab_reti dX11_lots_71 ?_
              exact ab_oI_ok (by unfold sp_lots; rw [if_pos ⟨c_4, ab_inr_ok (by have := mt ab_lt0.mpr c_9; omega) (by have := (ab_Nle (n := 1) (by omega)).mp c_15; omega)⟩, if_neg (by rw [nI_toInt hn31]; omega), if_neg (by rw [nI_toInt hn31]; omega), nI_clamp hn31, nI_clamp (by omega)]; simp [c_60]) (ab_fr.rf h)
          · skip
            refine ab_aload_n dX11_lots_43 rfl ?_
            refine ab_bipush (v := -6) dX11_lots_44 (by decide) ?_
            refine ab_callVi [_] dX11_lots_46 ml_X11_66 mk_X11_refuse hC.hs (c_refuse (k := 0) (b := 0) (c := 6) hC (by decide) (by omega) (by omega)) (fun v1 hh1 hq => ?_)
            obtain ⟨hv, hh⟩ := hq
            refine ab_reti dX11_lots_49 ?_
            exact ab_oI_no (by unfold sp_lots; rw [if_pos ⟨c_4, ab_inr_ok (by have := mt ab_lt0.mpr c_9; omega) (by have := (ab_Nle (n := 1) (by omega)).mp c_15; omega)⟩, if_neg (by have := (ab_leN (n := 1) (by omega)).mp c_27; omega), if_pos (by have := mt (ab_Nle (n := 50) (by omega)).mpr c_40; omega)]) hv hh
        · skip
          refine ab_aload_n dX11_lots_30 rfl ?_
          refine ab_bipush (v := -4) dX11_lots_31 (by decide) ?_
          refine ab_callVi [_] dX11_lots_33 ml_X11_66 mk_X11_refuse hC.hs (c_refuse (k := 0) (b := 0) (c := 4) hC (by decide) (by omega) (by omega)) (fun v1 hh1 hq => ?_)
          obtain ⟨hv, hh⟩ := hq
          refine ab_reti dX11_lots_36 ?_
          exact ab_oI_no (by unfold sp_lots; rw [if_pos ⟨c_4, ab_inr_ok (by have := mt ab_lt0.mpr c_9; omega) (by have := (ab_Nle (n := 1) (by omega)).mp c_15; omega)⟩, if_pos (by have := mt (ab_leN (n := 1) (by omega)).mpr c_27; omega)]) hv hh
      · skip
        refine ab_aload_n dX11_lots_18 rfl ?_
        refine ab_bipush (v := -2) dX11_lots_19 (by decide) ?_
        refine ab_callVi [_] dX11_lots_21 ml_X11_66 mk_X11_refuse hC.hs (c_refuse (k := 0) (b := 0) (c := 2) hC (by decide) (by omega) (by omega)) (fun v1 hh1 hq => ?_)
        obtain ⟨hv, hh⟩ := hq
        refine ab_reti dX11_lots_24 ?_
        exact ab_oI_no (by unfold sp_lots; rw [if_neg (fun q => by first | exact ab_tf q.1 c_4 | exact ab_tf q.2 (ab_inr_no (by first | exact Or.inl (ab_lt0.mp c_9) | exact Or.inr (by have := mt (ab_Nle (n := 1) (by omega)).mpr c_15; omega))))]) hv hh
