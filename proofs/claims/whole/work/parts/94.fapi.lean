/-! ===== a float out of the pool, by a wide place ===== -/
theorem ab_stepF {p : Program} {l : Launch} {e : Env} {R : Room} {s : State} {m : MethodId} {args : Array Value} {below : List Frame} {meth : Method} {c : Code} {locs : List Loc} {cells slots : Nat} {T : State} (X : Stand p l e R s m args below meth c T locs cells slots) (hexec : p.tables.exec = Jvm.exec) {own : String} {index : Nat} {v : UInt32} (hown : s.vm.findClass own = some m.cls)
    (hconst : (Cond.constantFloat own index v).before args s = true) {g : JFrame} (hg : g.method = m) (hdg : decode c.code g.pc = .ok (.ldc_w index, 3)) :
    ∀ target, Steps p.tables e below (T.setTop { g with pc := g.pc + 3, stack := .float v :: g.stack }) target → Steps p.tables e below (T.setTop g) target := by
  obtain ⟨k, cf, hk, hcf, hcp⟩ := Cond.constantFloat_spec hown hconst
  obtain ⟨k', hk', he⟩ := X.warmed.alike.2.2 _ _ hk
  intro target hrest
  subst hg
  jvm_step X.here [hexec, hdg, ldc_w.wp_float (s := T) (f := g) X.here.top hk' (by rw [he]; exact hcf) hcp]
  exact hrest
theorem ab_ldcwf {k b : Nat} {M : ab_MK} {pc : Nat} {ls : List (Option Value)} {st : List Value} {h : ab_H} {post : Value → ab_H → Prop} {i : Nat} {v : UInt32} (hd : decode M.2.1 pc = .ok (.ldc_w i, 3)) (hw : Cond.constantFloat M.1.cls i v ∈ lw_tbl) (kk : ab_R k b M (pc + 3) ls (.float v :: st) h post) : ab_R k b M pc ls st h post := by
  intro B ex eA dA D p l e R s m args below meth c cm sm Q C hcm hsm hex H locs A cells slots hr hS hl h1 h2
  have kk := kk B ex eA dA D p l e R s m args below meth c cm sm Q C hcm hsm hex H locs A cells slots hr hS hl h1 h2
  intro T hT X
  obtain ⟨t, a, b9⟩ := kk T hT X
  exact ⟨t, ab_stepF X C.1 C.2.2.2.1 (C.2.2.2.2.1 _ (List.mem_filter.mpr ⟨hw, rfl⟩)) (g := F0 m pc A (st.map (ab_vv B ex))) rfl (by rw [C.2.1]; exact hd) t a, b9⟩
/-! ===== areas as floats ===== -/
def fs (s : sS) (n : Nat) : Nat → UInt32
  | 0 => FP.fconst0
  | i + 1 => if bt n i = true then FP.fadd (fs s n i) (sp_f (sA s i)) else fs s n i
def ds (s : sS) (n : Nat) : Nat → UInt64
  | 0 => FP.dconst0
  | i + 1 => if bt n i = true then FP.dadd (ds s n i) (sp_d (sA s i)) else ds s n i
theorem fs_yes {s : sS} {n i : Nat} (h : bt n i = true) : fs s n (i + 1) = FP.fadd (fs s n i) (sp_f (sA s i)) := by rw [fs, if_pos h]
theorem fs_no {s : sS} {n i : Nat} (h : bt n i = false) : fs s n (i + 1) = fs s n i := by rw [fs, if_neg (by rw [h]; decide)]
theorem ds_yes {s : sS} {n i : Nat} (h : bt n i = true) : ds s n (i + 1) = FP.dadd (ds s n i) (sp_d (sA s i)) := by rw [ds, if_pos h]
theorem ds_no {s : sS} {n i : Nat} (h : bt n i = false) : ds s n (i + 1) = ds s n i := by rw [ds, if_neg (by rw [h]; decide)]
theorem fA_B {s : sS} (hW : sW s) {i : Nat} (hi : i < s.2.2.1) : FB32 63 191 (sp_f (sA s i)) := sp_f_B (sA_0 s i) ((sA_B hW hi).k1 (by decide)) (sA_B hW hi).2.1 ((sA_B hW hi).k2 (by decide))
theorem dA_B {s : sS} (hW : sW s) {i : Nat} (hi : i < s.2.2.1) : FB64 959 1087 (sp_d (sA s i)) := sp_d_B (sA_0 s i) ((sA_B hW hi).k1 (by decide)) (sA_B hW hi).2.1 ((sA_B hW hi).k2 (by decide))
theorem fs_B {s : sS} (hW : sW s) (n : Nat) : ∀ i, i ≤ s.2.2.1 → FB32 63 (191 + 2 * i) (fs s n i)
  | 0, _ => Or.inl rfl
  | i + 1, hi => by
    have h1 := fs_B hW n i (by omega)
    have h11 := hW.2.1
    cases c : bt n i with
    | true => rw [fs_yes c]; exact (h1.add ((fA_B hW (show i < s.2.2.1 by omega)).mono (Nat.le_refl _) (by omega)) (by decide) (by omega)).mono (Nat.le_refl _) (by omega)
    | false => rw [fs_no c]; exact h1.mono (Nat.le_refl _) (by omega)
theorem ds_B {s : sS} (hW : sW s) (n : Nat) : ∀ i, i ≤ s.2.2.1 → FB64 959 (1087 + 2 * i) (ds s n i)
  | 0, _ => Or.inl rfl
  | i + 1, hi => by
    have h1 := ds_B hW n i (by omega)
    have h11 := hW.2.1
    cases c : bt n i with
    | true => rw [ds_yes c]; exact (h1.add ((dA_B hW (show i < s.2.2.1 by omega)).mono (Nat.le_refl _) (by omega)) (by decide) (by omega)).mono (Nat.le_refl _) (by omega)
    | false => rw [ds_no c]; exact h1.mono (Nat.le_refl _) (by omega)
theorem fs_n {s : sS} (hW : sW s) (n : Nat) {i : Nat} (hi : i < s.2.2.1) : vf_n32 (FP.fadd (fs s n i) (sp_f (sA s i))) := by
  have h11 := hW.2.1
  exact ((fs_B hW n i (by omega)).add ((fA_B hW hi).mono (Nat.le_refl _) (by omega)) (by decide) (by omega)).n (by omega)
theorem ds_n {s : sS} (hW : sW s) (n : Nat) {i : Nat} (hi : i < s.2.2.1) : vf_n64 (FP.dadd (ds s n i) (sp_d (sA s i))) := by
  have h11 := hW.2.1
  exact ((ds_B hW n i (by omega)).add ((dA_B hW hi).mono (Nat.le_refl _) (by omega)) (by decide) (by omega)).n (by omega)
theorem FBn0 {x : UInt32} (h : x = 0) : vf_n32 x := by rw [h]; unfold vf_n32; decide
theorem fb_k : (1148846080 : UInt32) = UInt32.ofNat (136 * 2 ^ 23 + 7995392) := by decide
theorem fb_1000 {hi : Nat} {x : UInt32} (h : FB32 63 hi x) (hh : hi ≤ 211) : vf_n32 (FP.fmul x 1148846080) := by
  rw [fb_k]
  rcases h with rfl | ⟨E, t, ht, rfl, h1, h2⟩
  · refine FBn0 ?_
    show UInt32.ofNat (FP.Core.mul FP.Core.b32 0 (UInt32.ofNat (136 * 2 ^ 23 + 7995392)).toNat) = 0
    rw [fb32_nat (by decide) (by decide), fo_mul0 fG_32 (by decide) (by decide) (by decide)]
    rfl
  · obtain ⟨E', t', ht', he, c1, c2⟩ := fo_mul (t2 := 7995392) (E2 := 136) fG_32 ht (by decide) (show 1 ≤ E by omega) (by omega) (by decide) (by decide) (by omega) (by omega)
    have e : FP.fmul (UInt32.ofNat (E * 2 ^ 23 + t)) (UInt32.ofNat (136 * 2 ^ 23 + 7995392)) = UInt32.ofNat (E' * 2 ^ 23 + t') := by
      show UInt32.ofNat (FP.Core.mul FP.Core.b32 (UInt32.ofNat (E * 2 ^ 23 + t)).toNat (UInt32.ofNat (136 * 2 ^ 23 + 7995392)).toNat) = _
      rw [fb32_nat ht (by omega), fb32_nat (by decide) (by decide), he]
    rw [e]
    exact (fb_one ht').n (by omega)
def sp_bits (s : sS) (x : Int32) : Nat ⊕ Int32 := if ab_inr 0 ((s.2.2.1 : Int) - 1) x = true then .inr (sp_f (sA s x.toNatClampNeg)).toInt32 else .inl 1
def sp_bitsOf (s : sS) (x w : Int32) : Nat ⊕ Int32 := if st_in s.2.2.1 x = true then (if ab_inr 0 1 w = true then .inr (if w = 0 then (fs s x.toNatClampNeg s.2.2.1).toInt32 else FP.f2i (FP.fmul (fs s x.toNatClampNeg s.2.2.1) 1148846080)) else .inl 2) else .inl 1
def sp_longBits (s : sS) (x : Int32) : Nat ⊕ Int64 := if st_in s.2.2.1 x = true then .inr (ds s x.toNatClampNeg s.2.2.1).toInt64 else .inl 1
set_option maxRecDepth 100000 in
set_option maxHeartbeats 4000000 in
theorem lp_floatSum {k b r n : Nat} {h : ab_H} {s : sS} (hk : 1 ≤ k) (hS : at_Shapes (ab_sh h) (ab_r h) r) (hD : sh_C r s h) (hn : n < 2147483648) : ∀ (j i : Nat), i + j = s.2.2.1 → ab_R k b mX9_floatSum 4 [some (.ref r), some (.int (nI n)), some (.float (fs s n i)), some (.int (nI i))] [] h (ab_pf (fun v h' => h' = h ∧ v = fs s n s.2.2.1)) := by
  intro j
  induction j with
  | zero =>
    intro i hi
    have h11 := hD.W.2.1
    obtain rfl : i = s.2.2.1 := by omega
    refine ab_iload_n dX9_floatSum_4 rfl ?_
    refine ab_aload_n dX9_floatSum_5 rfl ?_
    refine ab_getI dX9_floatSum_6 fl_X9_25 hS.1 hD.nt ?_
    refine ab_nicmp_ge 42 dX9_floatSum_9 (by decide) (by omega) (by omega) (fun c_9 => ?_) (fun c_9 => ?_)
    · skip
      refine ab_fload_n dX9_floatSum_42 rfl ?_
      refine ab_retf dX9_floatSum_43 ?_
      exact ⟨rfl, rfl⟩
    · skip
      exact absurd (Nat.le_refl _) c_9
  | succ j ih =>
    intro i hi
    have h11 := hD.W.2.1
    refine ab_iload_n dX9_floatSum_4 rfl ?_
    refine ab_aload_n dX9_floatSum_5 rfl ?_
    refine ab_getI dX9_floatSum_6 fl_X9_25 hS.1 hD.nt ?_
    refine ab_nicmp_ge 42 dX9_floatSum_9 (by decide) (by omega) (by omega) (fun c_9 => ?_) (fun c_9 => ?_)
    · skip
      exact absurd c_9 (by omega)
    · skip
      have hi9 : i < s.2.2.1 := by omega
      have hT := hD.tr i hi9
      refine ab_aload_n dX9_floatSum_12 rfl ?_
      refine ab_iload_n dX9_floatSum_13 rfl ?_
      refine ab_iload_n dX9_floatSum_14 rfl ?_
      refine ab_callVb [_, _] dX9_floatSum_15 ml_X9_49 mk_X9_isIn hS.1 (c_isIn (k := 0) (b := 0) hn (by omega)) (fun t hh1 hq => ?_)
      obtain ⟨hhe, rfl⟩ := hq
      rw [hhe]
      refine ab_bif_eq 36 dX9_floatSum_18 (by decide) (fun c_18 => ?_) (fun c_18 => ?_)
      · skip
        refine ab_nincR (ls' := [_, _, _, _]) dX9_floatSum_36 rfl rfl ?_
        refine ab_goto 4 dX9_floatSum_39 (by decide) ?_
        refine (fun q => ?_) (ih (i + 1) (by omega))
        first | (rw [fs_no c_18] at q; exact q) | (rw [fs_yes c_18] at q; exact q)
      · skip
        refine ab_fload_n dX9_floatSum_21 rfl ?_
        refine ab_aload_n dX9_floatSum_22 rfl ?_
        refine ab_getR dX9_floatSum_23 fl_X9_17 hS.1 hS.2.2.2.1 ?_
        refine ab_iload_n dX9_floatSum_26 rfl ?_
        refine ab_aald (t := 7) dX9_floatSum_27 hS.2.2.2.2 rfl (by omega) rfl ?_
        refine ab_getR dX9_floatSum_28 fl_X9_53 hT.2.2.1 rfl ?_
        refine ab_callVf [] dX9_floatSum_31 ml_X9_79 mk_X2_asFloat hT.2.2.2.2.2.2.2.2.2.2.1 (c_fr_float (k := 0) (b := 0) hT.2.2.2.2.2.2.2.2 (fA_B hD.W hi9 |>.n (by decide))) (fun v hh2 hq => ?_)
        obtain ⟨hhe, rfl⟩ := hq
        rw [hhe]
        refine ab_fadd dX9_floatSum_34 (fs_n hD.W n hi9) ?_
        refine ab_stf_n (ls' := [_, _, _, _]) dX9_floatSum_35 (by decide) rfl ?_
        refine ab_nincR (ls' := [_, _, _, _]) dX9_floatSum_36 rfl rfl ?_
        refine ab_goto 4 dX9_floatSum_39 (by decide) ?_
        refine (fun q => ?_) (ih (i + 1) (by omega))
        first | (rw [fs_no c_18] at q; exact q) | (rw [fs_yes c_18] at q; exact q)
set_option maxRecDepth 100000 in
set_option maxHeartbeats 4000000 in
theorem c_floatSum {k b r n : Nat} {h : ab_H} {s : sS} (hk : 1 ≤ k) (hS : at_Shapes (ab_sh h) (ab_r h) r) (hD : sh_C r s h) (hn : n < 2147483648) : ab_M k b mX9_floatSum [.ref r, .int (nI n)] h (ab_pf (fun v h' => h' = h ∧ v = fs s n s.2.2.1)) := by
  refine ab_enter ?_
  refine ab_fconst0 dX9_floatSum_0 ?_
  refine ab_stf_n (ls' := [_, _, _, _]) dX9_floatSum_1 (by decide) rfl ?_
  refine ab_iconst (v := nI 0) dX9_floatSum_2 (by decide) ?_
  refine ab_sti_n (ls' := [_, _, _, _]) dX9_floatSum_3 (by decide) rfl ?_
  exact lp_floatSum hk hS hD hn s.2.2.1 0 (by omega)
set_option maxRecDepth 100000 in
set_option maxHeartbeats 4000000 in
theorem lp_doubleSum {k b r n : Nat} {h : ab_H} {s : sS} (hk : 1 ≤ k) (hS : at_Shapes (ab_sh h) (ab_r h) r) (hD : sh_C r s h) (hn : n < 2147483648) : ∀ (j i : Nat), i + j = s.2.2.1 → ab_R k b mX9_doubleSum 5 [some (.ref r), some (.int (nI n)), some (.double (ds s n i)), none, some (.int (nI i))] [] h (ab_pd (fun v h' => h' = h ∧ v = ds s n s.2.2.1)) := by
  intro j
  induction j with
  | zero =>
    intro i hi
    have h11 := hD.W.2.1
    obtain rfl : i = s.2.2.1 := by omega
    refine ab_iload dX9_doubleSum_5 rfl ?_
    refine ab_aload_n dX9_doubleSum_7 rfl ?_
    refine ab_getI dX9_doubleSum_8 fl_X9_25 hS.1 hD.nt ?_
    refine ab_nicmp_ge 46 dX9_doubleSum_11 (by decide) (by omega) (by omega) (fun c_11 => ?_) (fun c_11 => ?_)
    · skip
      refine ab_dload_n dX9_doubleSum_46 rfl ?_
      refine ab_retd dX9_doubleSum_47 ?_
      exact ⟨rfl, rfl⟩
    · skip
      exact absurd (Nat.le_refl _) c_11
  | succ j ih =>
    intro i hi
    have h11 := hD.W.2.1
    refine ab_iload dX9_doubleSum_5 rfl ?_
    refine ab_aload_n dX9_doubleSum_7 rfl ?_
    refine ab_getI dX9_doubleSum_8 fl_X9_25 hS.1 hD.nt ?_
    refine ab_nicmp_ge 46 dX9_doubleSum_11 (by decide) (by omega) (by omega) (fun c_11 => ?_) (fun c_11 => ?_)
    · skip
      exact absurd c_11 (by omega)
    · skip
      have hi9 : i < s.2.2.1 := by omega
      have hT := hD.tr i hi9
      refine ab_aload_n dX9_doubleSum_14 rfl ?_
      refine ab_iload_n dX9_doubleSum_15 rfl ?_
      refine ab_iload dX9_doubleSum_16 rfl ?_
      refine ab_callVb [_, _] dX9_doubleSum_18 ml_X9_49 mk_X9_isIn hS.1 (c_isIn (k := 0) (b := 0) hn (by omega)) (fun t hh1 hq => ?_)
      obtain ⟨hhe, rfl⟩ := hq
      rw [hhe]
      refine ab_bif_eq 40 dX9_doubleSum_21 (by decide) (fun c_21 => ?_) (fun c_21 => ?_)
      · skip
        refine ab_nincR (ls' := [_, _, _, _, _]) dX9_doubleSum_40 rfl rfl ?_
        refine ab_goto 5 dX9_doubleSum_43 (by decide) ?_
        refine (fun q => ?_) (ih (i + 1) (by omega))
        first | (rw [ds_no c_21] at q; exact q) | (rw [ds_yes c_21] at q; exact q)
      · skip
        refine ab_dload_n dX9_doubleSum_24 rfl ?_
        refine ab_aload_n dX9_doubleSum_25 rfl ?_
        refine ab_getR dX9_doubleSum_26 fl_X9_17 hS.1 hS.2.2.2.1 ?_
        refine ab_iload dX9_doubleSum_29 rfl ?_
        refine ab_aald (t := 7) dX9_doubleSum_31 hS.2.2.2.2 rfl (by omega) rfl ?_
        refine ab_getR dX9_doubleSum_32 fl_X9_53 hT.2.2.1 rfl ?_
        refine ab_callVd [] dX9_doubleSum_35 ml_X9_83 mk_X2_asDouble hT.2.2.2.2.2.2.2.2.2.2.1 (c_fr_double (k := 0) (b := 0) hT.2.2.2.2.2.2.2.2 (dA_B hD.W hi9 |>.n (by decide))) (fun v hh2 hq => ?_)
        obtain ⟨hhe, rfl⟩ := hq
        rw [hhe]
        refine ab_dadd dX9_doubleSum_38 (ds_n hD.W n hi9) ?_
        refine ab_std_n (ls' := [_, _, _, _, _]) dX9_doubleSum_39 (by decide) rfl ?_
        refine ab_nincR (ls' := [_, _, _, _, _]) dX9_doubleSum_40 rfl rfl ?_
        refine ab_goto 5 dX9_doubleSum_43 (by decide) ?_
        refine (fun q => ?_) (ih (i + 1) (by omega))
        first | (rw [ds_no c_21] at q; exact q) | (rw [ds_yes c_21] at q; exact q)
set_option maxRecDepth 100000 in
set_option maxHeartbeats 4000000 in
theorem c_doubleSum {k b r n : Nat} {h : ab_H} {s : sS} (hk : 1 ≤ k) (hS : at_Shapes (ab_sh h) (ab_r h) r) (hD : sh_C r s h) (hn : n < 2147483648) : ab_M k b mX9_doubleSum [.ref r, .int (nI n)] h (ab_pd (fun v h' => h' = h ∧ v = ds s n s.2.2.1)) := by
  refine ab_enter ?_
  refine ab_dconst0 dX9_doubleSum_0 ?_
  refine ab_std_n (ls' := [_, _, _, _, _]) dX9_doubleSum_1 (by decide) rfl ?_
  refine ab_iconst (v := nI 0) dX9_doubleSum_2 (by decide) ?_
  refine ab_sti (ls' := [_, _, _, _, _]) dX9_doubleSum_3 (by decide) rfl ?_
  exact lp_doubleSum hk hS hD hn s.2.2.1 0 (by omega)
set_option maxRecDepth 100000 in
set_option maxHeartbeats 4000000 in
theorem c_bits {k b : Nat} {h : ab_H} {s : sS} {x : Int32} (hk : 1 ≤ k) (hC : at_C (ab_sh h) (ab_r h)) (hD : sh_C 19 s h) : ab_M k b mX11_bits [.ref 5, .int x] h (ab_pi (ab_oX 37 (ab_gr [] [] h) (ab_gr [] [] h) (sp_bits s x))) := by
  have h11 := hD.W.2.1
  refine ab_enter ?_
  refine ab_aload_n dX11_bits_0 rfl ?_
  refine ab_getR dX11_bits_1 fl_X11_26 hC.hs hC.p5_2 ?_
  refine ab_iload_n dX11_bits_4 rfl ?_
  refine ab_callVb [_] dX11_bits_5 ml_X11_235 mk_X9_hasTriangle hC.shapes.1 (c_hasTriangle (k := 0) (b := 0) hC.shapes hD) (fun t1 hh0 hq => ?_)
  obtain ⟨hhe, rfl⟩ := hq
  rw [hhe]
  refine ab_bif_ne 17 dX11_bits_8 (by decide) (fun c_8 => ?_) (fun c_8 => ?_)
  · skip
    have hin := c_8
    obtain ⟨i, rfl, hi, hi31⟩ := bd_inr_n (by omega) c_8
    have hT := hD.tr i hi
    refine ab_aload_n dX11_bits_17 rfl ?_
    refine ab_getR dX11_bits_18 fl_X11_26 hC.hs hC.p5_2 ?_
    refine ab_getR dX11_bits_21 fl_X11_238 hC.shapes.1 hC.shapes.2.2.2.1 ?_
    refine ab_iload_n dX11_bits_24 rfl ?_
    refine ab_aald (t := 7) dX11_bits_25 hC.shapes.2.2.2.2 rfl (by omega) rfl ?_
    refine ab_getR dX11_bits_26 fl_X11_260 hT.2.2.1 rfl ?_
    refine ab_callVf [] dX11_bits_29 ml_X11_278 mk_X2_asFloat hT.2.2.2.2.2.2.2.2.2.2.1 (c_fr_float (k := 0) (b := 0) hT.2.2.2.2.2.2.2.2 ((fA_B hD.W hi).n (by decide))) (fun v hh2 hq => ?_)
    obtain ⟨hhe, rfl⟩ := hq
    rw [hhe]
    refine ab_callSi [_] dX11_bits_32 ml_X11_282 mk_X1_intBits (c_intBits (k := 0) (b := 0) (fA_B hD.W hi) (by decide) (by decide)) (fun v hh3 hq => ?_)
    obtain ⟨hhe, rfl⟩ := hq
    rw [hhe]
    refine ab_reti dX11_bits_35 ?_
    exact ab_oX_ok (by unfold sp_bits; rw [if_pos hin, nI_clamp hi31]) (ab_gr.rf h)
  · skip
    refine ab_aload_n dX11_bits_11 rfl ?_
    refine ab_iconst (v := -1) dX11_bits_12 (by decide) ?_
    refine ab_callVi [_] dX11_bits_13 ml_X11_66 mk_X11_refuse hC.hs (c_refuse (k := 0) (b := 0) (c := 1) hC (by decide) (by omega) (by omega)) (fun v1 hh1 hq => ?_)
    obtain ⟨hv, hh⟩ := hq
    refine ab_reti dX11_bits_16 ?_
    exact ab_oX_no (by unfold sp_bits; rw [if_neg (fun q => ab_tf q c_8)]) (ab_gr.rf h) hv hh
set_option maxRecDepth 100000 in
set_option maxHeartbeats 4000000 in
theorem c_bitsOf {k b : Nat} {h : ab_H} {s : sS} {x w : Int32} (hk : 2 ≤ k) (hC : at_C (ab_sh h) (ab_r h)) (hD : sh_C 19 s h) : ab_M k b mX11_bitsOf [.ref 5, .int x, .int w] h (ab_pi (ab_oX 37 (ab_gr [] [] h) (ab_gr [] [] h) (sp_bitsOf s x w))) := by
  have h11 := hD.W.2.1
  refine ab_enter ?_
  refine ab_aload_n dX11_bitsOf_0 rfl ?_
  refine ab_getR dX11_bitsOf_1 fl_X11_26 hC.hs hC.p5_2 ?_
  refine ab_iload_n dX11_bitsOf_4 rfl ?_
  refine ab_callVb [_] dX11_bitsOf_5 ml_X11_263 mk_X9_hasSet hC.shapes.1 (c_hasSet (k := 0) (b := 0) hC.shapes hD) (fun t1 hh0 hq => ?_)
  obtain ⟨hhe, rfl⟩ := hq
  rw [hhe]
  refine ab_bif_ne 17 dX11_bitsOf_8 (by decide) (fun c_8 => ?_) (fun c_8 => ?_)
  · skip
    have hin := c_8
    obtain ⟨n, rfl, hn1, hi31⟩ := st_nat c_8
    refine ab_iload_n dX11_bitsOf_17 rfl ?_
    refine ab_if_ne 33 dX11_bitsOf_18 (by decide) (fun c_18 => ?_) (fun c_18 => ?_)
    · have h0w := c_18
      refine ab_iload_n dX11_bitsOf_33 rfl ?_
      refine ab_iconst (v := nI 1) dX11_bitsOf_34 (by decide) ?_
      refine ab_icmp_ne 52 dX11_bitsOf_35 (by decide) (fun c_35 => ?_) (fun c_35 => ?_)
      · skip
        refine ab_aload_n dX11_bitsOf_52 rfl ?_
        refine ab_bipush (v := -2) dX11_bitsOf_53 (by decide) ?_
        refine ab_callVi [_] dX11_bitsOf_55 ml_X11_66 mk_X11_refuse hC.hs (c_refuse (k := 0) (b := 0) (c := 2) hC (by decide) (by omega) (by omega)) (fun v1 hh1 hq => ?_)
        obtain ⟨hv, hh⟩ := hq
        refine ab_reti dX11_bitsOf_58 ?_
        exact ab_oX_no (by unfold sp_bitsOf; rw [if_pos hin, if_neg (fun q => by have e := ab_01 q c_18; exact c_35 e)]) (ab_gr.rf h) hv hh
      · have h1w := c_35
        refine ab_aload_n dX11_bitsOf_38 rfl ?_
        refine ab_getR dX11_bitsOf_39 fl_X11_26 hC.hs hC.p5_2 ?_
        refine ab_iload_n dX11_bitsOf_42 rfl ?_
        refine ab_callVf [_] dX11_bitsOf_43 ml_X11_288 mk_X9_floatSum hC.shapes.1 (c_floatSum (k := 1) (b := 0) (Nat.le_refl _) hC.shapes hD hi31) (fun v hh2 hq => ?_)
        obtain ⟨hhe, rfl⟩ := hq
        rw [hhe]
        refine ab_ldcwf dX11_bitsOf_46 kc_X11_292 ?_
        refine ab_fmul dX11_bitsOf_49 (fb_1000 ((fs_B hD.W n s.2.2.1 (Nat.le_refl _))) (by omega)) ?_
        refine ab_f2i dX11_bitsOf_50 ?_
        refine ab_reti dX11_bitsOf_51 ?_
        exact ab_oX_ok (by unfold sp_bitsOf; rw [if_pos hin, h1w, if_pos (by decide), if_neg (by decide), nI_clamp hi31]) (ab_gr.rf h)
    · have h0w := c_18
      refine ab_aload_n dX11_bitsOf_21 rfl ?_
      refine ab_getR dX11_bitsOf_22 fl_X11_26 hC.hs hC.p5_2 ?_
      refine ab_iload_n dX11_bitsOf_25 rfl ?_
      refine ab_callVf [_] dX11_bitsOf_26 ml_X11_288 mk_X9_floatSum hC.shapes.1 (c_floatSum (k := 1) (b := 0) (Nat.le_refl _) hC.shapes hD hi31) (fun v hh2 hq => ?_)
      obtain ⟨hhe, rfl⟩ := hq
      rw [hhe]
      refine ab_callSi [_] dX11_bitsOf_29 ml_X11_282 mk_X1_intBits (c_intBits (k := 0) (b := 0) ((fs_B hD.W n s.2.2.1 (Nat.le_refl _))) (by decide) (by omega)) (fun v hh3 hq => ?_)
      obtain ⟨hhe, rfl⟩ := hq
      rw [hhe]
      refine ab_reti dX11_bitsOf_32 ?_
      exact ab_oX_ok (by unfold sp_bitsOf; rw [if_pos hin, h0w, if_pos (by decide), if_pos rfl, nI_clamp hi31]) (ab_gr.rf h)
  · skip
    refine ab_aload_n dX11_bitsOf_11 rfl ?_
    refine ab_iconst (v := -1) dX11_bitsOf_12 (by decide) ?_
    refine ab_callVi [_] dX11_bitsOf_13 ml_X11_66 mk_X11_refuse hC.hs (c_refuse (k := 0) (b := 0) (c := 1) hC (by decide) (by omega) (by omega)) (fun v1 hh1 hq => ?_)
    obtain ⟨hv, hh⟩ := hq
    refine ab_reti dX11_bitsOf_16 ?_
    exact ab_oX_no (by unfold sp_bitsOf; rw [if_neg (fun q => ab_tf q c_8)]) (ab_gr.rf h) hv hh
set_option maxRecDepth 100000 in
set_option maxHeartbeats 4000000 in
theorem c_longBits {k b : Nat} {h : ab_H} {s : sS} {x : Int32} (hk : 2 ≤ k) (hC : at_C (ab_sh h) (ab_r h)) (hD : sh_C 19 s h) : ab_M k b mX11_longBits [.ref 5, .int x] h (ab_pl (ab_lX 37 (ab_gr [] [] h) (ab_gr [] [] h) (sp_longBits s x))) := by
  have h11 := hD.W.2.1
  refine ab_enter ?_
  refine ab_aload_n dX11_longBits_0 rfl ?_
  refine ab_getR dX11_longBits_1 fl_X11_26 hC.hs hC.p5_2 ?_
  refine ab_iload_n dX11_longBits_4 rfl ?_
  refine ab_callVb [_] dX11_longBits_5 ml_X11_263 mk_X9_hasSet hC.shapes.1 (c_hasSet (k := 0) (b := 0) hC.shapes hD) (fun t1 hh0 hq => ?_)
  obtain ⟨hhe, rfl⟩ := hq
  rw [hhe]
  refine ab_bif_ne 17 dX11_longBits_8 (by decide) (fun c_8 => ?_) (fun c_8 => ?_)
  · skip
    have hin := c_8
    obtain ⟨n, rfl, hn1, hi31⟩ := st_nat c_8
    refine ab_aload_n dX11_longBits_17 rfl ?_
    refine ab_getR dX11_longBits_18 fl_X11_26 hC.hs hC.p5_2 ?_
    refine ab_iload_n dX11_longBits_21 rfl ?_
    refine ab_callVd [_] dX11_longBits_22 ml_X11_293 mk_X9_doubleSum hC.shapes.1 (c_doubleSum (k := 1) (b := 0) (Nat.le_refl _) hC.shapes hD hi31) (fun v hh2 hq => ?_)
    obtain ⟨hhe, rfl⟩ := hq
    rw [hhe]
    refine ab_callSl [_] dX11_longBits_25 ml_X11_297 mk_X1_longBitsOfDouble (c_longBitsOf (k := 0) (b := 0) (ds_B hD.W n s.2.2.1 (Nat.le_refl _)) (by decide) (by omega)) (fun v hh3 hq => ?_)
    obtain ⟨hhe, rfl⟩ := hq
    rw [hhe]
    refine ab_retl dX11_longBits_28 ?_
    exact ab_lX_ok (by unfold sp_longBits; rw [if_pos hin, nI_clamp hi31]) (ab_gr.rf h)
  · skip
    refine ab_aload_n dX11_longBits_11 rfl ?_
    refine ab_iconst (v := -1) dX11_longBits_12 (by decide) ?_
    refine ab_callVl [_] dX11_longBits_13 ml_X11_148 mk_X11_refuseFar hC.hs (c_refuseFar (k := 1) (b := 0) (c := 1) (Nat.le_refl _) hC (by decide) (by omega) (by omega)) (fun v1 hh1 hq => ?_)
    obtain ⟨hv, hh⟩ := hq
    refine ab_retl dX11_longBits_16 ?_
    exact ab_lX_no (by unfold sp_longBits; rw [if_neg (fun q => ab_tf q c_8)]) (ab_gr.rf h) hv hh
set_option maxRecDepth 100000 in
set_option maxHeartbeats 4000000 in
theorem m_floatOf {k b i : Nat} {h : ab_H} {s : sS} (hk : 4 ≤ k) (hM : at_M (ab_sh h) (ab_r h)) (hD : sh_M s h) (hi : i < s.2.2.1) : ab_M k b mX12_floatOf [.ref 50, .int (nI i)] h (ab_pf (fun v h' => ab_fL h h' ∧ v = sp_f (sA s i))) := by
  have h11 := hD.W.2.1
  refine ab_enter ?_
  refine ab_aload_n dX12_floatOf_0 rfl ?_
  refine ab_iload_n dX12_floatOf_1 rfl ?_
  refine ab_callVv [_] dX12_floatOf_2 ml_X12_282 mk_X12_areaOf hM.hs (m_areaOf (k := 3) (b := 0) (Nat.le_refl _) hM hD hi) (fun h2 hq => ?_)
  obtain ⟨g, e1, e2⟩ := hq
  have hM1 := at_M.fL g hM
  refine ab_aload_n dX12_floatOf_5 rfl ?_
  refine ab_getL dX12_floatOf_6 fl_X12_250 hM1.hs e1 ?_
  refine ab_l2f dX12_floatOf_9 ?_
  refine ab_aload_n dX12_floatOf_10 rfl ?_
  refine ab_getL dX12_floatOf_11 fl_X12_254 hM1.hs e2 ?_
  refine ab_l2f dX12_floatOf_14 ?_
  refine ab_fdiv dX12_floatOf_15 ((fA_B hD.W hi).n (by decide)) ?_
  refine ab_retf dX12_floatOf_16 ?_
  exact ⟨g, rfl⟩
set_option maxRecDepth 100000 in
set_option maxHeartbeats 4000000 in
theorem m_bits {k b : Nat} {h : ab_H} {s : sS} {x : Int32} (hk : 5 ≤ k) (hM : at_M (ab_sh h) (ab_r h)) (hD : sh_M s h) : ab_M k b mX12_bits [.ref 50, .int x] h (ab_pi (ab_oX 51 (ab_fM [] [] h) (ab_fM [] [] h) (sp_bits s x))) := by
  have h11 := hD.W.2.1
  refine ab_enter ?_
  refine ab_aload_n dX12_bits_0 rfl ?_
  refine ab_iload_n dX12_bits_1 rfl ?_
  refine ab_callVb [_] dX12_bits_2 ml_X12_285 mk_X12_isTriangle hM.hs (m_isTriangle (k := 1) (b := 0) (Nat.le_refl _) hM hD) (fun t1 hh0 hq => ?_)
  obtain ⟨hhe, rfl⟩ := hq
  rw [hhe]
  refine ab_bif_eq 19 dX12_bits_5 (by decide) (fun c_5 => ?_) (fun c_5 => ?_)
  · skip
    refine ab_aload_n dX12_bits_19 rfl ?_
    refine ab_iconst (v := -1) dX12_bits_20 (by decide) ?_
    refine ab_callVi [_] dX12_bits_21 ml_X12_9 mk_X12_refused hM.hs (m_refused (k := 0) (b := 0) (c := 1) hM (by decide) (by omega) (by omega)) (fun v1 hh1 hq => ?_)
    obtain ⟨hv, hh⟩ := hq
    refine ab_reti dX12_bits_24 ?_
    first | exact ab_oX_no (by unfold sp_bits; rw [if_neg (fun q => ab_tf q c_5)]) (ab_fM.rf h) hv hh | exact ab_oX_ok (by unfold sp_bits; rw [if_pos hin, nI_clamp hi31]) (ab_fM.ofL g)
  · skip
    have hin := c_5
    obtain ⟨i, rfl, hi, hi31⟩ := bd_inr_n (by omega) c_5
    refine ab_aload_n dX12_bits_8 rfl ?_
    refine ab_iload_n dX12_bits_9 rfl ?_
    refine ab_callVf [_] dX12_bits_10 ml_X12_312 mk_X12_floatOf hM.hs (m_floatOf (k := 4) (b := 0) (Nat.le_refl _) hM hD hi) (fun v h2 hq => ?_)
    obtain ⟨g, rfl⟩ := hq
    refine ab_callSi [_] dX12_bits_13 ml_X12_316 mk_Jxf58ca_floatToIntBits_5c35a (l_bits32 (k := 1) (b := 0) (Nat.le_refl _) (fA_B hD.W hi) (by decide) (by decide)) (fun v hh3 hq => ?_)
    obtain ⟨hhe, rfl⟩ := hq
    rw [hhe]
    refine ab_goto 24 dX12_bits_16 (by decide) ?_
    refine ab_reti dX12_bits_24 ?_
    first | exact ab_oX_no (by unfold sp_bits; rw [if_neg (fun q => ab_tf q c_5)]) (ab_fM.rf h) hv hh | exact ab_oX_ok (by unfold sp_bits; rw [if_pos hin, nI_clamp hi31]) (ab_fM.ofL g)
set_option maxRecDepth 100000 in
set_option maxHeartbeats 4000000 in
theorem lp_mBitsOf {k b n : Nat} {h : ab_H} {s : sS} {w : Int32} (hk : 5 ≤ k) (hM : at_M (ab_sh h) (ab_r h)) (hD : sh_M s h) (hin : st_in s.2.2.1 (nI n) = true) (hw : ab_inr 0 1 w = true) (hn : n < 2147483648) : ∀ (j i : Nat) (h1 : ab_H), i + j = s.2.2.1 → ab_fL h h1 → ab_R k b mX12_bitsOf 36 [some (.ref 50), some (.int (nI n)), some (.int w), some (.float (fs s n i)), some (.int (nI i))] [] h1 (ab_pi (ab_oX 51 (ab_fM [] [] h) (ab_fM [] [] h) (sp_bitsOf s (nI n) w))) := by
  intro j
  induction j with
  | zero =>
    intro i h1 hi f
    have h11 := hD.W.2.1
    have hM1 := at_M.fL f hM
    have hD1 := hD.fL f
    obtain rfl : i = s.2.2.1 := by omega
    refine ab_iload dX12_bitsOf_36 rfl ?_
    refine ab_aload_n dX12_bitsOf_38 rfl ?_
    refine ab_getI dX12_bitsOf_39 fl_X12_238 hM1.hs hD1.nt ?_
    refine ab_nicmp_ge 69 dX12_bitsOf_42 (by decide) (by omega) (by omega) (fun c_42 => ?_) (fun c_42 => ?_)
    · skip
      refine ab_iload_n dX12_bitsOf_69 rfl ?_
      refine ab_if_ne 80 dX12_bitsOf_70 (by decide) (fun c_70 => ?_) (fun c_70 => ?_)
      · skip
        refine ab_fload_n dX12_bitsOf_80 rfl ?_
        refine ab_ldcwf dX12_bitsOf_81 kc_X12_322 ?_
        refine ab_fmul dX12_bitsOf_84 (fb_1000 (fs_B hD.W n s.2.2.1 (Nat.le_refl _)) (by omega)) ?_
        refine ab_f2i dX12_bitsOf_85 ?_
        refine ab_reti dX12_bitsOf_86 ?_
        first | exact ab_oX_ok (by unfold sp_bitsOf; rw [if_pos hin, if_pos hw, if_pos c_70, nI_clamp hn]) (ab_fM.ofL f) | exact ab_oX_ok (by unfold sp_bitsOf; rw [if_pos hin, if_pos hw, if_neg c_70, nI_clamp hn]) (ab_fM.ofL f)
      · skip
        refine ab_fload_n dX12_bitsOf_73 rfl ?_
        refine ab_callSi [_] dX12_bitsOf_74 ml_X12_316 mk_Jxf58ca_floatToIntBits_5c35a (l_bits32 (k := 1) (b := 0) (Nat.le_refl _) (fs_B hD.W n s.2.2.1 (Nat.le_refl _)) (by decide) (by omega)) (fun v hh3 hq => ?_)
        obtain ⟨hhe, rfl⟩ := hq
        rw [hhe]
        refine ab_goto 86 dX12_bitsOf_77 (by decide) ?_
        refine ab_reti dX12_bitsOf_86 ?_
        first | exact ab_oX_ok (by unfold sp_bitsOf; rw [if_pos hin, if_pos hw, if_pos c_70, nI_clamp hn]) (ab_fM.ofL f) | exact ab_oX_ok (by unfold sp_bitsOf; rw [if_pos hin, if_pos hw, if_neg c_70, nI_clamp hn]) (ab_fM.ofL f)
    · skip
      exact absurd (Nat.le_refl _) c_42
  | succ j ih =>
    intro i h1 hi f
    have h11 := hD.W.2.1
    have hM1 := at_M.fL f hM
    have hD1 := hD.fL f
    refine ab_iload dX12_bitsOf_36 rfl ?_
    refine ab_aload_n dX12_bitsOf_38 rfl ?_
    refine ab_getI dX12_bitsOf_39 fl_X12_238 hM1.hs hD1.nt ?_
    refine ab_nicmp_ge 69 dX12_bitsOf_42 (by decide) (by omega) (by omega) (fun c_42 => ?_) (fun c_42 => ?_)
    · skip
      exact absurd c_42 (by omega)
    · skip
      have hi9 : i < s.2.2.1 := by omega
      refine ab_iload_n dX12_bitsOf_45 rfl ?_
      refine ab_iload dX12_bitsOf_46 rfl ?_
      refine ab_callSb [_, _] dX12_bitsOf_48 ml_X12_199 mk_X12_has (m_has (k := 0) (b := 0) hn (by omega)) (fun t hh1 hq => ?_)
      obtain ⟨hhe, rfl⟩ := hq
      rw [hhe]
      refine ab_bif_eq 63 dX12_bitsOf_51 (by decide) (fun c_51 => ?_) (fun c_51 => ?_)
      · skip
        refine ab_nincR (ls' := [_, _, _, _, _]) dX12_bitsOf_63 rfl rfl ?_
        refine ab_goto 36 dX12_bitsOf_66 (by decide) ?_
        refine (fun q => ?_) (ih (i + 1) _ (by omega) f)
        first | (rw [fs_no c_51] at q; exact q) | (rw [fs_yes c_51] at q; exact q)
      · skip
        refine ab_fload_n dX12_bitsOf_54 rfl ?_
        refine ab_aload_n dX12_bitsOf_55 rfl ?_
        refine ab_iload dX12_bitsOf_56 rfl ?_
        refine ab_callVf [_] dX12_bitsOf_58 ml_X12_312 mk_X12_floatOf hM1.hs (m_floatOf (k := 4) (b := 0) (Nat.le_refl _) hM1 hD1 hi9) (fun v h2 hq => ?_)
        obtain ⟨g, rfl⟩ := hq
        replace f := f.trans g
        refine ab_fadd dX12_bitsOf_61 (fs_n hD.W n hi9) ?_
        refine ab_stf_n (ls' := [_, _, _, _, _]) dX12_bitsOf_62 (by decide) rfl ?_
        refine ab_nincR (ls' := [_, _, _, _, _]) dX12_bitsOf_63 rfl rfl ?_
        refine ab_goto 36 dX12_bitsOf_66 (by decide) ?_
        refine (fun q => ?_) (ih (i + 1) _ (by omega) f)
        first | (rw [fs_no c_51] at q; exact q) | (rw [fs_yes c_51] at q; exact q)
set_option maxRecDepth 100000 in
set_option maxHeartbeats 4000000 in
theorem m_bitsOf {k b : Nat} {h : ab_H} {s : sS} {x w : Int32} (hk : 5 ≤ k) (hM : at_M (ab_sh h) (ab_r h)) (hD : sh_M s h) : ab_M k b mX12_bitsOf [.ref 50, .int x, .int w] h (ab_pi (ab_oX 51 (ab_fM [] [] h) (ab_fM [] [] h) (sp_bitsOf s x w))) := by
  have h11 := hD.W.2.1
  refine ab_enter ?_
  refine ab_aload_n dX12_bitsOf_0 rfl ?_
  refine ab_iload_n dX12_bitsOf_1 rfl ?_
  refine ab_callVb [_] dX12_bitsOf_2 ml_X12_296 mk_X12_isSet hM.hs (m_isSet (k := 1) (b := 0) (Nat.le_refl _) hM hD) (fun t1 hh0 hq => ?_)
  obtain ⟨hhe, rfl⟩ := hq
  rw [hhe]
  refine ab_bif_ne 14 dX12_bitsOf_5 (by decide) (fun c_5 => ?_) (fun c_5 => ?_)
  · skip
    refine ab_iload_n dX12_bitsOf_14 rfl ?_
    refine ab_i2l dX12_bitsOf_15 ?_
    refine ab_lconst (v := 0) dX12_bitsOf_16 (by decide) ?_
    refine ab_lconst (v := 1) dX12_bitsOf_17 (by decide) ?_
    refine ab_callSb [_, _, _] dX12_bitsOf_18 ml_X12_123 mk_X12_isIn (m_isIn (k := 0) (b := 0) (Int32.toInt_toInt64 _) (lo := 0) (by decide) (hi := 1) (by decide)) (fun t2 hh2 hq => ?_)
    obtain ⟨hhe, rfl⟩ := hq
    rw [hhe]
    refine ab_bif_ne 31 dX12_bitsOf_21 (by decide) (fun c_21 => ?_) (fun c_21 => ?_)
    · skip
      have hin := c_5
      obtain ⟨n, rfl, hn1, hi31⟩ := st_nat c_5
      refine ab_fconst0 dX12_bitsOf_31 ?_
      refine ab_stf_n (ls' := [_, _, _, _, _]) dX12_bitsOf_32 (by decide) rfl ?_
      refine ab_iconst (v := nI 0) dX12_bitsOf_33 (by decide) ?_
      refine ab_sti (ls' := [_, _, _, _, _]) dX12_bitsOf_34 (by decide) rfl ?_
      exact lp_mBitsOf (by omega) hM hD c_5 c_21 hi31 s.2.2.1 0 _ (by omega) (ab_fL.rf h)
    · skip
      refine ab_aload_n dX12_bitsOf_24 rfl ?_
      refine ab_bipush (v := -2) dX12_bitsOf_25 (by decide) ?_
      refine ab_callVi [_] dX12_bitsOf_27 ml_X12_9 mk_X12_refused hM.hs (m_refused (k := 0) (b := 0) (c := 2) hM (by decide) (by omega) (by omega)) (fun v1 hh1 hq => ?_)
      obtain ⟨hv, hh⟩ := hq
      refine ab_reti dX12_bitsOf_30 ?_
      exact ab_oX_no (by unfold sp_bitsOf; rw [if_pos c_5, if_neg (fun q : ab_inr 0 1 w = true => ab_tf q c_21)]) (ab_fM.rf h) hv hh
  · skip
    refine ab_aload_n dX12_bitsOf_8 rfl ?_
    refine ab_iconst (v := -1) dX12_bitsOf_9 (by decide) ?_
    refine ab_callVi [_] dX12_bitsOf_10 ml_X12_9 mk_X12_refused hM.hs (m_refused (k := 0) (b := 0) (c := 1) hM (by decide) (by omega) (by omega)) (fun v1 hh1 hq => ?_)
    obtain ⟨hv, hh⟩ := hq
    refine ab_reti dX12_bitsOf_13 ?_
    exact ab_oX_no (by unfold sp_bitsOf; rw [if_neg (fun q => ab_tf q c_5)]) (ab_fM.rf h) hv hh
set_option maxRecDepth 100000 in
set_option maxHeartbeats 4000000 in
theorem lp_mLongBits {k b n : Nat} {h : ab_H} {s : sS} (hk : 4 ≤ k) (hM : at_M (ab_sh h) (ab_r h)) (hD : sh_M s h) (hin : st_in s.2.2.1 (nI n) = true) (hn : n < 2147483648) : ∀ (j i : Nat) (h1 : ab_H), i + j = s.2.2.1 → ab_fL h h1 → ab_R k b mX12_longBits 19 [some (.ref 50), some (.int (nI n)), some (.double (ds s n i)), none, some (.int (nI i))] [] h1 (ab_pl (ab_lX 51 (ab_fM [] [] h) (ab_fM [] [] h) (sp_longBits s (nI n)))) := by
  intro j
  induction j with
  | zero =>
    intro i h1 hi f
    have h11 := hD.W.2.1
    have hM1 := at_M.fL f hM
    have hD1 := hD.fL f
    obtain rfl : i = s.2.2.1 := by omega
    refine ab_iload dX12_longBits_19 rfl ?_
    refine ab_aload_n dX12_longBits_21 rfl ?_
    refine ab_getI dX12_longBits_22 fl_X12_238 hM1.hs hD1.nt ?_
    refine ab_nicmp_ge 63 dX12_longBits_25 (by decide) (by omega) (by omega) (fun c_25 => ?_) (fun c_25 => ?_)
    · skip
      refine ab_dload_n dX12_longBits_63 rfl ?_
      refine ab_callSl [_] dX12_longBits_64 ml_X12_323 mk_Jxe99ae_doubleToLongBits_ccdee (l_bits64 (k := 1) (b := 0) (Nat.le_refl _) (ds_B hD.W n s.2.2.1 (Nat.le_refl _)) (by decide) (by omega)) (fun v hh3 hq => ?_)
      obtain ⟨hhe, rfl⟩ := hq
      rw [hhe]
      refine ab_retl dX12_longBits_67 ?_
      exact ab_lX_ok (by unfold sp_longBits; rw [if_pos hin, nI_clamp hn]) (ab_fM.ofL f)
    · skip
      exact absurd (Nat.le_refl _) c_25
  | succ j ih =>
    intro i h1 hi f
    have h11 := hD.W.2.1
    have hM1 := at_M.fL f hM
    have hD1 := hD.fL f
    refine ab_iload dX12_longBits_19 rfl ?_
    refine ab_aload_n dX12_longBits_21 rfl ?_
    refine ab_getI dX12_longBits_22 fl_X12_238 hM1.hs hD1.nt ?_
    refine ab_nicmp_ge 63 dX12_longBits_25 (by decide) (by omega) (by omega) (fun c_25 => ?_) (fun c_25 => ?_)
    · skip
      exact absurd c_25 (by omega)
    · skip
      have hi9 : i < s.2.2.1 := by omega
      refine ab_iload_n dX12_longBits_28 rfl ?_
      refine ab_iload dX12_longBits_29 rfl ?_
      refine ab_callSb [_, _] dX12_longBits_31 ml_X12_199 mk_X12_has (m_has (k := 0) (b := 0) hn (by omega)) (fun t hh1 hq => ?_)
      obtain ⟨hhe, rfl⟩ := hq
      rw [hhe]
      refine ab_bif_eq 57 dX12_longBits_34 (by decide) (fun c_34 => ?_) (fun c_34 => ?_)
      · skip
        refine ab_nincR (ls' := [_, _, _, _, _]) dX12_longBits_57 rfl rfl ?_
        refine ab_goto 19 dX12_longBits_60 (by decide) ?_
        refine (fun q => ?_) (ih (i + 1) _ (by omega) f)
        first | (rw [ds_no c_34] at q; exact q) | (rw [ds_yes c_34] at q; exact q)
      · skip
        refine ab_aload_n dX12_longBits_37 rfl ?_
        refine ab_iload dX12_longBits_38 rfl ?_
        refine ab_callVv [_] dX12_longBits_40 ml_X12_282 mk_X12_areaOf hM1.hs (m_areaOf (k := 3) (b := 0) (Nat.le_refl _) hM1 hD1 hi9) (fun h2 hq => ?_)
        obtain ⟨g, e1, e2⟩ := hq
        replace f := f.trans g
        replace hM1 := at_M.fL g hM1
        refine ab_dload_n dX12_longBits_43 rfl ?_
        refine ab_aload_n dX12_longBits_44 rfl ?_
        refine ab_getL dX12_longBits_45 fl_X12_250 hM1.hs e1 ?_
        refine ab_l2d dX12_longBits_48 ?_
        refine ab_aload_n dX12_longBits_49 rfl ?_
        refine ab_getL dX12_longBits_50 fl_X12_254 hM1.hs e2 ?_
        refine ab_l2d dX12_longBits_53 ?_
        refine ab_ddiv dX12_longBits_54 ((dA_B hD.W hi9).n (by decide)) ?_
        refine ab_dadd dX12_longBits_55 (ds_n hD.W n hi9) ?_
        refine ab_std_n (ls' := [_, _, _, _, _]) dX12_longBits_56 (by decide) rfl ?_
        refine ab_nincR (ls' := [_, _, _, _, _]) dX12_longBits_57 rfl rfl ?_
        refine ab_goto 19 dX12_longBits_60 (by decide) ?_
        refine (fun q => ?_) (ih (i + 1) _ (by omega) f)
        first | (rw [ds_no c_34] at q; exact q) | (rw [ds_yes c_34] at q; exact q)
set_option maxRecDepth 100000 in
set_option maxHeartbeats 4000000 in
theorem m_longBits {k b : Nat} {h : ab_H} {s : sS} {x : Int32} (hk : 4 ≤ k) (hM : at_M (ab_sh h) (ab_r h)) (hD : sh_M s h) : ab_M k b mX12_longBits [.ref 50, .int x] h (ab_pl (ab_lX 51 (ab_fM [] [] h) (ab_fM [] [] h) (sp_longBits s x))) := by
  have h11 := hD.W.2.1
  refine ab_enter ?_
  refine ab_aload_n dX12_longBits_0 rfl ?_
  refine ab_iload_n dX12_longBits_1 rfl ?_
  refine ab_callVb [_] dX12_longBits_2 ml_X12_296 mk_X12_isSet hM.hs (m_isSet (k := 1) (b := 0) (Nat.le_refl _) hM hD) (fun t1 hh0 hq => ?_)
  obtain ⟨hhe, rfl⟩ := hq
  rw [hhe]
  refine ab_bif_ne 14 dX12_longBits_5 (by decide) (fun c_5 => ?_) (fun c_5 => ?_)
  · skip
    have hin := c_5
    obtain ⟨n, rfl, hn1, hi31⟩ := st_nat c_5
    refine ab_dconst0 dX12_longBits_14 ?_
    refine ab_std_n (ls' := [_, _, _, _, _]) dX12_longBits_15 (by decide) rfl ?_
    refine ab_iconst (v := nI 0) dX12_longBits_16 (by decide) ?_
    refine ab_sti (ls' := [_, _, _, _, _]) dX12_longBits_17 (by decide) rfl ?_
    exact lp_mLongBits (by omega) hM hD c_5 hi31 s.2.2.1 0 _ (by omega) (ab_fL.rf h)
  · skip
    refine ab_aload_n dX12_longBits_8 rfl ?_
    refine ab_iconst (v := -1) dX12_longBits_9 (by decide) ?_
    refine ab_callVl [_] dX12_longBits_10 ml_X12_178 mk_X12_refusedFar hM.hs (m_refusedFar (k := 1) (b := 0) (c := 1) (Nat.le_refl _) hM (by decide) (by omega) (by omega)) (fun v1 hh1 hq => ?_)
    obtain ⟨hv, hh⟩ := hq
    refine ab_retl dX12_longBits_13 ?_
    exact ab_lX_no (by unfold sp_longBits; rw [if_neg (fun q => ab_tf q c_5)]) (ab_fM.rf h) hv hh
