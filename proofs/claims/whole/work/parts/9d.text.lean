/-! ===== texts: mathematics ===== -/
def eL (e : eS) (j : Nat) : Nat := if j < e.1 then e.2 j else 0
def eG (c : Nat) : Nat := if c = 98 then 5 else if c = 112 then 8 else if c = 114 then 5 else if c = 116 then 4 else 0
abbrev eI (e : eS) (j : Nat) : Prop := 48 ≤ eL e j ∧ eL e j ≤ 57
def tx_fw (e : eS) : Nat → Nat → Option Nat
  | 0, q => if eL e q = 59 then none else some q
  | j + 1, q => if eI e q then tx_fw e j (q + 1) else some q
def tx_wr (e : eS) (p : Nat) : Option Nat := if eG (eL e p) = 0 then some p else tx_fw e (eG (eL e p)) (p + 1)
def tx_nx (e : eS) (p : Nat) : Nat := p + eG (eL e p) + 2
def tx_rd (e : eS) : Nat → Nat → Nat × Option Nat
  | 0, _ => (0, none)
  | j + 1, p => match tx_wr e p with
    | some w => (0, some w)
    | none => if tx_nx e p < e.1 then ((tx_rd e j (tx_nx e p)).1 + 1, (tx_rd e j (tx_nx e p)).2) else (1, none)
def tx_p (e : eS) : Nat → Nat → Nat
  | 0, p => p
  | k + 1, p => tx_p e k (tx_nx e p)
def oW (o : Option Nat) : Int32 := match o with | none => -9 | some w => nI w
theorem eL_lt {e : eS} (H : ∀ j, j < e.1 → e.2 j < 256) (q : Nat) : eL e q < 256 := by
  unfold eL
  split
  · exact H q (by assumption)
  · omega
theorem eL_in {e : eS} {q : Nat} (h : eL e q ≠ 0) : q < e.1 := by
  unfold eL at h
  split at h
  · assumption
  · exact absurd rfl h
theorem eG_cs (c : Nat) : (eG c = 0 ∧ c ≠ 98 ∧ c ≠ 112 ∧ c ≠ 114 ∧ c ≠ 116) ∨ (eG c = 5 ∧ (c = 98 ∨ c = 114)) ∨ (eG c = 8 ∧ c = 112) ∨ eG c = 4 ∧ c = 116 := by
  unfold eG
  by_cases a : c = 98
  · rw [if_pos a]; omega
  · by_cases b : c = 112
    · rw [if_neg a, if_pos b]; omega
    · by_cases d : c = 114
      · rw [if_neg a, if_neg b, if_pos d]; omega
      · by_cases f : c = 116
        · rw [if_neg a, if_neg b, if_neg d, if_pos f]; omega
        · rw [if_neg a, if_neg b, if_neg d, if_neg f]; omega
theorem eG_le (c : Nat) : eG c ≤ 8 := by have := eG_cs c; omega
theorem tx_fw_none {e : eS} : ∀ (j q : Nat), tx_fw e j q = none → (∀ i, i < j → eI e (q + i)) ∧ eL e (q + j) = 59 := by
  intro j
  induction j with
  | zero =>
    intro q h
    unfold tx_fw at h
    by_cases c : eL e q = 59
    · exact ⟨fun i hi => absurd hi (by omega), c⟩
    · rw [if_neg c] at h; cases h
  | succ j ih =>
    intro q h
    unfold tx_fw at h
    by_cases c : eI e q
    · rw [if_pos c] at h
      obtain ⟨h1, h2⟩ := ih (q + 1) h
      refine ⟨fun i hi => ?_, by rw [show q + (j + 1) = q + 1 + j by omega]; exact h2⟩
      cases i with
      | zero => exact c
      | succ i => rw [show q + (i + 1) = q + 1 + i by omega]; exact h1 i (by omega)
    · rw [if_neg c] at h; cases h
theorem tx_wr_none {e : eS} {p : Nat} (h : tx_wr e p = none) : eG (eL e p) ≠ 0 ∧ (∀ i, 1 ≤ i → i ≤ eG (eL e p) → eI e (p + i)) ∧ tx_nx e p ≤ e.1 ∧ p + 6 ≤ tx_nx e p := by
  unfold tx_wr at h
  by_cases c : eG (eL e p) = 0
  · rw [if_pos c] at h; cases h
  · rw [if_neg c] at h
    obtain ⟨h1, h2⟩ := tx_fw_none _ _ h
    refine ⟨c, fun i hi hj => ?_, ?_, ?_⟩
    · have := h1 (i - 1) (by omega)
      rw [show p + 1 + (i - 1) = p + i by omega] at this
      exact this
    · have := eL_in (e := e) (q := p + 1 + eG (eL e p)) (by rw [h2]; decide)
      unfold tx_nx
      omega
    · have := eG_cs (eL e p)
      unfold tx_nx
      omega
theorem tx_rd_some {e : eS} {j p w : Nat} (h : tx_wr e p = some w) : tx_rd e (j + 1) p = (0, some w) := by unfold tx_rd; rw [h]
theorem tx_rd_go {e : eS} {j p : Nat} (h : tx_wr e p = none) (c : tx_nx e p < e.1) : tx_rd e (j + 1) p = ((tx_rd e j (tx_nx e p)).1 + 1, (tx_rd e j (tx_nx e p)).2) := by
  rw [tx_rd, h]
  exact if_pos c
theorem tx_rd_end {e : eS} {j p : Nat} (h : tx_wr e p = none) (c : ¬ tx_nx e p < e.1) : tx_rd e (j + 1) p = (1, none) := by
  rw [tx_rd, h]
  exact if_neg c
theorem tx_rd_ok {e : eS} : ∀ (j p : Nat), (tx_rd e j p).1 ≤ j ∧ ∀ i, i < (tx_rd e j p).1 → tx_wr e (tx_p e i p) = none := by
  intro j
  induction j with
  | zero => intro p; exact ⟨Nat.le_refl _, fun i hi => absurd hi (Nat.not_lt_zero i)⟩
  | succ j ih =>
    intro p
    cases hw : tx_wr e p with
    | some w => rw [tx_rd_some hw]; exact ⟨Nat.zero_le _, fun i hi => absurd hi (Nat.not_lt_zero i)⟩
    | none =>
      by_cases c : tx_nx e p < e.1
      · rw [tx_rd_go hw c]
        refine ⟨Nat.succ_le_succ (ih _).1, fun i hi => ?_⟩
        cases i with
        | zero => exact hw
        | succ i => exact (ih (tx_nx e p)).2 i (Nat.lt_of_succ_lt_succ hi)
      · rw [tx_rd_end hw c]
        refine ⟨Nat.succ_le_succ (Nat.zero_le _), fun i hi => ?_⟩
        have hi : i < 1 := hi
        obtain rfl : i = 0 := by omega
        exact hw
/-! ===== the class reads a text ===== -/
theorem ab_retc {k b : Nat} {M : ab_MK} {pc : Nat} {ls : List (Option Value)} {h : ab_H} {P : Nat → ab_H → Prop} {x : Nat} (hd : decode M.2.1 pc = .ok (.ireturn, 1)) (hp : P x h) (hx : x < 65536 := by omega) (hrt : M.2.2.2 = some .char := by rfl) : ab_R k b M pc ls [.int (nI x)] h (ab_pn P) :=
  ab_iret hd ⟨x, rfl, hp⟩ (by rw [hrt]; rfl) (by rw [hrt]; rfl) (by rw [hrt]; exact ⟨_, rfl, nrw_nI hx⟩)
set_option maxRecDepth 100000 in
set_option maxHeartbeats 4000000 in
theorem c_letterAt {k b q : Nat} {h : ab_H} {e : eS} (hL : at_Letters (ab_sh h) (ab_r h) 22) (hE : le_C e h) (hq : q < 2147483648) : ab_M k b mX4_letterAt [.ref 22, .int (nI q)] h (ab_pn (fun v h' => h' = h ∧ v = eL e q)) := by
  have h72 := hE.1
  refine ab_enter ?_
  refine ab_iload_n dX4_letterAt_0 rfl ?_
  refine ab_if_lt 21 dX4_letterAt_1 (by decide) (fun c_1 => ?_) (fun c_1 => ?_)
  · skip
    exact absurd (ab_lt0.mp c_1) (by rw [nI_toInt (by omega)]; omega)
  · skip
    refine ab_iload_n dX4_letterAt_4 rfl ?_
    refine ab_aload_n dX4_letterAt_5 rfl ?_
    refine ab_getI dX4_letterAt_6 fl_X4_19 hL.1 hE.2.2.1 ?_
    refine ab_nicmp_ge 21 dX4_letterAt_9 (by decide) (by omega) (by omega) (fun c_9 => ?_) (fun c_9 => ?_)
    · skip
      refine ab_iconst (v := nI 0) dX4_letterAt_21 (by decide) ?_
      refine ab_retc dX4_letterAt_22 ?_
      first | exact ⟨rfl, by unfold eL; rw [if_pos (by omega)]⟩ | exact ⟨rfl, by unfold eL; rw [if_neg (by omega)]⟩
    · skip
      refine ab_aload_n dX4_letterAt_12 rfl ?_
      refine ab_getR dX4_letterAt_13 fl_X4_15 hL.1 hL.2.2.2.1 ?_
      refine ab_iload_n dX4_letterAt_16 rfl ?_
      refine ab_cald dX4_letterAt_17 hL.2.2.2.2 rfl (by omega) (hE.2.2.2 q (by omega)) ?_
      have hb9 := hE.2.1 q (by omega)
      refine ab_goto 22 dX4_letterAt_18 (by decide) ?_
      refine ab_retc dX4_letterAt_22 ?_
      first | exact ⟨rfl, by unfold eL; rw [if_pos (by omega)]⟩ | exact ⟨rfl, by unfold eL; rw [if_neg (by omega)]⟩
set_option maxRecDepth 100000 in
set_option maxHeartbeats 4000000 in
theorem c_digitsBehind {k b c : Nat} {h : ab_H} (hc : c < 256) : ab_M k b mX4_digitsBehind [.int (nI c)] h (ab_pn (fun v h' => h' = h ∧ v = eG c)) := by
  refine ab_enter ?_
  refine ab_iload_n dX4_digitsBehind_0 rfl ?_
  by_cases e98 : c = 98
  · refine ab_lookup (off := 43) 44 dX4_digitsBehind_1 (by decide) (by rw [e98]; decide) (by decide) ?_
    refine ab_iconst (v := nI 5) dX4_digitsBehind_44 (by decide) ?_
    refine ab_retn dX4_digitsBehind_45 ?_
    exact ⟨rfl, by unfold eG; rw [if_pos e98]⟩
  by_cases e112 : c = 112
  · refine ab_lookup (off := 45) 46 dX4_digitsBehind_1 (by decide) (by rw [e112]; decide) (by decide) ?_
    refine ab_bipush (v := nI 8) dX4_digitsBehind_46 (by decide) ?_
    refine ab_retn dX4_digitsBehind_48 ?_
    exact ⟨rfl, by unfold eG; rw [if_neg e98, if_pos e112]⟩
  by_cases e114 : c = 114
  · refine ab_lookup (off := 43) 44 dX4_digitsBehind_1 (by decide) (by rw [e114]; decide) (by decide) ?_
    refine ab_iconst (v := nI 5) dX4_digitsBehind_44 (by decide) ?_
    refine ab_retn dX4_digitsBehind_45 ?_
    exact ⟨rfl, by unfold eG; rw [if_neg e98, if_neg e112, if_pos e114]⟩
  by_cases e116 : c = 116
  · refine ab_lookup (off := 48) 49 dX4_digitsBehind_1 (by decide) (by rw [e116]; decide) (by decide) ?_
    refine ab_iconst (v := nI 4) dX4_digitsBehind_49 (by decide) ?_
    refine ab_retn dX4_digitsBehind_50 ?_
    exact ⟨rfl, by unfold eG; rw [if_neg e98, if_neg e112, if_neg e114, if_pos e116]⟩
  refine ab_lookup (off := 50) 51 dX4_digitsBehind_1 (by decide) (by show Op.lookupswitch.offset [(98, 43), (112, 45), (114, 43), (116, 48)] 50 _ = _; rw [nI_toInt (by omega), Op.lookupswitch.offset_cons, if_neg (by omega), Op.lookupswitch.offset_cons, if_neg (by omega), Op.lookupswitch.offset_cons, if_neg (by omega), Op.lookupswitch.offset_cons, if_neg (by omega)]; rfl) (by decide) ?_
  refine ab_iconst (v := nI 0) dX4_digitsBehind_51 (by decide) ?_
  refine ab_retn dX4_digitsBehind_52 ?_
  exact ⟨rfl, by unfold eG; rw [if_neg e98, if_neg e112, if_neg e114, if_neg e116]⟩
set_option maxRecDepth 100000 in
set_option maxHeartbeats 4000000 in
theorem lp_fw {k b p d : Nat} {h : ab_H} {e : eS} (hk : 1 ≤ k) (hL : at_Letters (ab_sh h) (ab_r h) 22) (hE : le_C e h) (hp : p < 2147400000) (hd : d ≤ 8) : ∀ (j q : Nat), q + j = p + d + 1 → ab_R k b mX4_firstWrongFrom 19 [some (.ref 22), some (.int (nI p)), some (.int (nI d)), some (.int (nI q))] [] h (ab_pi (fun v h' => v = oW (tx_fw e j q) ∧ h' = h)) := by
  intro j
  induction j with
  | zero =>
    intro q hq
    refine ab_iload_n dX4_firstWrongFrom_19 rfl ?_
    refine ab_iload_n dX4_firstWrongFrom_20 rfl ?_
    refine ab_iload_n dX4_firstWrongFrom_21 rfl ?_
    refine ab_naddR dX4_firstWrongFrom_22 ?_
    refine ab_nicmp_gt 54 dX4_firstWrongFrom_23 (by decide) (by omega) (by omega) (fun c_23 => ?_) (fun c_23 => ?_)
    · skip
      refine ab_iload_n dX4_firstWrongFrom_54 rfl ?_
      refine ab_iload_n dX4_firstWrongFrom_55 rfl ?_
      refine ab_naddR dX4_firstWrongFrom_56 ?_
      refine ab_iconst (v := nI 1) dX4_firstWrongFrom_57 (by decide) ?_
      refine ab_naddR dX4_firstWrongFrom_58 ?_
      refine ab_sti_n (ls' := [_, _, _, _]) dX4_firstWrongFrom_59 (by decide) rfl ?_
      refine ab_aload_n dX4_firstWrongFrom_60 rfl ?_
      refine ab_iload_n dX4_firstWrongFrom_61 rfl ?_
      refine ab_callVn [_] dX4_firstWrongFrom_62 ml_X4_30 mk_X4_letterAt hL.1 (c_letterAt (k := 0) (b := 0) (q := (p + d + 1)) hL hE (by omega)) (fun x hh hq => ?_)
      obtain ⟨hhe, rfl⟩ := hq
      rw [hhe]
      refine ab_bipush (v := nI 59) dX4_firstWrongFrom_65 (by decide) ?_
      refine ab_nicmp_ne 75 dX4_firstWrongFrom_67 (by decide) (by have := eL_lt hE.2.1 (p + d + 1); omega) (by omega) (fun c_67 => ?_) (fun c_67 => ?_)
      · skip
        refine ab_iload_n dX4_firstWrongFrom_75 rfl ?_
        refine ab_reti dX4_firstWrongFrom_76 ?_
        obtain rfl : q = p + d + 1 := by omega
        first | exact ⟨by unfold tx_fw; rw [if_pos (show eL e (p + d + 1) = 59 from c_67)]; rfl, rfl⟩ | exact ⟨by unfold tx_fw; rw [if_neg (show ¬ eL e (p + d + 1) = 59 from c_67)]; rfl, rfl⟩
      · skip
        refine ab_bipush (v := -9) dX4_firstWrongFrom_70 (by decide) ?_
        refine ab_goto 76 dX4_firstWrongFrom_72 (by decide) ?_
        refine ab_reti dX4_firstWrongFrom_76 ?_
        obtain rfl : q = p + d + 1 := by omega
        first | exact ⟨by unfold tx_fw; rw [if_pos (show eL e (p + d + 1) = 59 from c_67)]; rfl, rfl⟩ | exact ⟨by unfold tx_fw; rw [if_neg (show ¬ eL e (p + d + 1) = 59 from c_67)]; rfl, rfl⟩
    · skip
      exact absurd (by omega) c_23
  | succ j ih =>
    intro q hq
    refine ab_iload_n dX4_firstWrongFrom_19 rfl ?_
    refine ab_iload_n dX4_firstWrongFrom_20 rfl ?_
    refine ab_iload_n dX4_firstWrongFrom_21 rfl ?_
    refine ab_naddR dX4_firstWrongFrom_22 ?_
    refine ab_nicmp_gt 54 dX4_firstWrongFrom_23 (by decide) (by omega) (by omega) (fun c_23 => ?_) (fun c_23 => ?_)
    · skip
      exact absurd c_23 (by omega)
    · skip
      refine ab_aload_n dX4_firstWrongFrom_26 rfl ?_
      refine ab_iload_n dX4_firstWrongFrom_27 rfl ?_
      refine ab_callVn [_] dX4_firstWrongFrom_28 ml_X4_30 mk_X4_letterAt hL.1 (c_letterAt (k := 0) (b := 0) (q := q) hL hE (by omega)) (fun x hh hq => ?_)
      obtain ⟨hhe, rfl⟩ := hq
      rw [hhe]
      refine ab_bipush (v := nI 48) dX4_firstWrongFrom_31 (by decide) ?_
      refine ab_nicmp_lt 46 dX4_firstWrongFrom_33 (by decide) (by have := eL_lt hE.2.1 q; omega) (by omega) (fun c_33 => ?_) (fun c_33 => ?_)
      · skip
        refine ab_iload_n dX4_firstWrongFrom_46 rfl ?_
        refine ab_reti dX4_firstWrongFrom_47 ?_
        exact ⟨by unfold tx_fw; rw [if_neg (fun z : eI e q => by have z1 := z.1; have z2 := z.2; omega)]; rfl, rfl⟩
      · skip
        refine ab_aload_n dX4_firstWrongFrom_36 rfl ?_
        refine ab_iload_n dX4_firstWrongFrom_37 rfl ?_
        refine ab_callVn [_] dX4_firstWrongFrom_38 ml_X4_30 mk_X4_letterAt hL.1 (c_letterAt (k := 0) (b := 0) (q := q) hL hE (by omega)) (fun x hh hq => ?_)
        obtain ⟨hhe, rfl⟩ := hq
        rw [hhe]
        refine ab_bipush (v := nI 57) dX4_firstWrongFrom_41 (by decide) ?_
        refine ab_nicmp_le 48 dX4_firstWrongFrom_43 (by decide) (by have := eL_lt hE.2.1 q; omega) (by omega) (fun c_43 => ?_) (fun c_43 => ?_)
        · skip
          refine ab_nincR (ls' := [_, _, _, _]) dX4_firstWrongFrom_48 rfl rfl ?_
          refine ab_goto 19 dX4_firstWrongFrom_51 (by decide) ?_
          rw [show tx_fw e (j + 1) q = tx_fw e j (q + 1) by rw [tx_fw]; exact if_pos ⟨by omega, by omega⟩]
          exact ih (q + 1) (by omega)
        · skip
          refine ab_iload_n dX4_firstWrongFrom_46 rfl ?_
          refine ab_reti dX4_firstWrongFrom_47 ?_
          exact ⟨by unfold tx_fw; rw [if_neg (fun z : eI e q => by have z1 := z.1; have z2 := z.2; omega)]; rfl, rfl⟩
set_option maxRecDepth 100000 in
set_option maxHeartbeats 4000000 in
theorem c_firstWrong {k b p : Nat} {h : ab_H} {e : eS} (hk : 1 ≤ k) (hL : at_Letters (ab_sh h) (ab_r h) 22) (hE : le_C e h) (hp : p < 2147400000) : ab_M k b mX4_firstWrongFrom [.ref 22, .int (nI p)] h (ab_pi (fun v h' => v = oW (tx_wr e p) ∧ h' = h)) := by
  refine ab_enter ?_
  refine ab_aload_n dX4_firstWrongFrom_0 rfl ?_
  refine ab_iload_n dX4_firstWrongFrom_1 rfl ?_
  refine ab_callVn [_] dX4_firstWrongFrom_2 ml_X4_30 mk_X4_letterAt hL.1 (c_letterAt (k := 0) (b := 0) (q := p) hL hE (by omega)) (fun x hh hq => ?_)
  obtain ⟨hhe, rfl⟩ := hq
  rw [hhe]
  refine ab_callSn [_] dX4_firstWrongFrom_5 ml_X4_34 mk_X4_digitsBehind (c_digitsBehind (k := 0) (b := 0) (eL_lt hE.2.1 p)) (fun x hh hq => ?_)
  obtain ⟨hhe, rfl⟩ := hq
  rw [hhe]
  refine ab_sti_n (ls' := [_, _, _, _]) dX4_firstWrongFrom_8 (by decide) rfl ?_
  refine ab_iload_n dX4_firstWrongFrom_9 rfl ?_
  refine ab_nif_ne 15 dX4_firstWrongFrom_10 (by decide) (by have := eG_le (eL e p); omega) (fun c_10 => ?_) (fun c_10 => ?_)
  · skip
    refine ab_iload_n dX4_firstWrongFrom_15 rfl ?_
    refine ab_iconst (v := nI 1) dX4_firstWrongFrom_16 (by decide) ?_
    refine ab_naddR dX4_firstWrongFrom_17 ?_
    refine ab_sti_n (ls' := [_, _, _, _]) dX4_firstWrongFrom_18 (by decide) rfl ?_
    rw [show tx_wr e p = tx_fw e (eG (eL e p)) (p + 1) by unfold tx_wr; rw [if_neg (by omega)]]
    exact lp_fw hk hL hE hp (eG_le _) _ _ (by omega)
  · skip
    refine ab_iload_n dX4_firstWrongFrom_13 rfl ?_
    refine ab_reti dX4_firstWrongFrom_14 ?_
    exact ⟨by unfold tx_wr; rw [if_pos (by omega)]; rfl, rfl⟩
