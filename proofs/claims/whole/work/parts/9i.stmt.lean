/-! ===== the model: one statement is read ===== -/
def nO (c : Nat) : Nat := if c = 98 then 3 else if c = 112 then 4 else if c = 114 then 5 else if c = 116 then 4 else 0
def dO (c k : Nat) : Nat := if c = 112 then 2 else if c = 98 ∧ 0 < k then 2 else 1
def rm (c : Nat) : Nat → Nat → Nat
  | 0, _ => 0
  | j + 1, k => dO c k + rm c j (k + 1)
def sq (c : Nat) : Nat → Nat → Nat
  | 0, q => q
  | k + 1, q => sq c k q + dO c k
def nu (e : eS) : Nat → Nat → Nat → Nat
  | 0, _, V => V
  | j + 1, q, V => nu e j (q + 1) (10 * V + eD e q)
theorem nO_z {c : Nat} : nO c = 0 ↔ eG c = 0 := by
  unfold nO eG
  by_cases a : c = 98
  · rw [if_pos a, if_pos a]; decide
  · by_cases b : c = 112
    · rw [if_neg a, if_neg a, if_pos b, if_pos b]; decide
    · by_cases d : c = 114
      · rw [if_neg a, if_neg a, if_neg b, if_neg b, if_pos d]
      · by_cases f : c = 116
        · rw [if_neg a, if_neg a, if_neg b, if_neg b, if_neg d, if_pos f]
        · rw [if_neg a, if_neg a, if_neg b, if_neg b, if_neg d, if_neg f]
theorem nO_le (c : Nat) : nO c ≤ 5 := by
  unfold nO
  by_cases a : c = 98
  · rw [if_pos a]; decide
  · by_cases b : c = 112
    · rw [if_neg a, if_pos b]; decide
    · by_cases d : c = 114
      · rw [if_neg a, if_neg b, if_pos d]; decide
      · by_cases f : c = 116
        · rw [if_neg a, if_neg b, if_neg d, if_pos f]; decide
        · rw [if_neg a, if_neg b, if_neg d, if_neg f]; decide
theorem rm_eG {c : Nat} : rm c (nO c) 0 = eG c := by
  rcases eG_cs c with q | ⟨-, z | z⟩ | ⟨-, z⟩ | ⟨-, z⟩
  · rw [q.1, nO_z.mpr q.1]; rfl
  · rw [z]; decide
  · rw [z]; decide
  · rw [z]; decide
  · rw [z]; decide
theorem sq_eG {c p : Nat} (h : eG c ≠ 0) : sq c (nO c) (p + 1) + 1 = p + eG c + 2 := by
  rcases eG_cs c with q | ⟨-, z | z⟩ | ⟨-, z⟩ | ⟨-, z⟩
  · exact absurd q.1 h
  · rw [z]; rfl
  · rw [z]; rfl
  · rw [z]; rfl
  · rw [z]; rfl
theorem dO_le (c k : Nat) : dO c k ≤ 2 := by
  unfold dO
  split
  · omega
  · split <;> omega
set_option maxRecDepth 100000 in
set_option maxHeartbeats 4000000 in
theorem m_numbersOf {k b c : Nat} {h : ab_H} (hc : c < 256) : ab_M k b mX12_numbersOf [.int (nI c)] h (ab_pn (fun v h' => h' = h ∧ v = nO c)) := by
  refine ab_enter ?_
  refine ab_iload_n dX12_numbersOf_0 rfl ?_
  by_cases e98 : c = 98
  · refine ab_lookup (off := 43) 44 dX12_numbersOf_1 (by decide) (by rw [e98]; decide) (by decide) ?_
    refine ab_iconst (v := nI 3) dX12_numbersOf_44 (by decide) ?_
    refine ab_retn dX12_numbersOf_45 ?_
    exact ⟨rfl, by unfold nO; rw [if_pos e98]⟩
  by_cases e112 : c = 112
  · refine ab_lookup (off := 47) 48 dX12_numbersOf_1 (by decide) (by rw [e112]; decide) (by decide) ?_
    refine ab_iconst (v := nI 4) dX12_numbersOf_48 (by decide) ?_
    refine ab_retn dX12_numbersOf_49 ?_
    exact ⟨rfl, by unfold nO; rw [if_neg e98, if_pos e112]⟩
  by_cases e114 : c = 114
  · refine ab_lookup (off := 45) 46 dX12_numbersOf_1 (by decide) (by rw [e114]; decide) (by decide) ?_
    refine ab_iconst (v := nI 5) dX12_numbersOf_46 (by decide) ?_
    refine ab_retn dX12_numbersOf_47 ?_
    exact ⟨rfl, by unfold nO; rw [if_neg e98, if_neg e112, if_pos e114]⟩
  by_cases e116 : c = 116
  · refine ab_lookup (off := 47) 48 dX12_numbersOf_1 (by decide) (by rw [e116]; decide) (by decide) ?_
    refine ab_iconst (v := nI 4) dX12_numbersOf_48 (by decide) ?_
    refine ab_retn dX12_numbersOf_49 ?_
    exact ⟨rfl, by unfold nO; rw [if_neg e98, if_neg e112, if_neg e114, if_pos e116]⟩
  refine ab_lookup (off := 49) 50 dX12_numbersOf_1 (by decide) (by show Op.lookupswitch.offset [(98, 43), (112, 47), (114, 45), (116, 47)] 49 _ = _; rw [nI_toInt (by omega), Op.lookupswitch.offset_cons, if_neg (by omega), Op.lookupswitch.offset_cons, if_neg (by omega), Op.lookupswitch.offset_cons, if_neg (by omega), Op.lookupswitch.offset_cons, if_neg (by omega)]; rfl) (by decide) ?_
  refine ab_iconst (v := nI 0) dX12_numbersOf_50 (by decide) ?_
  refine ab_retn dX12_numbersOf_51 ?_
  exact ⟨rfl, by unfold nO; rw [if_neg e98, if_neg e112, if_neg e114, if_neg e116]⟩
set_option maxRecDepth 100000 in
set_option maxHeartbeats 4000000 in
theorem m_digitsOf {k b c t : Nat} {h : ab_H} (hc : c < 256) (ht : t < 256) : ab_M k b mX12_digitsOf [.int (nI c), .int (nI t)] h (ab_pn (fun v h' => h' = h ∧ v = dO c t)) := by
  refine ab_enter ?_
  refine ab_iload_n dX12_digitsOf_0 rfl ?_
  refine ab_bipush (v := nI 112) dX12_digitsOf_1 (by decide) ?_
  refine ab_nicmp_eq 16 dX12_digitsOf_3 (by decide) (by omega) (by omega) (fun c_3 => ?_) (fun c_3 => ?_)
  · skip
    refine ab_iconst (v := nI 2) dX12_digitsOf_16 (by decide) ?_
    refine ab_goto 21 dX12_digitsOf_17 (by decide) ?_
    refine ab_retn dX12_digitsOf_21 ?_
    first | exact ⟨rfl, by unfold dO; rw [if_pos c_3]⟩ | exact ⟨rfl, by unfold dO; rw [if_neg c_3, if_neg (fun q => c_9 q.1)]⟩ | exact ⟨rfl, by unfold dO; rw [if_neg c_3, if_neg (fun q => absurd q.2 (by have := (nI_le0 (by omega)).mp c_13; omega))]⟩ | exact ⟨rfl, by unfold dO; rw [if_neg c_3, if_pos ⟨c_9, by have := mt (nI_le0 (t := t) (by omega)).mpr c_13; omega⟩]⟩ | exact ⟨rfl, by unfold dO; rw [if_neg c_3, if_pos ⟨Decidable.not_not.mp c_9, by have := mt (nI_le0 (t := t) (by omega)).mpr c_13; omega⟩]⟩
  · skip
    refine ab_iload_n dX12_digitsOf_6 rfl ?_
    refine ab_bipush (v := nI 98) dX12_digitsOf_7 (by decide) ?_
    refine ab_nicmp_ne 20 dX12_digitsOf_9 (by decide) (by omega) (by omega) (fun c_9 => ?_) (fun c_9 => ?_)
    · skip
      refine ab_iconst (v := nI 1) dX12_digitsOf_20 (by decide) ?_
      refine ab_retn dX12_digitsOf_21 ?_
      first | exact ⟨rfl, by unfold dO; rw [if_pos c_3]⟩ | exact ⟨rfl, by unfold dO; rw [if_neg c_3, if_neg (fun q => c_9 q.1)]⟩ | exact ⟨rfl, by unfold dO; rw [if_neg c_3, if_neg (fun q => absurd q.2 (by have := (nI_le0 (by omega)).mp c_13; omega))]⟩ | exact ⟨rfl, by unfold dO; rw [if_neg c_3, if_pos ⟨c_9, by have := mt (nI_le0 (t := t) (by omega)).mpr c_13; omega⟩]⟩ | exact ⟨rfl, by unfold dO; rw [if_neg c_3, if_pos ⟨Decidable.not_not.mp c_9, by have := mt (nI_le0 (t := t) (by omega)).mpr c_13; omega⟩]⟩
    · skip
      refine ab_iload_n dX12_digitsOf_12 rfl ?_
      refine ab_if_le 20 dX12_digitsOf_13 (by decide) (fun c_13 => ?_) (fun c_13 => ?_)
      · skip
        refine ab_iconst (v := nI 1) dX12_digitsOf_20 (by decide) ?_
        refine ab_retn dX12_digitsOf_21 ?_
        first | exact ⟨rfl, by unfold dO; rw [if_pos c_3]⟩ | exact ⟨rfl, by unfold dO; rw [if_neg c_3, if_neg (fun q => c_9 q.1)]⟩ | exact ⟨rfl, by unfold dO; rw [if_neg c_3, if_neg (fun q => absurd q.2 (by have := (nI_le0 (by omega)).mp c_13; omega))]⟩ | exact ⟨rfl, by unfold dO; rw [if_neg c_3, if_pos ⟨c_9, by have := mt (nI_le0 (t := t) (by omega)).mpr c_13; omega⟩]⟩ | exact ⟨rfl, by unfold dO; rw [if_neg c_3, if_pos ⟨Decidable.not_not.mp c_9, by have := mt (nI_le0 (t := t) (by omega)).mpr c_13; omega⟩]⟩
      · skip
        refine ab_iconst (v := nI 2) dX12_digitsOf_16 (by decide) ?_
        refine ab_goto 21 dX12_digitsOf_17 (by decide) ?_
        refine ab_retn dX12_digitsOf_21 ?_
        first | exact ⟨rfl, by unfold dO; rw [if_pos c_3]⟩ | exact ⟨rfl, by unfold dO; rw [if_neg c_3, if_neg (fun q => c_9 q.1)]⟩ | exact ⟨rfl, by unfold dO; rw [if_neg c_3, if_neg (fun q => absurd q.2 (by have := (nI_le0 (by omega)).mp c_13; omega))]⟩ | exact ⟨rfl, by unfold dO; rw [if_neg c_3, if_pos ⟨c_9, by have := mt (nI_le0 (t := t) (by omega)).mpr c_13; omega⟩]⟩ | exact ⟨rfl, by unfold dO; rw [if_neg c_3, if_pos ⟨Decidable.not_not.mp c_9, by have := mt (nI_le0 (t := t) (by omega)).mpr c_13; omega⟩]⟩
/-- what one statement read leaves -/
def st_P (e : eS) (p : Nat) (h : ab_H) (v : Nat) (h2 : ab_H) : Prop := ab_fM [72] [30] h h2 ∧ (∀ w, tx_wr e p = some w → v = 0 ∧ ab_i h2 50 30 = nI w) ∧ (tx_wr e p = none → v = eL e p ∧ ab_i h2 50 30 = nI (tx_nx e p) ∧ ∀ i, i < nO (eL e p) → ab_i h2 72 i = nI (nu e (dO (eL e p) i) (sq (eL e p) i (p + 1)) 0))
set_option maxRecDepth 100000 in
set_option maxHeartbeats 4000000 in
theorem lp_dig {k b p c t R : Nat} {h : ab_H} {e : eS} (hk : 1 ≤ k) (hM : at_M (ab_sh h) (ab_r h)) (hE : le_M e h) (hc : c < 256) (ht : t < 5) : ∀ (j dd q V : Nat) (h1 : ab_H), dd + j = dO c t → ab_fM [72] [30] h h1 → ab_i h1 50 30 = nI q → q ≤ e.1 → ab_i h1 72 t = nI V → tx_wr e p = tx_fw e (R + j) q → (∀ (h2 : ab_H) (o3 : Option Value), ab_fM [72] [30] h h2 → ab_i h2 50 30 = nI (q + j) → q + j ≤ e.1 → (∀ u, ab_i h2 72 u = if u = t then nI (nu e j q V) else ab_i h1 72 u) → tx_wr e p = tx_fw e R (q + j) → ab_R k b mX12_statement 151 [some (.ref 50), some (.int (nI c)), some (.int (nI t)), o3] [] h2 (ab_pn (st_P e p h))) → ab_R k b mX12_statement 63 [some (.ref 50), some (.int (nI c)), some (.int (nI t)), some (.int (nI dd))] [] h1 (ab_pn (st_P e p h)) := by
  intro j
  induction j with
  | zero =>
    intro dd q V h1 hd f hq9 hqm hV hfw cont
    have hM1 := at_M.fM f hM
    have hE1 := hE.fM f (by simp) (by simp)
    have h72 := hE.1
    have hdo := dO_le c t
    refine ab_iload_n dX12_statement_63 rfl ?_
    refine ab_iload_n dX12_statement_64 rfl ?_
    refine ab_iload_n dX12_statement_65 rfl ?_
    refine ab_callSn [_, _] dX12_statement_66 ml_X12_348 mk_X12_digitsOf (m_digitsOf (k := 0) (b := 0) hc (by omega)) (fun x hh hq => ?_)
    obtain ⟨hhe, rfl⟩ := hq
    rw [hhe]
    refine ab_nicmp_ge 151 dX12_statement_69 (by decide) (by omega) (by omega) (fun c_69 => ?_) (fun c_69 => ?_)
    · skip
      refine cont h1 _ f hq9 hqm (fun u => ?_) hfw
      by_cases c9 : u = t
      · rw [if_pos c9, c9]; exact hV
      · rw [if_neg c9]
    · skip
      exact absurd (by omega) c_69
  | succ j ih =>
    intro dd q V h1 hd f hq9 hqm hV hfw cont
    have hM1 := at_M.fM f hM
    have hE1 := hE.fM f (by simp) (by simp)
    have h72 := hE.1
    have hdo := dO_le c t
    refine ab_iload_n dX12_statement_63 rfl ?_
    refine ab_iload_n dX12_statement_64 rfl ?_
    refine ab_iload_n dX12_statement_65 rfl ?_
    refine ab_callSn [_, _] dX12_statement_66 ml_X12_348 mk_X12_digitsOf (m_digitsOf (k := 0) (b := 0) hc (by omega)) (fun x hh hq => ?_)
    obtain ⟨hhe, rfl⟩ := hq
    rw [hhe]
    refine ab_nicmp_ge 151 dX12_statement_69 (by decide) (by omega) (by omega) (fun c_69 => ?_) (fun c_69 => ?_)
    · skip
      exact absurd c_69 (by omega)
    · skip
      refine ab_aload_n dX12_statement_72 rfl ?_
      refine ab_getI dX12_statement_73 fl_X12_342 hM1.hs hq9 ?_
      refine ab_aload_n dX12_statement_76 rfl ?_
      refine ab_getI dX12_statement_77 fl_X12_339 hM1.hs hE1.2.2.1 ?_
      refine ab_nicmp_eq 105 dX12_statement_80 (by decide) (by omega) (by omega) (fun c_80 => ?_) (fun c_80 => ?_)
      · have nod : ¬ eI e q := (fun z : eI e q => by have := eL_in (e := e) (q := q) (by have := z.1; omega); omega)
        refine ab_iconst (v := nI 0) dX12_statement_105 (by decide) ?_
        refine ab_retn dX12_statement_106 ?_
        refine ⟨f, fun w9 q9 => ?_, fun q9 => ?_⟩
        · rw [hfw, ← Nat.add_assoc, tx_fw, if_neg nod] at q9; injection q9 with q9; rw [← q9]; exact ⟨rfl, hq9⟩
        · rw [hfw, ← Nat.add_assoc, tx_fw, if_neg nod] at q9; cases q9
      · have hq8 : q < e.1 := (by omega); have eq9 : eL e q = e.2 q := if_pos hq8; have hb9 := hE.2.1 q hq8
        refine ab_aload_n dX12_statement_83 rfl ?_
        refine ab_getR dX12_statement_84 fl_X12_91 hM1.hs hM1.p50_28 ?_
        refine ab_aload_n dX12_statement_87 rfl ?_
        refine ab_getI dX12_statement_88 fl_X12_342 hM1.hs hq9 ?_
        refine ab_iald dX12_statement_91 hM1.s71 rfl (by omega) (hE1.2.2.2 q hq8) ?_
        refine ab_i2l dX12_statement_92 ?_
        refine ab_ldc2 dX12_statement_93 kc_X12_351 ?_
        refine ab_ldc2 dX12_statement_96 kc_X12_353 ?_
        refine ab_callSb [_, _, _] dX12_statement_99 ml_X12_123 mk_X12_isIn (m_isIn (k := 0) (b := 0) (v := (e.2 q : Int)) (by rw [Int32.toInt_toInt64, nI_toInt (by omega)]) (lo := 48) (by decide) (hi := 57) (by decide)) (fun t9 hh0 hq => ?_)
        obtain ⟨hhe, rfl⟩ := hq
        rw [hhe]
        refine ab_bif_ne 107 dX12_statement_102 (by decide) (fun c_102 => ?_) (fun c_102 => ?_)
        · skip
          refine ab_aload_n dX12_statement_107 rfl ?_
          refine ab_getR dX12_statement_108 fl_X12_94 hM1.hs hM1.p50_31 ?_
          refine ab_iload_n dX12_statement_111 rfl ?_
          refine ab_bipush (v := nI 10) dX12_statement_112 (by decide) ?_
          refine ab_aload_n dX12_statement_114 rfl ?_
          refine ab_getR dX12_statement_115 fl_X12_94 hM1.hs hM1.p50_31 ?_
          refine ab_iload_n dX12_statement_118 rfl ?_
          refine ab_iald dX12_statement_119 hM1.s72 rfl (by omega) hV ?_
          refine ab_nmulR dX12_statement_120 ?_
          refine ab_aload_n dX12_statement_121 rfl ?_
          refine ab_getR dX12_statement_122 fl_X12_91 hM1.hs hM1.p50_28 ?_
          refine ab_aload_n dX12_statement_125 rfl ?_
          refine ab_getI dX12_statement_126 fl_X12_342 hM1.hs hq9 ?_
          refine ab_iald dX12_statement_129 hM1.s71 rfl (by omega) (hE1.2.2.2 q hq8) ?_
          refine ab_naddR dX12_statement_130 ?_
          refine ab_bipush (v := nI 48) dX12_statement_131 (by decide) ?_
          have dz : 48 ≤ e.2 q := by have z1 := of_decide_eq_true c_102; omega
          refine ab_nsubR dX12_statement_133 (by omega) ?_
          refine ab_iast dX12_statement_134 hM1.s72 rfl (by omega) ?_
          refine ab_aload_n dX12_statement_135 rfl ?_
          refine ab_dup dX12_statement_136 rfl ?_
          refine ab_getI dX12_statement_137 fl_X12_342 hM1.hs (show _ = nI q by rw [ab_i_off (by decide)]; exact hq9) ?_
          refine ab_iconst (v := nI 1) dX12_statement_140 (by decide) ?_
          refine ab_naddR dX12_statement_141 ?_
          refine ab_putI dX12_statement_142 fl_X12_342 hM1.hs ?_
          refine ab_nincR (ls' := [_, _, _, _]) dX12_statement_145 rfl rfl ?_
          refine ab_goto 63 dX12_statement_148 (by decide) ?_
          have dg : eI e q := by unfold eI; rw [eq9]; have z1 := of_decide_eq_true c_102; have z2 := z1.1; have z3 := z1.2; exact ⟨by omega, by omega⟩
          have hfw2 : tx_wr e p = tx_fw e (R + j) (q + 1) := by rw [hfw, ← Nat.add_assoc, tx_fw, if_pos dg]
          have eD9 : 10 * V + e.2 q - 48 = 10 * V + eD e q := by (unfold eD; rw [eq9]; have := dg.1; rw [eq9] at this; omega)
          rw [eD9]
          refine ih (dd + 1) (q + 1) (10 * V + eD e q) _ (by omega) ((f.si _ _ (by simp) (by decide)).s50 _ (by simp)) (by rw [ab_i_at, ab_up_self]) (by omega) (by rw [ab_i_off (by decide), ab_i_si_same, if_pos rfl]) hfw2 (fun h3 o3 f3 a3 b3 r3 w3 => cont h3 o3 f3 (by rw [a3]; congr 1; omega) (by omega) (fun u => ?_) (by rw [w3]; congr 1; omega))
          rw [r3]
          by_cases c9 : u = t
          · rw [if_pos c9, if_pos c9]; rfl
          · rw [if_neg c9, if_neg c9, ab_i_off (by decide), ab_i_si_same, if_neg c9]
        · have nod : ¬ eI e q := (fun z : eI e q => ab_tf (decide_eq_true ⟨by have := z.1; omega, by have := z.2; omega⟩) c_102)
          refine ab_iconst (v := nI 0) dX12_statement_105 (by decide) ?_
          refine ab_retn dX12_statement_106 ?_
          refine ⟨f, fun w9 q9 => ?_, fun q9 => ?_⟩
          · rw [hfw, ← Nat.add_assoc, tx_fw, if_neg nod] at q9; injection q9 with q9; rw [← q9]; exact ⟨rfl, hq9⟩
          · rw [hfw, ← Nat.add_assoc, tx_fw, if_neg nod] at q9; cases q9
