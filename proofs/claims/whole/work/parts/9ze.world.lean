/-! THE CLAIM OUT OF ONE WALK OF THE LAW'S BODY. Your part is whole_start (and what it stands on); all else here is the same for every law, but numbers. -/
def R_law : String := "CutInCopiesLaw"
def lw_P (b : Addr) (xs : List Int32) (args : Array Value) (s : State) : Prop := args = #[.ref b] ∧ s.IntsAt b xs ∧ xs.length ≤ 2560 ∧ (Jvm.Cond.and given_1 narrow_1).before args s = true
/-- what a walk over the start with the record d0 says of its end, said of the start itself -/
theorem lw_closed {s t : State} {o : Outcome} {d0 : Drawn} {L : List Loc} {k n : Nat} (hd0 : s.drawn.sameBut d0 lw_cs) (hv : ∃ v, o = .returned v) (hW : (s.setDrawn d0).WarmedH t.vm) (hs : (s.setDrawn d0).sameButNew ({ t with vm := s.vm } : State) L k n) : State.butDraws s t lw_cs (fun t1 => Framed s o t1 L k n) := by
  have h2 : t.drawn = d0 := congrArg State.drawn hs.1
  refine ⟨⟨hv, hW, State.sameButNew.setDrawn hs s.drawn⟩, ?_, by decide⟩
  rw [h2]
  exact hd0
def lw_Q (_ : Array Value) (s : State) (o : Outcome) (t : State) : Prop := o = .returned (some (.int 1)) ∧ State.butDraws s t lw_cs (fun t1 => Framed s o t1 [] 600000 7302250)
def lw_Z (below : List Frame) (a : Array Value) (s : State) : State → Prop := fun t => ∃ o, t.status = .running ∧ Ended t below o ∧ lw_Q a s o t
/-- the law's own end, with 1 on the stack, nothing written that was there before, its room as the claim has it; d0: the record of draws at this point (at the entry s.drawn: begin with 'refine W.base ?_' and 'have hd0 := Drawn.sameBut.refl s.drawn lw_cs') -/
theorem lw_ret {p : Program} {l : Launch} {e : Env} {s : State} {m : MethodId} {below : List Frame} {meth : Method} {c : Code} {b : Nat} {d0 : Drawn} (hd0 : s.drawn.sameBut d0 lw_cs) (hx : p.tables.exec = Jvm.exec) (hb : c.code = code) (hr : meth.sig.returnType = ret) (hlocks : meth.locks = false) {pc : Nat} {H : Heap} {ls : Array Slot} (hdg : decode code pc = .ok (.ireturn, 1)) : W p l e room_1 (s.setDrawn d0) m #[Value.ref b] below meth c H [] 600000 7302250 (lw_Z below #[Value.ref b] s) (F0 m pc ls [.int 1]) := by
  intro T hT X
  obtain ⟨fs, hret, hrun, hended, hW, hframe⟩ := X.leave (v := some (.int 1)) (hlocks := hlocks) (fun h => by rw [hr] at h; cases h)
  have hmeth' : T.vm.method? m = some meth := X.method'
  refine ⟨T.setFrames fs, ?_, .returned (some (.int 1)), hrun, hended, rfl, lw_closed hd0 ⟨_, rfl⟩ hW hframe⟩
  jvm_step X.here [X.here.top, hx, hb, hdg, hmeth', hr, ret, narrow_b1]
  (try refine ⟨rfl, ?_⟩); (try refine ⟨rfl, ?_⟩)
  first | (intro acts; rw [hret _ acts rfl rfl rfl]) | rw [hret _ _ rfl rfl rfl]
  exact Steps.refl _
/-- what holds at the law's entry: the machine, the code, the tables' words (any of lw_tbl by 'hts w (by decide +kernel)'), the script of L ints xs at the cell b, what the Statement gives of the start (any of its parts by flat_of_before) -/
def lw_At (p : Program) (s : State) (m : MethodId) (meth : Method) (c : Code) (b L : Nat) (xs : Nat → Int32) : Prop :=
  p.tables.exec = Jvm.exec ∧ c.code = code ∧ meth.sig.returnType = ret ∧ c.maxLocals = 4 ∧ s.vm.findClass R_law = some m.cls ∧ (∀ w ∈ lw_tbl, w.before #[Value.ref b] s = true) ∧ va_X b L xs s s.heap ∧ b < s.heap.size ∧ meth.locks = false ∧ (Jvm.Cond.and given_1 narrow_1).before #[Value.ref b] s = true
/-! ===== the start: what the tables and the Statement give of it ===== -/
theorem st_cls {args : Array Value} {s : State} (hts : ∀ w ∈ lw_tbl, w.before args s = true) : ∀ (c : Nat) (q : vw_C), vwCl[c]? = some q → ∃ (cC : ClassId) (iS : Nat → Nat), u_Kn s q.1 q.2.1 q.2.2 cC iS := by
  intro c q hq
  match c, hq with
  | 0, hq => cases hq; exact u_known hts ab_inRX0 (hts _ is_X0)
  | 1, hq => cases hq; exact u_known hts ab_inRX2 (hts _ is_X2)
  | 2, hq => cases hq; exact u_known hts ab_inRX3 (hts _ is_X3)
  | 3, hq => cases hq; exact u_known hts ab_inRX4 (hts _ is_X4)
  | 4, hq => cases hq; exact u_known hts ab_inRX5 (hts _ is_X5)
  | 5, hq => cases hq; exact u_known hts ab_inRX6 (hts _ is_X6)
  | 6, hq => cases hq; exact u_known hts ab_inRX7 (hts _ is_X7)
  | 7, hq => cases hq; exact u_known hts ab_inRX8 (hts _ is_X8)
  | 8, hq => cases hq; exact u_known hts ab_inRX9 (hts _ is_X9)
  | 9, hq => cases hq; exact u_known hts ab_inRX10 (hts _ is_X10)
  | 10, hq => cases hq; exact u_known hts ab_inRX11 (hts _ is_X11)
  | 11, hq => cases hq; exact u_known hts ab_inRX12 (hts _ is_X12)
  | c + 12, hq => simp [vwCl] at hq
theorem st_D {args : Array Value} {s : State} (hts : ∀ w ∈ lw_tbl, w.before args s = true) : ∃ D : va_G, ∀ (c : Nat) (q : vw_C), vwCl[c]? = some q → u_Kn s q.1 q.2.1 q.2.2 (D.1 c) (D.2 c) := by
  have h : ∀ c : Nat, ∃ y : ClassId × (Nat → Nat), ∀ q : vw_C, vwCl[c]? = some q → u_Kn s q.1 q.2.1 q.2.2 y.1 y.2 := by
    intro c
    cases hq : vwCl[c]? with
    | none => exact ⟨(0, fun _ => 0), fun q h9 => by cases h9⟩
    | some q =>
      obtain ⟨cC, iS, hu⟩ := st_cls hts c q hq
      exact ⟨(cC, iS), fun q' h9 => by cases h9; exact hu⟩
  obtain ⟨F, hF⟩ := Classical.axiomOfChoice h
  exact ⟨(fun c => (F c).1, fun c => (F c).2), fun c q hq => hF c q hq⟩
theorem st_ac {args : Array Value} {s : State} {ty : FieldType} (h : (Cond.arrayClass ty).before args s = true) (hty : ∀ cA : ClassId, s.vm.findClass ("[" ++ ty.toString) = some cA → va_RA s cA ty) : ∃ cA : ClassId, ArrOfT s cA ty ∧ va_RA s cA ty := by
  obtain ⟨c, k, comp, h1, h2, h3⟩ := Cond.arrayClass_spec h
  exact ⟨c, fun n z => ⟨fun k h9 => (by cases h9), k, h2, comp, h3⟩, hty c h1⟩
theorem st_ao {args : Array Value} {s : State} {C : String} (h : (Cond.arrayOver (.object C)).before args s = true) : ∃ cA : ClassId, ArrOfT s cA (.object C) ∧ va_RA s cA (.object C) := by
  obtain ⟨comp, c, k, h1, -, h3, h4, h5⟩ := Cond.arrayOver_spec h
  exact ⟨c, fun n z => ⟨fun k h9 => (by cases h9), k, h3, comp, h4⟩, k, comp, h3, h4, h1, h5⟩
theorem st_dA {args : Array Value} {s : State} (hts : ∀ w ∈ lw_tbl, w.before args s = true) : ∃ dA : Nat → ClassId, ∀ (k : Nat) (q : ClassId × FieldType), (ab_ts dA)[k]? = some q → ArrOfT s q.1 q.2 ∧ va_RA s q.1 q.2 := by
  obtain ⟨c0, h0⟩ := st_ac (hts _ ac_int) (fun _ h => h)
  obtain ⟨c1, h1⟩ := st_ac (hts _ ac_long) (fun _ h => h)
  obtain ⟨c2, h2⟩ := st_ac (hts _ ac_boolean) (fun _ h => h)
  obtain ⟨c3, h3⟩ := st_ac (hts _ ac_char) (fun _ h => h)
  obtain ⟨c4, h4⟩ := st_ao (hts _ ao_Rack)
  obtain ⟨c5, h5⟩ := st_ao (hts _ ao_Numbers)
  obtain ⟨c6, h6⟩ := st_ao (hts _ ao_Point)
  obtain ⟨c7, h7⟩ := st_ao (hts _ ao_Triangle)
  refine ⟨fun t => match t with | 0 => c0 | 1 => c1 | 2 => c2 | 3 => c3 | 4 => c4 | 5 => c5 | 6 => c6 | _ => c7, fun k q hq => ?_⟩
  match k, hq with
  | 0, hq => cases hq; exact h0
  | 1, hq => cases hq; exact h1
  | 2, hq => cases hq; exact h2
  | 3, hq => cases hq; exact h3
  | 4, hq => cases hq; exact h4
  | 5, hq => cases hq; exact h5
  | 6, hq => cases hq; exact h6
  | 7, hq => cases hq; exact h7
  | k + 8, hq => simp [ab_ts] at hq
theorem st_static {args : Array Value} {s : State} {n : String} {f : Nat → Int32} (hl : (Cond.laysStatic RX10 n "[I").before args s = true) (hi : (Cond.initialized RX10).before args s = true) (harr : (Cond.arrayOf (.static RX10 n "[I") .int).before args s = true) (hlen : (Cond.eq (.length (.static RX10 n "[I")) (.int 6)).before args s = true) (hel : ∀ j, j < 6 → (Cond.eq (.elem (.static RX10 n "[I") (.int (Int32.ofNat j))) (.int (f j))).before args s = true) : ∃ (t : Nat) (cell : Cell), t < s.heap.size ∧ va_Z RX10 n "[I" (.ref t) (fun q => s.heap.size ≤ q) s s.heap ∧ s.heap[t]? = some cell ∧ (s.isArrayOf cell .int ∧ cell.vm ≠ .unknown) ∧ (6 ≤ cell.slots.size ∧ cell.slots.size.toInt32 = Int32.ofNat 6) ∧ ∀ k, k < 6 → cell.slots[k]? = some (.int (f k)) := by
  obtain ⟨t, ht, cell, h1, h2, h3, h4, h5, h6, -⟩ := va_Tof (N := 6) (A := fun q => s.heap.size ≤ q) (f := fun j => .int (f j)) (by decide) harr (va_eqt hlen) (fun j hj => va_eqt (hel j hj)) (fun a ha => Nat.not_le.mpr ha)
  exact ⟨t, cell, (Array.getElem?_eq_some_iff.mp h1).1, va_Zof hl hi ht (fun a ha => Nat.not_le.mpr ha), h1, ⟨h2, h3⟩, ⟨h4, h5⟩, h6⟩
def st_ka (k : Nat) : Int32 := if k = 0 then -1 else if k = 4 then 1 else if k = 5 then 3 else 0
theorem st_kind_above {args : Array Value} {s : State} (hts : ∀ w ∈ lw_tbl, w.before args s = true) (hs : ∀ w ∈ flatC (Jvm.Cond.and given_1 narrow_1), w.before args s = true) : ∃ (t : Nat) (cell : Cell), t < s.heap.size ∧ va_Z RX10 "KIND_ABOVE" "[I" (.ref t) (fun q => s.heap.size ≤ q) s s.heap ∧ s.heap[t]? = some cell ∧ (s.isArrayOf cell .int ∧ cell.vm ≠ .unknown) ∧ (6 ≤ cell.slots.size ∧ cell.slots.size.toInt32 = Int32.ofNat 6) ∧ ∀ k, k < 6 → cell.slots[k]? = some (.int (st_ka k)) := by
  refine st_static (hts _ (List.mem_of_getElem? (i := 456) (by decide +kernel))) (hts _ it_X10) (hs _ (by decide +kernel)) (hs _ (by decide +kernel)) (fun j hj => ?_)
  match j, hj with
  | 0, _ => show (Cond.eq (.elem (.static RX10 "KIND_ABOVE" "[I") (.int 0)) (.int (-1))).before args s = true; exact hs _ (by decide +kernel)
  | 1, _ => show (Cond.eq (.elem (.static RX10 "KIND_ABOVE" "[I") (.int 1)) (.int 0)).before args s = true; exact hs _ (by decide +kernel)
  | 2, _ => show (Cond.eq (.elem (.static RX10 "KIND_ABOVE" "[I") (.int 2)) (.int 0)).before args s = true; exact hs _ (by decide +kernel)
  | 3, _ => show (Cond.eq (.elem (.static RX10 "KIND_ABOVE" "[I") (.int 3)) (.int 0)).before args s = true; exact hs _ (by decide +kernel)
  | 4, _ => show (Cond.eq (.elem (.static RX10 "KIND_ABOVE" "[I") (.int 4)) (.int 1)).before args s = true; exact hs _ (by decide +kernel)
  | 5, _ => show (Cond.eq (.elem (.static RX10 "KIND_ABOVE" "[I") (.int 5)) (.int 3)).before args s = true; exact hs _ (by decide +kernel)
theorem st_area_times {args : Array Value} {s : State} (hts : ∀ w ∈ lw_tbl, w.before args s = true) (hs : ∀ w ∈ flatC (Jvm.Cond.and given_1 narrow_1), w.before args s = true) : ∃ (t : Nat) (cell : Cell), t < s.heap.size ∧ va_Z RX10 "AREA_TIMES" "[I" (.ref t) (fun q => s.heap.size ≤ q) s s.heap ∧ s.heap[t]? = some cell ∧ (s.isArrayOf cell .int ∧ cell.vm ≠ .unknown) ∧ (6 ≤ cell.slots.size ∧ cell.slots.size.toInt32 = Int32.ofNat 6) ∧ ∀ k, k < 6 → cell.slots[k]? = some (.int ((fun k => nI (tm k)) k)) := by
  refine st_static (hts _ (List.mem_of_getElem? (i := 479) (by decide +kernel))) (hts _ it_X10) (hs _ (by decide +kernel)) (hs _ (by decide +kernel)) (fun j hj => ?_)
  match j, hj with
  | 0, _ => show (Cond.eq (.elem (.static RX10 "AREA_TIMES" "[I") (.int 0)) (.int 1)).before args s = true; exact hs _ (by decide +kernel)
  | 1, _ => show (Cond.eq (.elem (.static RX10 "AREA_TIMES" "[I") (.int 1)) (.int 1)).before args s = true; exact hs _ (by decide +kernel)
  | 2, _ => show (Cond.eq (.elem (.static RX10 "AREA_TIMES" "[I") (.int 2)) (.int 2)).before args s = true; exact hs _ (by decide +kernel)
  | 3, _ => show (Cond.eq (.elem (.static RX10 "AREA_TIMES" "[I") (.int 3)) (.int 1)).before args s = true; exact hs _ (by decide +kernel)
  | 4, _ => show (Cond.eq (.elem (.static RX10 "AREA_TIMES" "[I") (.int 4)) (.int 1)).before args s = true; exact hs _ (by decide +kernel)
  | 5, _ => show (Cond.eq (.elem (.static RX10 "AREA_TIMES" "[I") (.int 5)) (.int 0)).before args s = true; exact hs _ (by decide +kernel)
theorem st_area_divided {args : Array Value} {s : State} (hts : ∀ w ∈ lw_tbl, w.before args s = true) (hs : ∀ w ∈ flatC (Jvm.Cond.and given_1 narrow_1), w.before args s = true) : ∃ (t : Nat) (cell : Cell), t < s.heap.size ∧ va_Z RX10 "AREA_DIVIDED" "[I" (.ref t) (fun q => s.heap.size ≤ q) s s.heap ∧ s.heap[t]? = some cell ∧ (s.isArrayOf cell .int ∧ cell.vm ≠ .unknown) ∧ (6 ≤ cell.slots.size ∧ cell.slots.size.toInt32 = Int32.ofNat 6) ∧ ∀ k, k < 6 → cell.slots[k]? = some (.int ((fun k => nI (dv k)) k)) := by
  refine st_static (hts _ (List.mem_of_getElem? (i := 482) (by decide +kernel))) (hts _ it_X10) (hs _ (by decide +kernel)) (hs _ (by decide +kernel)) (fun j hj => ?_)
  match j, hj with
  | 0, _ => show (Cond.eq (.elem (.static RX10 "AREA_DIVIDED" "[I") (.int 0)) (.int 1)).before args s = true; exact hs _ (by decide +kernel)
  | 1, _ => show (Cond.eq (.elem (.static RX10 "AREA_DIVIDED" "[I") (.int 1)) (.int 2)).before args s = true; exact hs _ (by decide +kernel)
  | 2, _ => show (Cond.eq (.elem (.static RX10 "AREA_DIVIDED" "[I") (.int 2)) (.int 1)).before args s = true; exact hs _ (by decide +kernel)
  | 3, _ => show (Cond.eq (.elem (.static RX10 "AREA_DIVIDED" "[I") (.int 3)) (.int 1)).before args s = true; exact hs _ (by decide +kernel)
  | 4, _ => show (Cond.eq (.elem (.static RX10 "AREA_DIVIDED" "[I") (.int 4)) (.int 4)).before args s = true; exact hs _ (by decide +kernel)
  | 5, _ => show (Cond.eq (.elem (.static RX10 "AREA_DIVIDED" "[I") (.int 5)) (.int 1)).before args s = true; exact hs _ (by decide +kernel)
def st_H (L : Nat) (xs : Nat → Int32) : ab_H := (0, fun _ => (0, 0), fun _ _ => 0, fun _ _ => 0, fun _ _ => 0, fun j => match j with | 1 => (L, xs) | 2 => (6, st_ka) | 3 => (6, fun k => nI (tm k)) | _ => (6, fun k => nI (dv k)))
theorem st_cs (L : Nat) (xs : Nat → Int32) : ab_cs (st_H L xs) := ⟨rfl, rfl, rfl, ⟨rfl, rfl, rfl, rfl, rfl, rfl⟩, fun _ _ => rfl, fun _ _ => rfl⟩
theorem st_world {args : Array Value} {s : State} {b L : Nat} {xs : Nat → Int32} (hL : L ≤ 2560) (hts : ∀ w ∈ lw_tbl, w.before args s = true) (hX : va_X b L xs s s.heap) (hbl : b < s.heap.size) (hgv : (Jvm.Cond.and given_1 narrow_1).before args s = true) : ∃ (ex : Nat → Nat) (eA : Nat → Cell) (dA : Nat → ClassId) (D : va_G), ab_K s.heap.size ex eA dA D s s.heap ∧ ab_rep s.heap.size ex eA dA D (st_H L xs) s.heap ∧ ex 1 = b := by
  obtain ⟨D, hD⟩ := st_D hts
  obtain ⟨dA, hdA⟩ := st_dA hts
  have hs := flat_of_before _ hgv
  obtain ⟨scr, x1, x2, x3, x4, x5⟩ := hX
  obtain ⟨t2, e2, a1, a2, a3, a4, a5, a6⟩ := st_kind_above hts hs
  obtain ⟨t3, e3, b1, b2, b3, b4, b5, b6⟩ := st_area_times hts hs
  obtain ⟨t4, e4, c1, c2, c3, c4, c5, c6⟩ := st_area_divided hts hs
  refine ⟨fun j => match j with | 1 => b | 2 => t2 | 3 => t3 | _ => t4, fun j => match j with | 1 => scr | 2 => e2 | 3 => e3 | _ => e4, dA, D, ⟨⟨hD, hdA⟩, fun j h1 h2 => ?_, ⟨hts _ ao_Rack, hts _ ao_Numbers, hts _ ao_Point, hts _ ao_Triangle⟩, fun j h1 h2 => ?_⟩, ⟨fun k q h => ?_, rfl, fun a h => absurd rfl h, fun j h1 h2 => ?_⟩, rfl⟩
  · match j, h1, h2 with
    | 1, _, _ => exact ⟨x2, x3⟩
    | 2, _, _ => exact a4
    | 3, _, _ => exact b4
    | 4, _, _ => exact c4
  · match j, h1, h2 with
    | 2, _, _ => exact a2
    | 3, _, _ => exact b2
    | 4, _, _ => exact c2
  · have e : ab_ws s.heap.size (fun j => match j with | 1 => b | 2 => t2 | 3 => t3 | _ => t4) dA (st_H L xs) = [] := rfl
    rw [e] at h
    cases h
  · match j, h1, h2 with
    | 1, _, _ => exact ⟨hbl, Nat.lt_of_le_of_lt hL (Nat.lt_of_sub_pos (by decide)), x1, ⟨Nat.le_of_eq x4.symm, congrArg Nat.toInt32 x4⟩, x5⟩
    | 2, _, _ => exact ⟨a1, (by decide : 6 < 2 ^ 31), a3, a5, a6⟩
    | 3, _, _ => exact ⟨b1, (by decide : 6 < 2 ^ 31), b3, b5, b6⟩
    | 4, _, _ => exact ⟨c1, (by decide : 6 < 2 ^ 31), c3, c5, c6⟩
