/-! ===== THE ABSTRACT HEAP: number of cells, shapes, ints, longs, references (0: null), int arrays outside =====
addresses 1 .. 4 are arrays outside (script, three constant arrays), 5 .. are the cells that the run makes, in their order -/
abbrev ab_H : Type := Nat × (Nat → Nat × Nat) × (Nat → Nat → Int32) × (Nat → Nat → Int64) × (Nat → Nat → Nat) × (Nat → Nat × (Nat → Int32))
def ab_n (h : ab_H) : Nat := h.1
def ab_sh (h : ab_H) : Nat → Nat × Nat := h.2.1
def ab_i (h : ab_H) : Nat → Nat → Int32 := h.2.2.1
def ab_l (h : ab_H) : Nat → Nat → Int64 := h.2.2.2.1
def ab_r (h : ab_H) : Nat → Nat → Nat := h.2.2.2.2.1
def ab_e (h : ab_H) : Nat → Nat × (Nat → Int32) := h.2.2.2.2.2
def ab_up {α : Type} (f : Nat → α) (k : Nat) (v : α) : Nat → α := fun j => if j = k then v else f j
theorem ab_up_self {α : Type} (f : Nat → α) (k : Nat) (v : α) : ab_up f k v k = v := if_pos rfl
theorem ab_up_ne {α : Type} (f : Nat → α) {k j : Nat} (v : α) (h : j ≠ k) : ab_up f k v j = f j := if_neg h
/-- an int, a long, a reference is written; a cell is made -/
def ab_si (h : ab_H) (a k : Nat) (v : Int32) : ab_H := (ab_n h, ab_sh h, ab_up (ab_i h) a (ab_up (ab_i h a) k v), ab_l h, ab_r h, ab_e h)
def ab_sl (h : ab_H) (a k : Nat) (v : Int64) : ab_H := (ab_n h, ab_sh h, ab_i h, ab_up (ab_l h) a (ab_up (ab_l h a) k v), ab_r h, ab_e h)
def ab_sr (h : ab_H) (a k : Nat) (v : Nat) : ab_H := (ab_n h, ab_sh h, ab_i h, ab_l h, ab_up (ab_r h) a (ab_up (ab_r h a) k v), ab_e h)
def ab_new (h : ab_H) (s : Nat × Nat) : ab_H := (ab_n h + 1, ab_up (ab_sh h) (5 + ab_n h) s, ab_up (ab_i h) (5 + ab_n h) (fun _ => 0), ab_up (ab_l h) (5 + ab_n h) (fun _ => 0), ab_up (ab_r h) (5 + ab_n h) (fun _ => 0), ab_e h)
/-- a whole row of ints, of longs -/
def ab_sI (h : ab_H) (a : Nat) (f : Nat → Int32) : ab_H := (ab_n h, ab_sh h, ab_up (ab_i h) a f, ab_l h, ab_r h, ab_e h)
def ab_sL (h : ab_H) (a : Nat) (f : Nat → Int64) : ab_H := (ab_n h, ab_sh h, ab_i h, ab_up (ab_l h) a f, ab_r h, ab_e h)
/-! concrete addresses -/
def ab_sg (B : Nat) (ex : Nat → Nat) (a : Nat) : Nat := if a < 5 then ex a else B + (a - 5)
def ab_rf (B : Nat) (ex : Nat → Nat) (a : Nat) : Value := if a = 0 then .null else .ref (ab_sg B ex a)
def ab_vv (B : Nat) (ex : Nat → Nat) (v : Value) : Value := match v with
  | .ref a => ab_rf B ex a
  | w => w
theorem ab_rf_pos {B : Nat} {ex : Nat → Nat} {a : Nat} (h : a ≠ 0) : ab_rf B ex a = .ref (ab_sg B ex a) := if_neg h
theorem ab_rf_cat (B : Nat) (ex : Nat → Nat) (a : Nat) : (ab_rf B ex a).category = 1 := by
  unfold ab_rf; split <;> rfl
theorem ab_vv_cat (B : Nat) (ex : Nat → Nat) (v : Value) : (ab_vv B ex v).category = v.category := by
  cases v <;> first | rfl | exact ab_rf_cat B ex _
/-- a field's value by its type -/
def ab_val (B : Nat) (ex : Nat → Nat) (h : ab_H) (a : Nat) (ty : FieldType) (k : Nat) : Value := match ty with
  | .long => .long (ab_l h a k)
  | .object _ => ab_rf B ex (ab_r h a k)
  | .array _ => ab_rf B ex (ab_r h a k)
  | _ => .int (ab_i h a k)
/-- the class of arrays: 0 int, 1 long, 2 boolean, 3 char, 4 .. 7 rows of Rack, Numbers, Point, Triangle -/
def ab_cell (B : Nat) (ex : Nat → Nat) (dA : Nat → ClassId) (h : ab_H) (a : Nat) : va_E :=
  if (ab_sh h a).1 < 100 then .inr ((ab_sh h a).1 - 1, (List.range (ab_N ((ab_sh h a).1 - 1))).map (fun k => ab_val B ex h a (ab_tys ((ab_sh h a).1 - 1) k) k))
  else if (ab_sh h a).1 = 101 then .inl (dA 1, (ab_sh h a).2, .inr (.inl (ab_l h a)))
  else if (ab_sh h a).1 < 104 then .inl (dA ((ab_sh h a).1 - 100), (ab_sh h a).2, .inl (ab_i h a))
  else .inl (dA ((ab_sh h a).1 - 100), (ab_sh h a).2, .inr (.inr (.inr (.inr (fun k => if ab_r h a k = 0 then none else some (ab_sg B ex (ab_r h a k)))))))
def ab_ws (B : Nat) (ex : Nat → Nat) (dA : Nat → ClassId) (h : ab_H) : va_W := (List.range (ab_n h)).map (fun a => (B + a, ab_cell B ex dA h (a + 5)))
theorem ab_ws_at {B : Nat} {ex : Nat → Nat} {dA : Nat → ClassId} {h : ab_H} {a : Nat} (h1 : 5 ≤ a) (h2 : a < 5 + ab_n h) : (ab_ws B ex dA h)[a - 5]? = some (ab_sg B ex a, ab_cell B ex dA h a) := by
  have e : a - 5 < ab_n h := by omega
  unfold ab_ws
  rw [List.getElem?_map, List.getElem?_range e]
  simp only [Option.map_some, ab_sg]
  rw [if_neg (by omega), show a - 5 + 5 = a by omega]
theorem ab_ws_set {B : Nat} {ex : Nat → Nat} {dA : Nat → ClassId} {h h' : ab_H} {a : Nat} {x : va_E} (h1 : 5 ≤ a) (hn : ab_n h' = ab_n h) (hx : ab_cell B ex dA h' a = x) (hb : ∀ b, b ≠ a → ab_cell B ex dA h' b = ab_cell B ex dA h b) : (ab_ws B ex dA h).set (a - 5) (ab_sg B ex a, x) = ab_ws B ex dA h' := by
  apply List.ext_getElem?
  intro i
  unfold ab_ws
  rw [List.getElem?_set]
  by_cases hi : a - 5 = i
  · subst hi
    rw [if_pos rfl, hn]
    by_cases hl : a - 5 < ab_n h
    · simp only [List.length_map, List.length_range, hl, if_true, List.getElem?_map, List.getElem?_range hl, Option.map_some]
      rw [show a - 5 + 5 = a by omega, hx]
      simp only [ab_sg]
      rw [if_neg (by omega)]
    · simp [hl]
  · rw [if_neg hi, hn, List.getElem?_map, List.getElem?_map]
    by_cases hl : i < ab_n h
    · rw [List.getElem?_range hl]
      simp only [Option.map_some]
      rw [hb (i + 5) (by omega)]
    · simp [hl]
theorem ab_ws_new {B : Nat} {ex : Nat → Nat} {dA : Nat → ClassId} {h : ab_H} {s : Nat × Nat} {x : va_E} (hx : ab_cell B ex dA (ab_new h s) (5 + ab_n h) = x) : ab_ws B ex dA h ++ [(B + ab_n h, x)] = ab_ws B ex dA (ab_new h s) := by
  have e : ab_n (ab_new h s) = ab_n h + 1 := rfl
  unfold ab_ws
  rw [e, List.range_succ, List.map_append]
  congr 1
  · apply List.map_congr_left
    intro i hi
    have hl : i < ab_n h := List.mem_range.mp hi
    have e1 : ab_sh (ab_new h s) (i + 5) = ab_sh h (i + 5) := ab_up_ne _ _ (by omega)
    have e2 : ab_i (ab_new h s) (i + 5) = ab_i h (i + 5) := ab_up_ne _ _ (by omega)
    have e3 : ab_l (ab_new h s) (i + 5) = ab_l h (i + 5) := ab_up_ne _ _ (by omega)
    have e4 : ab_r (ab_new h s) (i + 5) = ab_r h (i + 5) := ab_up_ne _ _ (by omega)
    simp only [ab_cell, ab_val, e1, e2, e3, e4]
  · simp only [List.map_cons, List.map_nil]
    rw [show ab_n h + 5 = 5 + ab_n h by omega, hx]
theorem ab_cell_si_ne {B : Nat} {ex : Nat → Nat} {dA : Nat → ClassId} {h : ab_H} {a k : Nat} {v : Int32} (b : Nat) (hb : b ≠ a) : ab_cell B ex dA (ab_si h a k v) b = ab_cell B ex dA h b := by
  have e1 : ab_sh (ab_si h a k v) = ab_sh h := rfl
  have e2 : ab_i (ab_si h a k v) b = ab_i h b := ab_up_ne _ _ hb
  have e3 : ab_l (ab_si h a k v) = ab_l h := rfl
  have e4 : ab_r (ab_si h a k v) = ab_r h := rfl
  simp only [ab_cell, ab_val, e1, e2, e3, e4]
theorem ab_cell_sl_ne {B : Nat} {ex : Nat → Nat} {dA : Nat → ClassId} {h : ab_H} {a k : Nat} {v : Int64} (b : Nat) (hb : b ≠ a) : ab_cell B ex dA (ab_sl h a k v) b = ab_cell B ex dA h b := by
  have e1 : ab_sh (ab_sl h a k v) = ab_sh h := rfl
  have e2 : ab_i (ab_sl h a k v) = ab_i h := rfl
  have e3 : ab_l (ab_sl h a k v) b = ab_l h b := ab_up_ne _ _ hb
  have e4 : ab_r (ab_sl h a k v) = ab_r h := rfl
  simp only [ab_cell, ab_val, e1, e2, e3, e4]
theorem ab_cell_sr_ne {B : Nat} {ex : Nat → Nat} {dA : Nat → ClassId} {h : ab_H} {a k : Nat} {v : Nat} (b : Nat) (hb : b ≠ a) : ab_cell B ex dA (ab_sr h a k v) b = ab_cell B ex dA h b := by
  have e1 : ab_sh (ab_sr h a k v) = ab_sh h := rfl
  have e2 : ab_i (ab_sr h a k v) = ab_i h := rfl
  have e3 : ab_l (ab_sr h a k v) = ab_l h := rfl
  have e4 : ab_r (ab_sr h a k v) b = ab_r h b := ab_up_ne _ _ hb
  simp only [ab_cell, ab_val, e1, e2, e3, e4]
theorem ab_cell_sI_ne {B : Nat} {ex : Nat → Nat} {dA : Nat → ClassId} {h : ab_H} {a : Nat} {f : Nat → Int32} (b : Nat) (hb : b ≠ a) : ab_cell B ex dA (ab_sI h a f) b = ab_cell B ex dA h b := by
  have e1 : ab_sh (ab_sI h a f) = ab_sh h := rfl
  have e2 : ab_i (ab_sI h a f) b = ab_i h b := ab_up_ne _ _ hb
  have e3 : ab_l (ab_sI h a f) = ab_l h := rfl
  have e4 : ab_r (ab_sI h a f) = ab_r h := rfl
  simp only [ab_cell, ab_val, e1, e2, e3, e4]
theorem ab_cell_sL_ne {B : Nat} {ex : Nat → Nat} {dA : Nat → ClassId} {h : ab_H} {a : Nat} {f : Nat → Int64} (b : Nat) (hb : b ≠ a) : ab_cell B ex dA (ab_sL h a f) b = ab_cell B ex dA h b := by
  have e1 : ab_sh (ab_sL h a f) = ab_sh h := rfl
  have e2 : ab_i (ab_sL h a f) = ab_i h := rfl
  have e3 : ab_l (ab_sL h a f) b = ab_l h b := ab_up_ne _ _ hb
  have e4 : ab_r (ab_sL h a f) = ab_r h := rfl
  simp only [ab_cell, ab_val, e1, e2, e3, e4]
/-- an object's cell, and it with a field written -/
theorem ab_cell_obj {B : Nat} {ex : Nat → Nat} {dA : Nat → ClassId} {h : ab_H} {a ci x : Nat} (hs : ab_sh h a = (ci + 1, x)) (hci : ci < 12) : ab_cell B ex dA h a = .inr (ci, (List.range (ab_N ci)).map (fun k => ab_val B ex h a (ab_tys ci k) k)) := by
  unfold ab_cell
  rw [hs]
  simp only [Nat.add_sub_cancel]
  rw [if_pos (by omega)]
theorem ab_range_set {α : Type} (n k : Nat) (f g : Nat → α) (hk : ∀ j, j ≠ k → g j = f j) : ((List.range n).map f).set k (g k) = (List.range n).map g := by
  apply List.ext_getElem?
  intro i
  rw [List.getElem?_set]
  by_cases hi : k = i
  · subst hi
    rw [if_pos rfl]
    by_cases hl : k < n
    · simp [hl]
    · simp [hl]
  · rw [if_neg hi, List.getElem?_map, List.getElem?_map]
    by_cases hl : i < n
    · rw [List.getElem?_range hl]
      simp only [Option.map_some]
      rw [hk i (fun q => hi q.symm)]
    · simp [hl]
/-! ===== THE HEAP THAT HOLDS IT ===== -/
theorem ab_D {B : Nat} {ex : Nat → Nat} {dA : Nat → ClassId} {h : ab_H} : va_D (fun q => B ≤ q) (ab_ws B ex dA h) := by
  have key : ∀ (k : Nat) (q : Nat × va_E), (ab_ws B ex dA h)[k]? = some q → q.1 = B + k := by
    intro k q hq
    unfold ab_ws at hq
    rw [List.getElem?_map] at hq
    by_cases hl : k < ab_n h
    · rw [List.getElem?_range hl] at hq
      simp only [Option.map_some, Option.some.injEq] at hq
      rw [← hq]
    · rw [List.getElem?_eq_none (by simp; omega)] at hq
      cases hq
  refine ⟨fun i j p q hp hq hpq => ?_, fun k q hq => ?_⟩
  · have := key i p hp
    have := key j q hq
    omega
  · rw [key k q hq]; exact Nat.le_add_right _ _
/-- the rows of arrays -/
abbrev ab_ts (dA : Nat → ClassId) : List (ClassId × FieldType) := [(dA 0, .int), (dA 1, .long), (dA 2, .boolean), (dA 3, .char), (dA 4, .object RX7), (dA 5, .object RX5), (dA 6, .object RX6), (dA 7, .object RX10)]
/-- the constant arrays: their names -/
def ab_sn (j : Nat) : String := match j with
  | 2 => "KIND_ABOVE"
  | 3 => "AREA_TIMES"
  | _ => "AREA_DIVIDED"
/-- what a state knows of classes and statics -/
def ab_K (B : Nat) (ex : Nat → Nat) (eA : Nat → Cell) (dA : Nat → ClassId) (D : va_G) (U : State) (H : Heap) : Prop :=
  va_K D vwCl (ab_ts dA) U ∧ (∀ j, 1 ≤ j → j < 5 → U.isArrayOf (eA j) .int ∧ (eA j).vm ≠ .unknown) ∧ (va_AO RX7 U ∧ va_AO RX5 U ∧ va_AO RX6 U ∧ va_AO RX10 U) ∧ ∀ j, 2 ≤ j → j < 5 → va_Z RX10 (ab_sn j) "[I" (.ref (ex j)) (fun q => B ≤ q) U H
def ab_rep (B : Nat) (ex : Nat → Nat) (eA : Nat → Cell) (dA : Nat → ClassId) (D : va_G) (h : ab_H) (H : Heap) : Prop :=
  va_P D vwCl (ab_ws B ex dA h) H ∧ H.size = B + ab_n h ∧ (∀ a, (ab_sh h a).1 ≠ 0 → 5 ≤ a ∧ a < 5 + ab_n h) ∧ ∀ j, 1 ≤ j → j < 5 → ex j < B ∧ (ab_e h j).1 < 2 ^ 31 ∧ H[ex j]? = some (eA j) ∧ ((ab_e h j).1 ≤ (eA j).slots.size ∧ (eA j).slots.size.toInt32 = Int32.ofNat (ab_e h j).1) ∧ ∀ k, k < (ab_e h j).1 → (eA j).slots[k]? = some (.int ((ab_e h j).2 k))
