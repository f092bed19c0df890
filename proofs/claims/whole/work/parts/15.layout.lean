/-! ===== layouts ===== -/
def at_Board (sh : Nat → Nat × Nat) (rr : Nat → Nat → Nat) (r : Nat) : Prop := sh r = (0 + 1, 0) ∧ rr r 5 = r + 1 ∧ sh (r + 1) = (100, 256) ∧ rr r 6 = r + 2 ∧ sh (r + 2) = (100, 85) ∧ rr r 7 = r + 3 ∧ sh (r + 3) = (100, 85) ∧ rr r 8 = r + 4 ∧ sh (r + 4) = (100, 85) ∧ rr r 9 = r + 5 ∧ sh (r + 5) = (100, 85) ∧ rr r 10 = r + 6 ∧ sh (r + 6) = (102, 85)
def at_Rule (sh : Nat → Nat × Nat) (rr : Nat → Nat → Nat) (r : Nat) : Prop := sh r = (7 + 1, 0) ∧ rr r 0 = r + 1 ∧ sh (r + 1) = (100, 16) ∧ rr r 1 = r + 2 ∧ sh (r + 2) = (101, 4) ∧ rr r 2 = r + 3 ∧ sh (r + 3) = (101, 4) ∧ rr r 3 = r + 4 ∧ sh (r + 4) = (100, 16) ∧ rr r 4 = r + 5 ∧ sh (r + 5) = (100, 16)
def at_Shapes (sh : Nat → Nat × Nat) (rr : Nat → Nat → Nat) (r : Nat) : Prop := sh r = (8 + 1, 0) ∧ rr r 0 = r + 1 ∧ sh (r + 1) = (106, 10) ∧ rr r 1 = r + 2 ∧ sh (r + 2) = (107, 10)
def at_Letters (sh : Nat → Nat × Nat) (rr : Nat → Nat → Nat) (r : Nat) : Prop := sh r = (3 + 1, 0) ∧ rr r 2 = r + 1 ∧ sh (r + 1) = (100, 12) ∧ rr r 3 = r + 2 ∧ sh (r + 2) = (103, 72)
def at_Rack (sh : Nat → Nat × Nat) (rr : Nat → Nat → Nat) (r : Nat) : Prop := sh r = (6 + 1, 0) ∧ rr r 0 = r + 1 ∧ sh (r + 1) = (107, 9)
def at_Numbers (sh : Nat → Nat × Nat) (rr : Nat → Nat → Nat) (r : Nat) : Prop := sh r = (4 + 1, 0) ∧ rr r 0 = r + 1 ∧ sh (r + 1) = (100, 40)
theorem at_Board.fr {S : List Nat} {h h1 : ab_H} {r : Nat} (f : ab_fr S h h1) (H : at_Board (ab_sh h) (ab_r h) r) : at_Board (ab_sh h1) (ab_r h1) r := by rw [f.2.1, f.2.2.1]; exact H
theorem at_Rule.fr {S : List Nat} {h h1 : ab_H} {r : Nat} (f : ab_fr S h h1) (H : at_Rule (ab_sh h) (ab_r h) r) : at_Rule (ab_sh h1) (ab_r h1) r := by rw [f.2.1, f.2.2.1]; exact H
theorem at_Shapes.fr {S : List Nat} {h h1 : ab_H} {r : Nat} (f : ab_fr S h h1) (H : at_Shapes (ab_sh h) (ab_r h) r) : at_Shapes (ab_sh h1) (ab_r h1) r := by rw [f.2.1, f.2.2.1]; exact H
theorem at_Letters.fr {S : List Nat} {h h1 : ab_H} {r : Nat} (f : ab_fr S h h1) (H : at_Letters (ab_sh h) (ab_r h) r) : at_Letters (ab_sh h1) (ab_r h1) r := by rw [f.2.1, f.2.2.1]; exact H
theorem at_Rack.fr {S : List Nat} {h h1 : ab_H} {r : Nat} (f : ab_fr S h h1) (H : at_Rack (ab_sh h) (ab_r h) r) : at_Rack (ab_sh h1) (ab_r h1) r := by rw [f.2.1, f.2.2.1]; exact H
theorem at_Numbers.fr {S : List Nat} {h h1 : ab_H} {r : Nat} (f : ab_fr S h h1) (H : at_Numbers (ab_sh h) (ab_r h) r) : at_Numbers (ab_sh h1) (ab_r h1) r := by rw [f.2.1, f.2.2.1]; exact H
theorem ab_mem1 {a : Nat} : a ∈ [a] := List.mem_cons_self
theorem ab_l_fr {S : List Nat} {h h1 : ab_H} (f : ab_fr S h h1) {a : Nat} (ha : a ∉ S) : ab_l h1 a = ab_l h a := (f.2.2.2.2 a ha).2
theorem ab_i_fr {S : List Nat} {h h1 : ab_H} (f : ab_fr S h h1) {a : Nat} (ha : a ∉ S) : ab_i h1 a = ab_i h a := (f.2.2.2.2 a ha).1
/-- a store at place i, where all places below i are as said -/
theorem ab_sl_next {h1 : ab_H} {a i : Nat} {v : Int64} {P : Nat → Int64} (hl : ∀ t, t < i → ab_l h1 a t = P t) (hv : v = P i) : ∀ t, t < i + 1 → ab_l (ab_sl h1 a i v) a t = P t := by
  intro t ht
  rw [ab_l_sl, if_pos rfl, ab_up_at]
  by_cases e : t = i
  · rw [if_pos e, hv, e]
  · rw [if_neg e]; exact hl t (by omega)
theorem ab_si_next {h1 : ab_H} {a i : Nat} {v : Int32} {P : Nat → Int32} (hl : ∀ t, t < i → ab_i h1 a t = P t) (hv : v = P i) : ∀ t, t < i + 1 → ab_i (ab_si h1 a i v) a t = P t := by
  intro t ht
  rw [ab_i_si, if_pos rfl, ab_up_at]
  by_cases e : t = i
  · rw [if_pos e, hv, e]
  · rw [if_neg e]; exact hl t (by omega)
