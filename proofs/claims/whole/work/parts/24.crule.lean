/-! ===== the class: the rule ===== -/
theorem ab_tf {t : Bool} (h1 : t = true) (h2 : t = false) : False := by rw [h1] at h2; cases h2
/-- as ab_oI, what an answered call does being K -/
def ab_oK (F : Nat) (K : ab_H → Prop) (h : ab_H) (o : Nat ⊕ Int32) (v : Int32) (h' : ab_H) : Prop := match o with
  | .inl c => v = -(nI c) ∧ h' = ab_si h F c (ab_i h F c + 1)
  | .inr x => v = x ∧ K h'
theorem ab_oK_no {F : Nat} {K : ab_H → Prop} {h : ab_H} {o : Nat ⊕ Int32} {c : Nat} {v : Int32} {h' : ab_H} (e : o = .inl c) (hv : v = -(nI c)) (hh : h' = ab_si h F c (ab_i h F c + 1)) : ab_oK F K h o v h' := by rw [e]; exact ⟨hv, hh⟩
theorem ab_oK_ok {F : Nat} {K : ab_H → Prop} {h : ab_H} {o : Nat ⊕ Int32} {v : Int32} {h' : ab_H} (e : o = .inr v) (f : K h') : ab_oK F K h o v h' := by rw [e]; exact ⟨rfl, f⟩
theorem ab_inr_true {n : Nat} {w : Nat} (h : w ≤ n) (hn : n < 2147483648) : ab_inr 0 n (nI w) = true := ab_inr_ok (by rw [nI_toInt (by omega)]; omega) (by rw [nI_toInt (by omega)]; omega)
