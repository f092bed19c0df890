/-! ===== the law: one call of both ===== -/
theorem oX_gr {S T : List Nat} {h h1 : ab_H} {K : ab_H → Prop} {o : Nat ⊕ Int32} {v : Int32} (hq : ab_oX 37 (ab_gr [] [] h) K o v h1) (hK : K h1 → ab_gr S T h h1) : ab_gr (37 :: S) T h h1 := by
  cases o with
  | inl c =>
    obtain ⟨-, h0, g, e⟩ := hq
    rw [e]
    exact (g.mono (fun _ q => by cases q) (fun _ q => by cases q)).siN _ _ (Or.inl List.mem_cons_self)
  | inr x => exact (hK hq.2).mono (fun _ q => List.mem_cons_of_mem _ q) (fun _ q => q)
theorem oX_fM {S K0 : List Nat} {h h1 : ab_H} {K : ab_H → Prop} {o : Nat ⊕ Int32} {v : Int32} (hq : ab_oX 51 (ab_fM [] [] h) K o v h1) (hK : K h1 → ab_fM S K0 h h1) : ab_e h1 = ab_e h := by
  cases o with
  | inl c =>
    obtain ⟨-, h0, g, e⟩ := hq
    rw [e]
    exact g.2.2.2.1
  | inr x => exact (hK hq.2).2.2.2.1
theorem both_I {W : wS} {h h1 h2 : ab_H} {KC KM : ab_H → Prop} {o : Nat ⊕ Int32} {v1 v2 : Int32} (H : INV W h) (hq1 : ab_oX 37 (ab_gr [] [] h) KC o v1 h1) (hq2 : ab_oX 51 (ab_fM [] [] h1) KM o v2 h2) (ok : ∀ x, o = .inr x → KC h1 → KM h2 → ∃ W', INV W' h2) : v1 = v2 ∧ ∃ W', INV W' h2 := by
  cases o with
  | inl c =>
    obtain ⟨e1, h0, g, e2⟩ := hq1
    obtain ⟨e3, h3, f, e4⟩ := hq2
    exact ⟨e1.trans e3.symm, W, INV_no H g e2 f e4⟩
  | inr x => exact ⟨hq1.1.trans hq2.1.symm, ok x rfl hq1.2 hq2.2⟩
theorem iC_le {S : List Nat} {W : wS} {e : eS} {h h1 : ab_H} (f : ab_gr S [] h h1) (hb : ab_bs h) (hS : ∀ a, a ∈ S → a = 22 ∨ a = 24) (H : iC W h) (c : le_C e h1) : iC (W.1, e, W.2.2) h1 :=
  ⟨H.1.gr f hb (fun a z => by have := hS a z; omega) (fun a z => by cases z), c, H.2.2.1.gr f hb (fun a z => by have := hS a z; omega) (fun a z => by cases z) (fun z => by have := hS 25 z; omega) (fun z => by have := hS 27 z; omega) (fun z => by have := hS 32 z; omega) (by simp) (by simp), H.2.2.2.1.gr f hb (fun a z => by have := hS a z; omega) (fun a z => by cases z) (fun a q1 q2 q3 z => by have := hS a z; omega) (fun a _ _ _ z => by cases z), H.2.2.2.2.gr f hb (fun a q1 q2 q3 z => by have := hS a z; omega)⟩
theorem iM_le {W : wS} {e : eS} {h h1 : ab_H} (f : ab_fM [71] [29] h h1) (H : iM W h) (c : le_M e h1) : iM (W.1, e, W.2.2) h1 :=
  ⟨H.1.fM f (fun a z => by have := List.mem_singleton.mp z; omega) (fun k z => by have := List.mem_singleton.mp z; omega), c, H.2.2.1.fM f (fun a q1 q2 z => by have := List.mem_singleton.mp z; omega) (fun k q1 q2 z => by have := List.mem_singleton.mp z; omega), H.2.2.2.1.fM f (fun a q1 q2 z => by have := List.mem_singleton.mp z; omega), H.2.2.2.2.fM f (by simp) (by simp)⟩
set_option maxRecDepth 100000 in
set_option maxHeartbeats 4000000 in
theorem law_0 {k b i : Nat} {h : ab_H} {W : wS} {post : Value → ab_H → Prop} (hk : 12 ≤ k) (H : INV W h) (hn : (ab_e h 1).1 < 2147483648) (hi : i + 5 ≤ (ab_e h 1).1) (cont : ∀ (W' : wS) (h' : ab_H), INV W' h' → ab_e h' = ab_e h → ab_R k (b - 110) mL_law 1396 [some (.ref 1), some (.ref 5), some (.ref 50), some (.int (nI i))] [] h' post) : ab_R k b mL_law 192 [some (.ref 1), some (.ref 5), some (.ref 50), some (.int (nI i))] [] h post := by
  refine ab_aload_n dL_law_192 rfl ?_
  refine ab_aload_n dL_law_193 rfl ?_
  refine ab_iload_n dL_law_194 rfl ?_
  refine ab_iconst (v := nI 1) dL_law_195 (by decide) ?_
  refine ab_naddR dL_law_196 ?_
  refine ab_eald dL_law_197 rfl (by omega) rfl ?_
  refine ab_callVi [_] dL_law_198 ml_L_13 mk_X11_letter H.2.2.1.hs (c_letter (k := 1) (b := 0) (Nat.le_refl _) H.2.2.1 H.2.2.2.2.1.2.1) (fun v1 h1 hq1 => ?_)
  have g1 := oX_gr (S := [22, 24]) (T := []) hq1 (fun q => ab_gr.of q.1)
  have ee1 := g1.2.1
  obtain ⟨hM1, hI1⟩ := INV_mid H g1 (by intro a z; simp at z; omega) (fun a z => by cases z)
  refine ab_aload_n dL_law_201 rfl ?_
  refine ab_aload_n dL_law_202 rfl ?_
  refine ab_iload_n dL_law_203 rfl ?_
  refine ab_iconst (v := nI 1) dL_law_204 (by decide) ?_
  refine ab_naddR dL_law_205 ?_
  refine ab_eald dL_law_206 rfl (by rw [ee1]; omega) (show _ = (ab_e h 1).2 (i + 1) by rw [ee1]) ?_
  refine ab_callVi [_] dL_law_207 ml_L_17 mk_X12_letter hM1.hs (m_letter (k := 1) (b := 0) (Nat.le_refl _) hM1 hI1.2.1) (fun v2 h2 hq2 => ?_)
  have ee2 := (oX_fM hq2 (fun q => q.1)).trans ee1
  obtain ⟨ev, W2, H2⟩ := both_I H hq1 hq2 (fun x _ q1 q2 => ⟨(W.1, eU W.2.1 ((ab_e h 1).2 (i + 1)).toNatClampNeg, W.2.2), INV_ok H (ab_gr.of q1.1) (by intro a z; simp at z; omega) (fun a z => by cases z) (iC_le (ab_gr.of q1.1) H.1 (by intro a z; simp at z; omega) H.2.2.2.2.1 q1.2) q2.1 (by intro a z; simp at z; omega) (iM_le q2.1 hI1 q2.2)⟩)
  refine ab_icmp_eq 1396 dL_law_210 (by decide) (fun c_210 => ?_) (fun c_210 => ?_)
  · skip
    exact ab_less (by omega) (cont W2 h2 H2 ee2)
  · skip
    exact absurd ev c_210
