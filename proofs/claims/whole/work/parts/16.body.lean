/-! what the bodies of choice, not and test answer -/
def bQ (E : EE) (i : Nat) (S : Int64) (r : RR) (L : List (Nat × Int64 × List Nat)) (t : Nat) (sc : aS) (v : Option aV) (s' : aS) : Prop := TF E i sc s' ∧ ((norm t r.2 sc s' ∧ (match r.1 with
  | .inl B => v = some (vI 1) ∧ s'.2.1 0 i 14 = B ∧ s'.2.1 0 i 13 = S ∧ gd E s' L
  | .inr k => v = some (vI 0) ∧ s'.1 0 i 16 = nI k)) ∨ over t r.2 v s')
theorem bQ_cQ {E : EE} {i f t : Nat} {S : Int64} {r : RR} {L : List (Nat × Int64 × List Nat)} {st s' : aS} {v : Option aV} (h1 : tryF E (f + 1) i S = (r.1, 1 + r.2)) (h2 : finF E (f + 1) i S = (i, S, []) :: L) (h3 : eS E i ≠ 0) (h4 : eS E i ≤ 3) (h : bQ E i S r L (t + 1) st v s') : cQ E i S (f + 1) t st v s' := by
  unfold cQ rQ
  rw [h1, h2]
  obtain ⟨a0, a1⟩ := h
  refine ⟨a0, ?_⟩
  rcases a1 with ⟨a1, a2⟩ | a1
  · refine Or.inl ⟨⟨by have := a1.1; show t + (1 + _) ≤ _; omega, by rw [a1.2.1, Nat.add_assoc], a1.2.2⟩, ?_⟩
    show match r.1 with | .inl B => _ | .inr k => _
    cases hr : r.1 with
    | inl B =>
      rw [hr] at a2
      exact ⟨a2.1, a2.2.1, a2.2.2.1, gd.cons a2.2.2.1 (fun z => absurd z (by show ¬ 3 < eS E i; omega)) (fun z => absurd z h3) a2.2.2.2⟩
    | inr k =>
      rw [hr] at a2
      exact a2
  · exact Or.inr ⟨by have := a1.1; show 20000 < t + (1 + _); omega, a1.2⟩
theorem bQ_step {E : EE} {i c t : Nat} {S : Int64} {r : RR} {L : List (Nat × Int64 × List Nat)} {sc s2 s' : aS} {v : Option aV} (tf : TF E i sc s2) (hn : norm t c sc s2) (h : bQ E i S r L (t + c) s2 v s') : bQ E i S (r.1, c + r.2) L t sc v s' := by
  obtain ⟨a0, a1⟩ := h
  refine ⟨tf.tr a0, ?_⟩
  rcases a1 with ⟨a1, a2⟩ | a1
  · exact Or.inl ⟨⟨by rw [← Nat.add_assoc]; exact a1.1, by rw [← Nat.add_assoc]; exact a1.2.1, a1.2.2.trans hn.2.2⟩, a2⟩
  · exact Or.inr ⟨by have := a1.1; show 20000 < t + (c + _); omega, a1.2⟩
theorem bQ_fail {E : EE} {i p f t : Nat} {S S2 : Int64} {r : RR} {L : List (Nat × Int64 × List Nat)} {sc s' : aS} (h : pQ E i p S2 f t sc (some (vI 0)) s') (hr : ∀ k, (tryF E f p S2).1 = .inr k → r = (.inr k, (tryF E f p S2).2)) (hc : (tryF E f p S2).2 ≤ r.2) : bQ E i S r L t sc (some (vI 0)) s' := by
  rcases h with ⟨B, e1, e2, -⟩ | ⟨-, tf, ⟨k, a1, a2, a3⟩ | ⟨a1, a2, a3⟩⟩
  · simp at e2
  · rw [hr k a1]
    exact ⟨tf, Or.inl ⟨a2, rfl, a3⟩⟩
  · exact ⟨tf, Or.inr ⟨by omega, a2, a3, rfl⟩⟩
theorem pQ_v {E : EE} {i p f t : Nat} {S : Int64} {st s' : aS} {v : Option aV} (h : pQ E i p S f t st v s') : ∃ b : Int32, v = some (vI b) ∧ (b = 0 ∨ b = 1) := by
  rcases h with ⟨B, -, e, -⟩ | ⟨e, -⟩
  · exact ⟨1, e, Or.inr rfl⟩
  · exact ⟨0, e, Or.inl rfl⟩
theorem pQ_1 {E : EE} {i p f t : Nat} {S : Int64} {st s' : aS} {b : Int32} (h : pQ E i p S f t st (some (vI b)) s') (hb : ¬ b = 0) : ∃ B, (tryF E f p S).1 = .inl B ∧ norm t (tryF E f p S).2 st s' ∧ TF E p st s' ∧ s'.2.1 0 p 14 = B ∧ s'.2.1 0 p 13 = S ∧ gd E s' (finF E f p S) := by
  rcases h with ⟨B, e1, -, e3⟩ | ⟨e, -⟩
  · exact ⟨B, e1, e3⟩
  · exact absurd (by simpa using e) hb
theorem pQ_0 {E : EE} {i p f t : Nat} {S : Int64} {st s' : aS} {b : Int32} (h : pQ E i p S f t st (some (vI b)) s') (hb : b = 0) : pQ E i p S f t st (some (vI 0)) s' := by
  rw [← hb]
  exact h
/-- the last step of choice and test -/
theorem bQ_join {E : EE} {i t : Nat} {S O e s : Int64} {L : List (Nat × Int64 × List Nat)} {sc s' : aS} {v : Option aV} (hT : TR E) (hi : i < eN E) (hL : ∀ q ∈ L, (q.1 ≠ i)) (hg : gd E sc L) (htr : sc.1 3 0 2 = nI t) (ht : t ≤ 20000) (hA : sc.2.1 0 i 13 = S) (h16 : sc.1 0 i 16 = nI i) (h : jQ sc i (joinF i S O e s) v s') : bQ E i S (joinF i S O e s, 0) L t sc v s' := by
  by_cases hj : (O &&& nt S) &&& s &&& nt e = 0
  · rw [show joinF i S O e s = .inl (S ||| ((O &&& nt S) &&& s)) from if_pos hj] at h ⊢
    obtain ⟨rfl, rfl⟩ := h
    exact ⟨TF.pL subP_self (Or.inr rfl), Or.inl ⟨⟨ht, htr, rfl⟩, rfl, sL_eq, (sL_ne (by omega)).trans hA, hg.keep (fun q hq => ⟨sL_ne (fun z => hL q hq z.2.1), rfl, rfl⟩) (fun _ _ _ _ => rfl)⟩⟩
  · rw [show joinF i S O e s = .inr i from if_neg hj] at h ⊢
    obtain ⟨rfl, rfl⟩ := h
    exact ⟨TF.rf, Or.inl ⟨⟨ht, htr, rfl⟩, rfl, h16⟩⟩
theorem finF_ne {E : EE} (hT : TR E) {i p f : Nat} {S : Int64} (hi : i < eN E) (hp : p ∈ eK E i) : ∀ q ∈ finF E f p S, q.1 ≠ i := fun q hq e => by
  have h1 := subP_gt hT.2.1 (finF_sub hT f (hT.kid hi hp).1 q hq).1
  have := (hT.kid hi hp).2.1
  omega
