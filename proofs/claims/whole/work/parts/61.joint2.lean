/-! BOTH TOGETHER, call by call -/
def JE (st : aS) : Prop := ∃ (E : EE) (rm : Nat) (rv : Nat → Nat) (g w : Int64) (od sk : Int32), JI E rm rv g w od sk st
def eSetO (E : EE) (o : Nat → Int64) : EE := (E.1, E.2.1, E.2.2.1, E.2.2.2.1, E.2.2.2.2.1, E.2.2.2.2.2.1, E.2.2.2.2.2.2.1, E.2.2.2.2.2.2.2.1, o, E.2.2.2.2.2.2.2.2.2)
def eSetP (E : EE) (np : Nat) (ar md : Nat → Nat) (ou : Nat → Nat → Int32) : EE := (E.1, E.2.1, E.2.2.1, E.2.2.2.1, E.2.2.2.2.1, E.2.2.2.2.2.1, E.2.2.2.2.2.2.1, E.2.2.2.2.2.2.2.1, E.2.2.2.2.2.2.2.2.1, E.2.2.2.2.2.2.2.2.2.1, np, ar, md, ou)
def eNew (np : Nat) (ar md : Nat → Nat) (ou : Nat → Nat → Int32) : EE := (1, fun _ => 0, fun _ => [], fun _ => 0, fun _ => 0, fun _ => 0, fun _ _ => 0, fun _ => 0, fun _ => 0, fun _ => 0, np, ar, md, ou)
section JJ
variable {E : EE} {rm : Nat} {rv : Nat → Nat} {g w : Int64} {od sk : Int32} {st s' : aS}
/-- of the class only its own object's ints and longs and the row may differ -/
def EqK (st s' : aS) : Prop := (∀ a b c, a ≠ 4 → a ≠ 11 → s'.1 a b c = st.1 a b c) ∧ (∀ a b c, a ≠ 4 → s'.2.1 a b c = st.2.1 a b c) ∧ s'.2.2 = st.2.2
theorem CN.k (h : CN E w st) (q : EqK st s') : CN E w s' := by
  intro i hi
  obtain ⟨a1, a2, a3, a4, a5, a6, a7, a8, a9, a10, a11⟩ := h i hi
  have r : ∀ j c, s'.2.2.1 0 j c = st.2.2.1 0 j c := fun j c => congrArg (fun z => z.1 0 j c) q.2.2
  exact ⟨(q.1 0 i 3 (by omega) (by omega)).trans a1, (q.1 0 i 5 (by omega) (by omega)).trans a2, (q.1 0 i 6 (by omega) (by omega)).trans a3, (r i 7).trans a4, (r i 8).trans a5, (r i 9).trans a6, fun k p hk => (r p 10).trans (a7 k p hk), (q.2.1 0 i 11 (by omega)).trans a8, by rw [q.2.1 0 i 12 (by omega)]; exact a9, ⟨(q.1 0 i 2 (by omega) (by omega)).trans a10.1, a10.2.1, (r i 1).trans a10.2.2.1, fun k hk => ⟨(q.1 6 i k (by omega) (by omega)).trans (a10.2.2.2 k hk).1, (a10.2.2.2 k hk).2⟩⟩, fun z => (q.1 0 i 4 (by omega) (by omega)).trans (a11 z)⟩
theorem CA.k (h : CA E st) (h22 : s'.2.2 = st.2.2) (h1 : ∀ i, s'.1 0 i 0 = st.1 0 i 0) : CA E s' := by
  unfold CA
  rw [h22]
  exact ⟨h.1, h.2.1, h.2.2.1, h.2.2.2.1, fun i hi => ⟨(h1 i).trans (h.2.2.2.2 i hi).1, (h.2.2.2.2 i hi).2⟩⟩
theorem CF.k (h : CF st) (h22 : s'.2.2 = st.2.2) : CF s' := by
  unfold CF
  rw [h22]
  exact h
theorem pR.k {np : Nat} {ar md : Nat → Nat} {ou : Nat → Nat → Int32} (h : pR st np ar md ou) (q : EqK st s') : pR s' np ar md ou := by
  obtain ⟨h1, h2, h3, h4, h5, h6, h7, h8⟩ := h
  have r : ∀ c, s'.2.2.1 1 0 c = st.2.2.1 1 0 c := fun c => congrArg (fun z => z.1 1 0 c) q.2.2
  exact ⟨(r 0).trans h1, (r 1).trans h2, (r 2).trans h3, (q.1 1 0 3 (by omega) (by omega)).trans h4, h5, fun p hp => ⟨(q.1 7 0 p (by omega) (by omega)).trans (h6 p hp).1, (h6 p hp).2.1, (q.1 8 0 p (by omega) (by omega)).trans (h6 p hp).2.2.1, (h6 p hp).2.2.2⟩, fun p m hp hm => (q.1 9 0 _ (by omega) (by omega)).trans (h7 p m hp hm), fun p hp hq => (q.1 8 0 p (by omega) (by omega)).trans (h8 p hp hq)⟩
theorem EqK.rf : EqK st st := ⟨fun _ _ _ _ _ => rfl, fun _ _ _ _ => rfl, rfl⟩
theorem EqK.tr {a b c : aS} (h : EqK a b) (q : EqK b c) : EqK a c := ⟨fun x y z p r => (q.1 x y z p r).trans (h.1 x y z p r), fun x y z p => (q.2.1 x y z p).trans (h.2.1 x y z p), q.2.2.trans h.2.2⟩
theorem EqK.I {k i j : Nat} {v : Int32} (h : k = 4 ∨ k = 11) : EqK st (sI st k i j v) := ⟨fun x y z p r => sI_ne (by omega), fun _ _ _ _ => rfl, rfl⟩
theorem EqK.L {i j : Nat} {v : Int64} : EqK st (sL st 4 i j v) := ⟨fun _ _ _ _ _ => rfl, fun x y z p => sL_ne (by omega), rfl⟩
/-- the row, what is given, ordered, stuck: new -/
theorem CG.k {rm' : Nat} {rv' : Nat → Nat} {g' : Int64} {od' sk' : Int32} (h : CG E rm rv g w od sk st) (q : EqK st s') (h4 : s'.1 4 0 4 = nI rm') (h11 : ∀ k, k < rm' → s'.1 11 0 k = nI (rv' k)) (h5 : s'.2.1 4 0 5 = g') (h6 : s'.2.1 4 0 6 = w) (h7 : s'.1 4 0 7 = od') (h8 : s'.1 4 0 8 = sk') : CG E rm' rv' g' w od' sk' s' := by
  obtain ⟨c1, c2, c3, c4, c5, -⟩ := h
  exact ⟨c1.k q.2.2, c2.k q.2.2 (fun i => q.1 0 i 0 (by omega) (by omega)), c3.k q, c4.k q, (q.1 2 0 2 (by omega) (by omega)).trans c5, h4, h11, h5, h6, h7, h8⟩
def EqN (st s' : aS) : Prop := (∀ a b c, ¬ (a = 5 ∧ b = 0 ∧ (c = 0 ∨ c = 17 ∨ c = 40 ∨ c = 41)) → a ≠ 25 → s'.1 a b c = st.1 a b c) ∧ (∀ a b c, a ≠ 5 → s'.2.1 a b c = st.2.1 a b c) ∧ s'.2.2 = st.2.2
theorem EqN.rf : EqN st st := ⟨fun _ _ _ _ _ => rfl, fun _ _ _ _ => rfl, rfl⟩
theorem EqN.tr {a b c : aS} (h : EqN a b) (q : EqN b c) : EqN a c := ⟨fun x y z p r => (q.1 x y z p r).trans (h.1 x y z p r), fun x y z p => (q.2.1 x y z p).trans (h.2.1 x y z p), q.2.2.trans h.2.2⟩
theorem EqN.I {j : Nat} {v : Int32} (h : j = 0 ∨ j = 17 ∨ j = 40 ∨ j = 41) : EqN st (sI st 5 0 j v) := ⟨fun x y z p r => sI_ne (by omega), fun _ _ _ _ => rfl, rfl⟩
theorem EqN.Q {j : Nat} {v : Int32} : EqN st (sI st 25 0 j v) := ⟨fun x y z p r => sI_ne (by omega), fun _ _ _ _ => rfl, rfl⟩
theorem EqN.L {j : Nat} {v : Int64} : EqN st (sL st 5 0 j v) := ⟨fun _ _ _ _ _ => rfl, fun x y z p => sL_ne (by omega), rfl⟩
theorem EqN.C (q : EqN st s') : EqC st s' := ⟨fun a b c h => q.1 a b c (by omega) (by omega), fun a b c h => q.2.1 a b c (by omega), q.2.2⟩
theorem EqK.M (q : EqK st s') : EqM st s' := ⟨fun a b c h => q.1 a b c (by omega) (by omega), fun a b c h => q.2.1 a b c (by omega), fun b c => congrArg (fun z => z.1 5 b c) q.2.2⟩
theorem MN.n (h : MN E st) (q : EqN st s') : MN E s' := by
  intro i hi
  obtain ⟨a1, a2, a3, a4, a5, a6, a7, a8, a9⟩ := h i hi
  have e : ∀ {a c : Nat}, a ≠ 5 → a ≠ 25 → s'.1 a 0 c = st.1 a 0 c := fun h1 h2 => q.1 _ _ _ (by omega) h2
  exact ⟨(e (by omega) (by omega)).trans a1, (e (by omega) (by omega)).trans a2, (e (by omega) (by omega)).trans a3, (e (by omega) (by omega)).trans a4, (e (by omega) (by omega)).trans a5, (e (by omega) (by omega)).trans a6, fun k p hk => (e (by omega) (by omega)).trans (a7 k p hk), ⟨(e (by omega) (by omega)).trans a8.1, a8.2.1, a8.2.2.1, fun k hk => ⟨(e (by omega) (by omega)).trans (a8.2.2.2 k hk).1, (a8.2.2.2 k hk).2⟩⟩, fun z => (e (by omega) (by omega)).trans (a9 z)⟩
theorem mP.n {np : Nat} {ar md : Nat → Nat} {ou : Nat → Nat → Int32} (h : mP st np ar md ou) (q : EqN st s') : mP s' np ar md ou := ⟨(q.1 5 0 1 (by omega) (by omega)).trans h.1, h.2.1, fun p hp => ⟨(q.1 12 0 p (by omega) (by omega)).trans (h.2.2 p hp).1, (h.2.2 p hp).2.1, (q.1 13 0 p (by omega) (by omega)).trans (h.2.2 p hp).2.2.1, (h.2.2 p hp).2.2.2.1, fun m hm => (q.1 14 0 _ (by omega) (by omega)).trans ((h.2.2 p hp).2.2.2.2 m hm)⟩⟩
theorem MG.n {rm' : Nat} {rv' : Nat → Nat} {g' w' : Int64} {od' sk' : Int32} (h : MG E rm rv g w od sk st) (q : EqN st s') (h17 : s'.1 5 0 17 = nI rm') (h25 : ∀ k, k < rm' → s'.1 25 0 k = nI (rv' k)) (h18 : s'.2.1 5 0 18 = g') (h19 : s'.2.1 5 0 19 = w') (h40 : s'.1 5 0 40 = od') (h41 : s'.1 5 0 41 = sk') : MG E rm' rv' g' w' od' sk' s' := by
  obtain ⟨c1, c2, c3, c4, -⟩ := h
  exact ⟨fun j hj => (congrArg (fun z => z.1 5 0 j) q.2.2).trans (c1 j hj), c2.n q, c3.n q, (q.1 5 0 5 (by omega) (by omega)).trans c4, h17, h25, h18, h19, h40, h41⟩
theorem OD.k (h : OD E st) (hT : TR E) (q : EqK st s') : OD E s' := h.eq (fun i hi => ⟨q.2.1 0 i 13 (by omega), q.1 0 i 15 (by omega) (by omega), congrArg (fun z => z.1 0 i 18) q.2.2, congrArg (fun z => z.1 0 i 19) q.2.2⟩) (fun i hi => ⟨q.2.1 29 0 i (by omega), q.1 33 0 i (by omega) (by omega), q.1 34 0 i (by omega) (by omega), q.1 35 0 i (by omega) (by omega)⟩) hT
theorem OD.n (h : OD E st) (hT : TR E) (q : EqN st s') : OD E s' := h.eq (fun i hi => ⟨q.2.1 0 i 13 (by omega), q.1 0 i 15 (by omega) (by omega), congrArg (fun z => z.1 0 i 18) q.2.2, congrArg (fun z => z.1 0 i 19) q.2.2⟩) (fun i hi => ⟨q.2.1 29 0 i (by omega), q.1 33 0 i (by omega) (by omega), q.1 34 0 i (by omega) (by omega), q.1 35 0 i (by omega) (by omega)⟩) hT
theorem BI.k (h : BI E st) (q : EqK st s') : BI E s' := h.eq (fun i hi => q.2.1 0 i 12 (by omega))
theorem BI.n (h : BI E st) (q : EqN st s') : BI E s' := h.eq (fun i hi => q.2.1 0 i 12 (by omega))
/-- a call that only looks -/
theorem JI.th (h : JI E rm rv g w od sk st) : JI E rm rv g w od sk (sI st 5 0 0 0) := by
  obtain ⟨h1, h2, h3, h4, h5, h6, h7, h8, h9, h10⟩ := h
  have q : EqN st (sI st 5 0 0 0) := EqN.I (Or.inl rfl)
  exact ⟨h1, h2, h3.n q, h4, h5, h6, h7, h8.eq q.C, h9.th, fun z => (h10 z).n h1 q⟩
theorem JI.lk (h : JI E rm rv g w od sk st) (q : LKQ E st s') : JI E rm rv g w od sk s' := by
  obtain ⟨h1, h2, h3, h4, h5, h6, h7, h8, h9, h10⟩ := h
  refine ⟨h1, h2, h3.eq (fun i hi => q.2.2.1 0 i 12 (by omega)), h4, h5, h6, h7, h8.eq q.EqC, h9.lk q.1 (fun a b c p => q.2.1 a b c (by omega)) (fun a b c p => q.2.2.1 a b c (by omega)), fun z => (h10 z).eq (fun i hi => ⟨q.2.2.1 0 i 13 (by omega), q.2.1 0 i 15 (by omega), congrArg (fun z => z.1 0 i 18) q.1, congrArg (fun z => z.1 0 i 19) q.1⟩) (fun i hi => ⟨q.2.2.1 29 0 i (by omega), q.2.1 33 0 i (by omega), q.2.1 34 0 i (by omega), q.2.1 35 0 i (by omega)⟩) h1⟩
/-- both have forgotten the order; the row, what is given: new -/
theorem JI.kn {rm' : Nat} {rv' : Nat → Nat} {g' : Int64} {od' sk' : Int32} {s1 s2 : aS} (h : JI E rm rv g w od sk st) (q : EqK st s1) (p : EqN s1 s2) (hr : rm' ≤ 7) (hv : ∀ k, k < rm' → rv' k < 60) (ho : (od' = od ∧ sk' = sk) ∨ (od' = 0 ∧ sk' = -1))
    (h4 : s1.1 4 0 4 = nI rm') (h11 : ∀ k, k < rm' → s1.1 11 0 k = nI (rv' k)) (h5 : s1.2.1 4 0 5 = g') (h6 : s1.2.1 4 0 6 = w) (h7 : s1.1 4 0 7 = od') (h8 : s1.1 4 0 8 = sk')
    (h17 : s2.1 5 0 17 = nI rm') (h25 : ∀ k, k < rm' → s2.1 25 0 k = nI (rv' k)) (h18 : s2.2.1 5 0 18 = g') (h19 : s2.2.1 5 0 19 = w) (h40 : s2.1 5 0 40 = od') (h41 : s2.1 5 0 41 = sk') : JI E rm' rv' g' w od' sk' s2 := by
  obtain ⟨j1, j2, j3, j4, j5, j6, j7, j8, j9, j10⟩ := h
  refine ⟨j1, j2, (j3.k q).n p, j4, hr, hv, ?_, (j8.k q h4 h11 h5 h6 h7 h8).eq p.C, (j9.eq q.M).n p h17 h25 h18 h19 h40 h41, fun z => ?_⟩
  · rcases ho with ho | ho
    · rw [ho.1]; exact j7
    · exact Or.inl ho.1
  · rcases ho with ho | ho
    · exact ((j10 (ho.1.symm.trans z)).k j1 q).n j1 p
    · rw [ho.1] at z; exact absurd z (by decide)
end JJ
