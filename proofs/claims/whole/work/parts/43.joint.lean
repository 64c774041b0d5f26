/-! BOTH OBJECTS: what the class holds, what the reference holds, over one tree E; a row of rm variables rv; what is given and wanted; ordered, stuck -/
def CF (st : aS) : Prop := st.2.2.1 4 0 0 = some 0 ∧ st.2.2.1 4 0 1 = some 0 ∧ st.2.2.1 4 0 2 = some 0 ∧ st.2.2.1 4 0 3 = some 0 ∧ st.2.2.1 3 0 0 = some 0 ∧ st.2.2.1 2 0 0 = some 0 ∧ st.2.2.1 2 0 1 = some 0
def CA (E : EE) (st : aS) : Prop := eN E ≤ st.2.2.2 0 ∧ st.2.2.2 0 ≤ 250 ∧ st.2.2.2 6 = st.2.2.2 0 ∧ (∀ i, i < 250 → st.2.2.1 10 0 i = if i < st.2.2.2 0 then some i else none) ∧ ∀ i, i < st.2.2.2 0 → st.1 0 i 0 = nI i ∧ st.2.2.1 0 i 1 = some i
def CN (E : EE) (w : Int64) (st : aS) : Prop := ∀ i, i < eN E → st.1 0 i 3 = nI (eS E i) ∧ st.1 0 i 5 = nI (eD E i) ∧ st.1 0 i 6 = nI (eK E i).length ∧ st.2.2.1 0 i 7 = (if i = 0 then none else some (eP E i)) ∧ st.2.2.1 0 i 8 = (eK E i).head? ∧ st.2.2.1 0 i 9 = (eK E i).getLast? ∧ (∀ k p, (eK E i)[k]? = some p → st.2.2.1 0 p 10 = (eK E i)[k + 1]?) ∧ st.2.1 0 i 11 = eI E i ∧ st.2.1 0 i 12 ||| w = eO E i ∧ nV st i (eW E i) (eV E i) ∧ (eS E i = 12 → st.1 0 i 4 = nI (eQ E i))
def CG (E : EE) (rm : Nat) (rv : Nat → Nat) (g w : Int64) (od sk : Int32) (st : aS) : Prop := CF st ∧ CA E st ∧ CN E w st ∧ pR st (eNp E) (eAr E) (eMd E) (eOu E) ∧ st.1 2 0 2 = nI (eN E) ∧ st.1 4 0 4 = nI rm ∧ (∀ k, k < rm → st.1 11 0 k = nI (rv k)) ∧ st.2.1 4 0 5 = g ∧ st.2.1 4 0 6 = w ∧ st.1 4 0 7 = od ∧ st.1 4 0 8 = sk
def MN (E : EE) (st : aS) : Prop := ∀ i, i < eN E → st.1 15 0 i = nI (eS E i) ∧ st.1 16 0 i = nI (eD E i) ∧ st.1 17 0 i = (if i = 0 then -1 else nI (eP E i)) ∧ st.1 18 0 i = nI (eK E i).length ∧ st.1 19 0 i = nx (eK E i).head? ∧ st.1 20 0 i = nx (eK E i).getLast? ∧ (∀ k p, (eK E i)[k]? = some p → st.1 21 0 p = nx (eK E i)[k + 1]?) ∧ mV st i (eW E i) (eV E i) ∧ (eS E i = 12 → st.1 22 0 i = nI (eQ E i))
def MG (E : EE) (rm : Nat) (rv : Nat → Nat) (g w : Int64) (od sk : Int32) (st : aS) : Prop := mF st ∧ MN E st ∧ mP st (eNp E) (eAr E) (eMd E) (eOu E) ∧ st.1 5 0 5 = nI (eN E) ∧ st.1 5 0 17 = nI rm ∧ (∀ k, k < rm → st.1 25 0 k = nI (rv k)) ∧ st.2.1 5 0 18 = g ∧ st.2.1 5 0 19 = w ∧ st.1 5 0 40 = od ∧ st.1 5 0 41 = sk
/-- more of a tree -/
def TX (E : EE) : Prop := 0 < eN E ∧ eS E 0 = 0 ∧ eD E 0 = 0 ∧ eP E 0 = 0 ∧ (∀ m, 0 < m → m < eN E → eP E m < m ∧ m ∈ eK E (eP E m)) ∧ ∀ i, i < eN E → (eS E i = 2 → (eK E i).length ≤ 1) ∧ (eS E i = 3 → (eK E i).length ≤ 3) ∧ (3 < eS E i → eK E i = []) ∧ (eS E i < 6 → eW E i = 0) ∧ (eS E i = 9 → eW E i = 1)
/-- variable v stands in a row below i -/
def inV (E : EE) (i v : Nat) : Prop := ∃ m, m < eN E ∧ subP (eP E) i m ∧ ∃ j, j < eW E m ∧ eV E m j = v
def outV (E : EE) (i v : Nat) : Prop := ∃ m, m < eN E ∧ ¬ subP (eP E) i m ∧ ∃ j, j < eW E m ∧ eV E m j = v
def BI (E : EE) (st : aS) : Prop := ∀ i, i < eN E → ∀ v, v < 64 → (gB (eI E i) v ↔ inV E i v) ∧ (gB (st.2.1 0 i 12) v ↔ outV E i v)
/-- after an order: both know the same -/
def OD (E : EE) (st : aS) : Prop := ∀ i, i < eN E → st.2.1 0 i 13 = st.2.1 29 0 i ∧ (3 < eS E i → (∃ m, eA E i (st.2.1 29 0 i) = some (st.1 34 0 i, m)) ∧ st.1 0 i 15 = st.1 34 0 i ∧ alk E i (st.2.1 29 0 i) (st.1 34 0 i) (st.1 35 0 i)) ∧ (eS E i = 0 → ∃ ord : List Nat, ord.Perm (eK E i) ∧ dn st i ord ∧ ∀ k p, ord[k]? = some p → st.1 33 0 p = nI k)
def JI (E : EE) (rm : Nat) (rv : Nat → Nat) (g w : Int64) (od sk : Int32) (st : aS) : Prop := TR E ∧ TX E ∧ BI E st ∧ (∀ v, 60 ≤ v → v < 64 → ¬ gB w v) ∧ rm ≤ 7 ∧ (∀ k, k < rm → rv k < 60) ∧ (od = 0 ∨ od = 1) ∧ CG E rm rv g w od sk st ∧ MG E rm rv g w od sk st ∧ (od = 1 → OD E st)
/-! what stays -/
def EqM (st s' : aS) : Prop := (∀ a b c, a = 5 ∨ 12 ≤ a → s'.1 a b c = st.1 a b c) ∧ (∀ a b c, a = 5 ∨ 12 ≤ a → s'.2.1 a b c = st.2.1 a b c) ∧ ∀ b c, s'.2.2.1 5 b c = st.2.2.1 5 b c
def EqC (st s' : aS) : Prop := (∀ a b c, ¬ (a = 5 ∨ 12 ≤ a) → s'.1 a b c = st.1 a b c) ∧ (∀ a b c, ¬ (a = 5 ∨ 12 ≤ a) → s'.2.1 a b c = st.2.1 a b c) ∧ s'.2.2 = st.2.2
theorem EqM.rf {st : aS} : EqM st st := ⟨fun _ _ _ _ => rfl, fun _ _ _ _ => rfl, fun _ _ => rfl⟩
theorem EqM.tr {a b c : aS} (h : EqM a b) (g : EqM b c) : EqM a c := ⟨fun x y z q => (g.1 x y z q).trans (h.1 x y z q), fun x y z q => (g.2.1 x y z q).trans (h.2.1 x y z q), fun y z => (g.2.2 y z).trans (h.2.2 y z)⟩
theorem EqC.rf {st : aS} : EqC st st := ⟨fun _ _ _ _ => rfl, fun _ _ _ _ => rfl, rfl⟩
theorem EqC.tr {a b c : aS} (h : EqC a b) (g : EqC b c) : EqC a c := ⟨fun x y z q => (g.1 x y z q).trans (h.1 x y z q), fun x y z q => (g.2.1 x y z q).trans (h.2.1 x y z q), g.2.2.trans h.2.2⟩
theorem EqM.I {st : aS} {k i j : Nat} {v : Int32} (h : ¬ (k = 5 ∨ 12 ≤ k)) : EqM st (sI st k i j v) := ⟨fun x y z q => sI_ne (by omega), fun _ _ _ _ => rfl, fun _ _ => rfl⟩
theorem EqM.L {st : aS} {k i j : Nat} {v : Int64} (h : ¬ (k = 5 ∨ 12 ≤ k)) : EqM st (sL st k i j v) := ⟨fun _ _ _ _ => rfl, fun x y z q => sL_ne (by omega), fun _ _ => rfl⟩
theorem EqM.R {st : aS} {k i j : Nat} {v : Option Nat} (h : ¬ (k = 5 ∨ 12 ≤ k)) : EqM st (sR st k i j v) := ⟨fun _ _ _ _ => rfl, fun _ _ _ _ => rfl, fun y z => sR_ne (by omega)⟩
theorem EqM.N {st : aS} {k : Nat} (h : ¬ (k = 5 ∨ 12 ≤ k)) : EqM st (sNew st k) := by
  refine ⟨fun x y z q => ?_, fun x y z q => ?_, fun y z => ?_⟩
  · exact if_neg (by omega)
  · exact if_neg (by omega)
  · exact if_neg (by omega)
theorem EqC.I {st : aS} {k i j : Nat} {v : Int32} (h : k = 5 ∨ 12 ≤ k) : EqC st (sI st k i j v) := ⟨fun x y z q => sI_ne (by omega), fun _ _ _ _ => rfl, rfl⟩
theorem EqC.L {st : aS} {k i j : Nat} {v : Int64} (h : k = 5 ∨ 12 ≤ k) : EqC st (sL st k i j v) := ⟨fun _ _ _ _ => rfl, fun x y z q => sL_ne (by omega), rfl⟩
theorem mV.eq {st s' : aS} {i w : Nat} {vr : Nat → Nat} (h : mV st i w vr) (g : EqM st s') : mV s' i w vr := ⟨(g.1 23 0 i (by omega)).trans h.1, h.2.1, h.2.2.1, fun k hk => ⟨(g.1 24 0 _ (by omega)).trans (h.2.2.2 k hk).1, (h.2.2.2 k hk).2⟩⟩
theorem MG.eq {E : EE} {rm : Nat} {rv : Nat → Nat} {g w : Int64} {od sk : Int32} {st s' : aS} (h : MG E rm rv g w od sk st) (q : EqM st s') : MG E rm rv g w od sk s' := by
  obtain ⟨h1, h2, h3, h4, h5, h6, h7, h8, h9, h10⟩ := h
  refine ⟨fun j hj => (q.2.2 0 j).trans (h1 j hj), fun i hi => ?_, ⟨(q.1 5 0 1 (by omega)).trans h3.1, h3.2.1, fun p hp => ⟨(q.1 12 0 p (by omega)).trans (h3.2.2 p hp).1, (h3.2.2 p hp).2.1, (q.1 13 0 p (by omega)).trans (h3.2.2 p hp).2.2.1, (h3.2.2 p hp).2.2.2.1, fun m hm => (q.1 14 0 _ (by omega)).trans ((h3.2.2 p hp).2.2.2.2 m hm)⟩⟩, (q.1 5 0 5 (by omega)).trans h4, (q.1 5 0 17 (by omega)).trans h5, fun k hk => (q.1 25 0 k (by omega)).trans (h6 k hk), (q.2.1 5 0 18 (by omega)).trans h7, (q.2.1 5 0 19 (by omega)).trans h8, (q.1 5 0 40 (by omega)).trans h9, (q.1 5 0 41 (by omega)).trans h10⟩
  obtain ⟨a1, a2, a3, a4, a5, a6, a7, a8, a9⟩ := h2 i hi
  exact ⟨(q.1 15 0 i (by omega)).trans a1, (q.1 16 0 i (by omega)).trans a2, (q.1 17 0 i (by omega)).trans a3, (q.1 18 0 i (by omega)).trans a4, (q.1 19 0 i (by omega)).trans a5, (q.1 20 0 i (by omega)).trans a6, fun k p hk => (q.1 21 0 p (by omega)).trans (a7 k p hk), a8.eq q, fun z => (q.1 22 0 i (by omega)).trans (a9 z)⟩
theorem pR.eq {st s' : aS} {np : Nat} {ar md : Nat → Nat} {ou : Nat → Nat → Int32} (h : pR st np ar md ou) (g : EqC st s') : pR s' np ar md ou := by
  obtain ⟨h1, h2, h3, h4, h5, h6, h7, h8⟩ := h
  exact ⟨by rw [g.2.2]; exact h1, by rw [g.2.2]; exact h2, by rw [g.2.2]; exact h3, (g.1 1 0 3 (by omega)).trans h4, h5, fun p hp => ⟨(g.1 7 0 p (by omega)).trans (h6 p hp).1, (h6 p hp).2.1, (g.1 8 0 p (by omega)).trans (h6 p hp).2.2.1, (h6 p hp).2.2.2⟩, fun p m hp hm => (g.1 9 0 _ (by omega)).trans (h7 p m hp hm), fun p hp hq => (g.1 8 0 p (by omega)).trans (h8 p hp hq)⟩
theorem CG.eq {E : EE} {rm : Nat} {rv : Nat → Nat} {g w : Int64} {od sk : Int32} {st s' : aS} (h : CG E rm rv g w od sk st) (q : EqC st s') : CG E rm rv g w od sk s' := by
  obtain ⟨h1, h2, h3, h4, h5, h6, h7, h8, h9, h10, h11⟩ := h
  refine ⟨by unfold CF; rw [q.2.2]; exact h1, ?_, fun i hi => ?_, h4.eq q, (q.1 2 0 2 (by omega)).trans h5, (q.1 4 0 4 (by omega)).trans h6, fun k hk => (q.1 11 0 k (by omega)).trans (h7 k hk), (q.2.1 4 0 5 (by omega)).trans h8, (q.2.1 4 0 6 (by omega)).trans h9, (q.1 4 0 7 (by omega)).trans h10, (q.1 4 0 8 (by omega)).trans h11⟩
  · unfold CA
    rw [q.2.2]
    exact ⟨h2.1, h2.2.1, h2.2.2.1, h2.2.2.2.1, fun i hi => ⟨(q.1 0 i 0 (by omega)).trans (h2.2.2.2.2 i hi).1, (h2.2.2.2.2 i hi).2⟩⟩
  · obtain ⟨a1, a2, a3, a4, a5, a6, a7, a8, a9, a10, a11⟩ := h3 i hi
    rw [q.2.2]
    refine ⟨(q.1 0 i 3 (by omega)).trans a1, (q.1 0 i 5 (by omega)).trans a2, (q.1 0 i 6 (by omega)).trans a3, a4, a5, a6, a7, (q.2.1 0 i 11 (by omega)).trans a8, by rw [q.2.1 0 i 12 (by omega)]; exact a9, ⟨(q.1 0 i 2 (by omega)).trans a10.1, a10.2.1, by rw [q.2.2]; exact a10.2.2.1, fun k hk => ⟨(q.1 6 i k (by omega)).trans (a10.2.2.2 k hk).1, (a10.2.2.2 k hk).2⟩⟩, fun z => (q.1 0 i 4 (by omega)).trans (a11 z)⟩
theorem BI.eq {E : EE} {st s' : aS} (h : BI E st) (q : ∀ i, i < eN E → s'.2.1 0 i 12 = st.2.1 0 i 12) : BI E s' := fun i hi v hv => ⟨(h i hi v hv).1, by rw [q i hi]; exact (h i hi v hv).2⟩
/-- what an answer reads -/
theorem OD.eq {E : EE} {st s' : aS} (h : OD E st) (a13 : ∀ i, i < eN E → s'.2.1 0 i 13 = st.2.1 0 i 13 ∧ s'.1 0 i 15 = st.1 0 i 15 ∧ s'.2.2.1 0 i 18 = st.2.2.1 0 i 18 ∧ s'.2.2.1 0 i 19 = st.2.2.1 0 i 19) (b : ∀ i, i < eN E → s'.2.1 29 0 i = st.2.1 29 0 i ∧ s'.1 33 0 i = st.1 33 0 i ∧ s'.1 34 0 i = st.1 34 0 i ∧ s'.1 35 0 i = st.1 35 0 i) (hT : TR E) : OD E s' := by
  intro i hi
  obtain ⟨h1, h2, h3⟩ := h i hi
  obtain ⟨p1, p2, p3, p4⟩ := a13 i hi
  obtain ⟨q1, q2, q3, q4⟩ := b i hi
  refine ⟨by rw [p1, q1]; exact h1, fun z => ?_, fun z => ?_⟩
  · rw [p2, q1, q3, q4]
    exact h2 z
  · obtain ⟨ord, o1, o2, o3⟩ := h3 z
    have hm : ∀ k p, ord[k]? = some p → p < eN E := fun k p hk => (hT.kid hi (o1.mem_iff.mp (List.mem_of_getElem? hk))).1
    exact ⟨ord, o1, ⟨by rw [p3]; exact o2.1, fun k p hk => by rw [(a13 p (hm k p hk)).2.2.2]; exact o2.2 k p hk⟩, fun k p hk => by rw [(b p (hm k p hk)).2.1]; exact o3 k p hk⟩
def fgt (st : aS) : aS := sI (sI st 4 0 7 0) 4 0 8 (-1)
abbrev isV (x : Int32) : Prop := ¬ x < 0 ∧ ¬ 60 ≤ x
abbrev isN (n : Nat) (x : Int32) : Prop := ¬ x < 0 ∧ ¬ nI n ≤ x
theorem isN_of {n : Nat} {x : Int32} (h : isN n x) (hn : n < 2 ^ 31) : ∃ i, i < n ∧ x = nI i := by
  obtain ⟨j, hj, rfl⟩ := nI_of h.1
  exact ⟨j, Nat.lt_of_not_le (fun q => h.2 (nI_le q hj)), rfl⟩
theorem isN_nI {n i : Nat} (hi : i < n) (hn : n < 2 ^ 31) : isN n (nI i) := ⟨nI_pos (by omega), nI_ge hi hn⟩
theorem isV_of {x : Int32} (h : isV x) : ∃ i, i < 60 ∧ x = nI i := isN_of (n := 60) h (by decide)
theorem isV_nI {i : Nat} (hi : i < 60) : isV (nI i) := isN_nI (n := 60) hi (by decide)
