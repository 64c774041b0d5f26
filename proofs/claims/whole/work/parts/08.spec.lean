/-! THE SPEC OF TRYING. A tree: how many nodes, sorts, parts, parents, depths, rows (how many, which), predicates of calls, outer and inner sets; the predicates. -/
abbrev EE : Type := Nat × (Nat → Nat) × (Nat → List Nat) × (Nat → Nat) × (Nat → Nat) × (Nat → Nat) × (Nat → Nat → Nat) × (Nat → Nat) × (Nat → Int64) × (Nat → Int64) × Nat × (Nat → Nat) × (Nat → Nat) × (Nat → Nat → Int32)
abbrev eN (E : EE) : Nat := E.1
abbrev eS (E : EE) : Nat → Nat := E.2.1
abbrev eK (E : EE) : Nat → List Nat := E.2.2.1
abbrev eP (E : EE) : Nat → Nat := E.2.2.2.1
abbrev eD (E : EE) : Nat → Nat := E.2.2.2.2.1
abbrev eW (E : EE) : Nat → Nat := E.2.2.2.2.2.1
abbrev eV (E : EE) : Nat → Nat → Nat := E.2.2.2.2.2.2.1
abbrev eQ (E : EE) : Nat → Nat := E.2.2.2.2.2.2.2.1
abbrev eO (E : EE) : Nat → Int64 := E.2.2.2.2.2.2.2.2.1
abbrev eI (E : EE) : Nat → Int64 := E.2.2.2.2.2.2.2.2.2.1
abbrev eNp (E : EE) : Nat := E.2.2.2.2.2.2.2.2.2.2.1
abbrev eAr (E : EE) : Nat → Nat := E.2.2.2.2.2.2.2.2.2.2.2.1
abbrev eMd (E : EE) : Nat → Nat := E.2.2.2.2.2.2.2.2.2.2.2.2.1
abbrev eOu (E : EE) : Nat → Nat → Int32 := E.2.2.2.2.2.2.2.2.2.2.2.2.2
def eA (E : EE) (i : Nat) (S : Int64) : Option (Int32 × Int64) := atomR (eS E i) (eW E i) (eV E i) (eMd E (eQ E i)) (eOu E (eQ E i)) S
/-- what a try gives: what is ground behind, or the stuck node; and how many tries -/
abbrev RR : Type := (Int64 ⊕ Nat) × Nat
def stk (r : Int64 ⊕ Nat) (q : Nat) : Nat := match r with
  | .inr s => s
  | .inl _ => q
def scanF (f : Nat → Int64 → RR) (S : Int64) : List Nat → Option (Nat × Int64) × Nat
  | [] => (none, 0)
  | p :: ps => match (f p S).1 with
    | .inl B => (some (p, B), (f p S).2)
    | .inr _ => ((scanF f S ps).1, (f p S).2 + (scanF f S ps).2)
def rowF (f : Nat → Int64 → RR) : Nat → List Nat → Int64 → RR × List (Nat × Int64)
  | 0, _, S => ((.inl S, 0), [])
  | _ + 1, [], S => ((.inl S, 0), [])
  | n + 1, q :: qs, S => match (scanF f S (q :: qs)).1 with
    | some z => (((rowF f n ((q :: qs).erase z.1) z.2).1.1, (scanF f S (q :: qs)).2 + (rowF f n ((q :: qs).erase z.1) z.2).1.2), (z.1, S) :: (rowF f n ((q :: qs).erase z.1) z.2).2)
    | none => ((.inr (stk (f q S).1 q), (scanF f S (q :: qs)).2), [])
def chF (f : Nat → Int64 → RR) (S : Int64) : List Nat → Int64 → Int64 → ((Int64 × Int64) ⊕ Nat) × Nat
  | [], e, s => (.inl (e, s), 0)
  | p :: ps, e, s => match (f p S).1 with
    | .inr t => (.inr t, (f p S).2)
    | .inl B => ((chF f S ps (e &&& B) (s ||| B)).1, (f p S).2 + (chF f S ps (e &&& B) (s ||| B)).2)
def joinF (i : Nat) (S O e s : Int64) : Int64 ⊕ Nat := if (O &&& nt S) &&& s &&& nt e = 0 then .inl (S ||| ((O &&& nt S) &&& s)) else .inr i
def notF (i : Nat) (S O : Int64) (r : Int64 ⊕ Nat) : Int64 ⊕ Nat := match r with
  | .inr t => .inr t
  | .inl B => if (B &&& nt S) &&& O = 0 then .inl S else .inr i
def testF (f : Nat → Int64 → RR) (i : Nat) (S O I : Int64) (a b c : Nat) : RR := match (f a S).1 with
  | .inr t => (.inr t, (f a S).2)
  | .inl A => if (A &&& nt S) &&& (O ||| I) = 0 then
      match (f b A).1 with
      | .inr t => (.inr t, (f a S).2 + (f b A).2)
      | .inl B => match (f c S).1 with
        | .inr t => (.inr t, (f a S).2 + (f b A).2 + (f c S).2)
        | .inl C => (joinF i S O (B &&& C) (B ||| C), (f a S).2 + (f b A).2 + (f c S).2)
    else (.inr i, (f a S).2)
def tryF (E : EE) : Nat → Nat → Int64 → RR
  | 0, i, _ => (.inr i, 1)
  | f + 1, i, S =>
    if eS E i = 0 then ((rowF (tryF E f) (eK E i).length (eK E i) S).1.1, 1 + (rowF (tryF E f) (eK E i).length (eK E i) S).1.2)
    else if eS E i = 1 then (match (chF (tryF E f) S (eK E i) (-1) 0).1 with
        | .inr t => .inr t
        | .inl z => joinF i S (eO E i) z.1 z.2, 1 + (chF (tryF E f) S (eK E i) (-1) 0).2)
    else if eS E i = 2 then (match eK E i with
        | [] => (.inr i, 1)
        | p :: _ => (notF i S (eO E i) (tryF E f p S).1, 1 + (tryF E f p S).2))
    else if eS E i = 3 then (match eK E i with
        | a :: b :: c :: _ => ((testF (tryF E f) i S (eO E i) (eI E c) a b c).1, 1 + (testF (tryF E f) i S (eO E i) (eI E c) a b c).2)
        | _ => (.inr i, 1))
    else (match eA E i S with
        | some z => .inl (S ||| z.2)
        | none => .inr i, 1)
/-- after a try that could be done: each node below with its set ahead, and a row's order -/
def finF (E : EE) : Nat → Nat → Int64 → List (Nat × Int64 × List Nat)
  | 0, _, _ => []
  | f + 1, i, S =>
    if eS E i = 0 then (i, S, (rowF (tryF E f) (eK E i).length (eK E i) S).2.map Prod.fst) :: (rowF (tryF E f) (eK E i).length (eK E i) S).2.flatMap (fun q => finF E f q.1 q.2)
    else if eS E i = 1 then (i, S, []) :: (eK E i).flatMap (fun p => finF E f p S)
    else if eS E i = 2 then (i, S, []) :: (match eK E i with
        | [] => []
        | p :: _ => finF E f p S)
    else if eS E i = 3 then (i, S, []) :: (match eK E i with
        | a :: b :: c :: _ => (match (tryF E f a S).1 with
            | .inl A => finF E f a S ++ finF E f b A ++ finF E f c S
            | .inr _ => [])
        | _ => [])
    else [(i, S, [])]
/-! below a node -/
def itP (par : Nat → Nat) : Nat → Nat → Nat
  | 0, m => m
  | k + 1, m => itP par k (par m)
def subP (par : Nat → Nat) (i m : Nat) : Prop := ∃ k, itP par k m = i
theorem itP_add (par : Nat → Nat) : ∀ a b m, itP par (a + b) m = itP par b (itP par a m)
  | 0, b, m => by rw [Nat.zero_add]; rfl
  | a + 1, b, m => by
    rw [show a + 1 + b = (a + b) + 1 by omega]
    show itP par (a + b) (par m) = itP par b (itP par a (par m))
    exact itP_add par a b (par m)
theorem itP_le {par : Nat → Nat} (h : ∀ j, par j ≤ j) : ∀ k m, itP par k m ≤ m
  | 0, _ => Nat.le_refl _
  | k + 1, m => Nat.le_trans (itP_le h k (par m)) (h m)
theorem subP_self {par : Nat → Nat} {i : Nat} : subP par i i := ⟨0, rfl⟩
theorem subP_up {par : Nat → Nat} {i p m : Nat} (h : par p = i) (hs : subP par p m) : subP par i m := by
  obtain ⟨k, hk⟩ := hs
  refine ⟨k + 1, ?_⟩
  rw [itP_add par k 1 m, hk]
  exact h
theorem subP_gt {par : Nat → Nat} (h : ∀ j, par j ≤ j) {i m : Nat} (hs : subP par i m) : i ≤ m := by
  obtain ⟨k, hk⟩ := hs
  rw [← hk]
  exact itP_le h k m
theorem subP_apart {par : Nat → Nat} (h : ∀ j, par j ≤ j) {i p q m : Nat} (hp : par p = i) (hq : par q = i) (hip : i < p) (hiq : i < q) (hne : p ≠ q) (h1 : subP par p m) (h2 : subP par q m) : False := by
  have key : ∀ {p q : Nat}, par p = i → i < q → p ≠ q → ∀ a b, a ≤ b → itP par a m = p → itP par b m = q → False := by
    intro p q hp hiq hne a b hab ea eb
    obtain ⟨c, rfl⟩ : ∃ c, b = a + c := ⟨b - a, by omega⟩
    rw [itP_add, ea] at eb
    cases c with
    | zero => exact hne eb
    | succ c =>
      have e2 : itP par c (par p) = q := eb
      rw [hp] at e2
      have := itP_le h c i
      omega
  obtain ⟨a, ea⟩ := h1
  obtain ⟨b, eb⟩ := h2
  by_cases hab : a ≤ b
  · exact key hp hiq hne a b hab ea eb
  · exact key hq hip (Ne.symm hne) b a (by omega) eb ea
/-! what a try may change -/
def SE (st s' : aS) : Prop := s'.2.2.2 = st.2.2.2 ∧ (∀ k i j, ¬ (k = 0 ∧ (j = 15 ∨ j = 16 ∨ j = 17)) → ¬ (k = 3 ∧ (j = 2 ∨ j = 3)) → s'.1 k i j = st.1 k i j) ∧ (∀ k i j, ¬ (k = 0 ∧ (j = 13 ∨ j = 14)) → s'.2.1 k i j = st.2.1 k i j) ∧ ∀ k i j, ¬ (k = 0 ∧ (j = 18 ∨ j = 19)) → s'.2.2.1 k i j = st.2.2.1 k i j
def NF (X : Nat → Prop) (st s' : aS) : Prop := ∀ m, ¬ X m → ∀ j, s'.1 0 m j = st.1 0 m j ∧ s'.2.1 0 m j = st.2.1 0 m j ∧ s'.2.2.1 0 m j = st.2.2.1 0 m j
def TF (E : EE) (i : Nat) (st s' : aS) : Prop := SE st s' ∧ NF (subP (eP E) i) st s' ∧ s'.1 0 i 17 = st.1 0 i 17 ∧ s'.2.2.1 0 i 19 = st.2.2.1 0 i 19
theorem SE.rf {st : aS} : SE st st := ⟨rfl, fun _ _ _ _ _ => rfl, fun _ _ _ _ => rfl, fun _ _ _ _ => rfl⟩
theorem SE.tr {a b c : aS} (h : SE a b) (g : SE b c) : SE a c := ⟨g.1.trans h.1, fun k i j x y => (g.2.1 k i j x y).trans (h.2.1 k i j x y), fun k i j x => (g.2.2.1 k i j x).trans (h.2.2.1 k i j x), fun k i j x => (g.2.2.2 k i j x).trans (h.2.2.2 k i j x)⟩
theorem NF.rf {X : Nat → Prop} {st : aS} : NF X st st := fun _ _ _ => ⟨rfl, rfl, rfl⟩
theorem NF.tr {X : Nat → Prop} {a b c : aS} (h : NF X a b) (g : NF X b c) : NF X a c := fun m hm j => ⟨(g m hm j).1.trans (h m hm j).1, (g m hm j).2.1.trans (h m hm j).2.1, (g m hm j).2.2.trans (h m hm j).2.2⟩
theorem NF.up {X Y : Nat → Prop} {a b : aS} (h : NF X a b) (hxy : ∀ m, X m → Y m) : NF Y a b := fun m hm j => h m (fun q => hm (hxy m q)) j
theorem TF.rf {E : EE} {i : Nat} {st : aS} : TF E i st st := ⟨SE.rf, NF.rf, rfl, rfl⟩
theorem TF.tr {E : EE} {i : Nat} {a b c : aS} (h : TF E i a b) (g : TF E i b c) : TF E i a c := ⟨h.1.tr g.1, h.2.1.tr g.2.1, g.2.2.1.trans h.2.2.1, g.2.2.2.trans h.2.2.2⟩
/-- what a tree is -/
def TR (E : EE) : Prop := eN E ≤ 250 ∧ (∀ j, eP E j ≤ j) ∧ ∀ i, i < eN E → eS E i ≤ 12 ∧ eD E i ≤ 20 ∧ (eK E i).Nodup ∧ (∀ p ∈ eK E i, p < eN E ∧ i < p ∧ eP E p = i ∧ eD E p = eD E i + 1) ∧ (eS E i = 6 → eW E i = 2) ∧ (eS E i = 8 ∨ eS E i = 9 ∨ eS E i = 10 → 1 ≤ eW E i) ∧ (eS E i = 12 → eQ E i < eNp E) ∧ (3 < eS E i → eI E i = rowS (eW E i) (eV E i) 0)
/-- the class's tree and predicates, as a try sees them -/
def TC (E : EE) (st : aS) : Prop := TR E ∧ pR st (eNp E) (eAr E) (eMd E) (eOu E) ∧ st.2.2.1 3 0 0 = some 0 ∧ ∀ i, i < eN E → st.1 0 i 0 = nI i ∧ st.1 0 i 3 = nI (eS E i) ∧ st.1 0 i 6 = nI (eK E i).length ∧ st.2.2.1 0 i 8 = (eK E i).head? ∧ (∀ k p, (eK E i)[k]? = some p → st.2.2.1 0 p 10 = (eK E i)[k + 1]?) ∧ st.2.1 0 i 11 = eI E i ∧ st.2.1 0 i 12 ||| st.2.1 3 0 1 = eO E i ∧ nV st i (eW E i) (eV E i) ∧ (eS E i = 12 → st.1 0 i 4 = nI (eQ E i))
