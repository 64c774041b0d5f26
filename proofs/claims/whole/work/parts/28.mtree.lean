/-! the reference's tree -/
def nx (o : Option Nat) : Int32 := match o with
  | none => -1
  | some p => nI p
def mP (st : aS) (np : Nat) (ar md : Nat → Nat) (ou : Nat → Nat → Int32) : Prop := st.1 5 0 1 = nI np ∧ np ≤ 60 ∧ ∀ p, p < np → st.1 12 0 p = nI (ar p) ∧ ar p ≤ 6 ∧ st.1 13 0 p = nI (md p) ∧ md p ≤ 4 ∧ ∀ m, m < md p → st.1 14 0 (4 * p + m) = ou p m
def TM (E : EE) (st : aS) : Prop := TR E ∧ (∀ i, i < eN E → eS E i = 9 → eW E i = 1) ∧ mF st ∧ mP st (eNp E) (eAr E) (eMd E) (eOu E) ∧ ∀ i, i < eN E → st.1 15 0 i = nI (eS E i) ∧ st.1 18 0 i = nI (eK E i).length ∧ st.1 19 0 i = nx (eK E i).head? ∧ (∀ k p, (eK E i)[k]? = some p → st.1 21 0 p = nx (eK E i)[k + 1]?) ∧ mV st i (eW E i) (eV E i) ∧ (eS E i = 12 → st.1 22 0 i = nI (eQ E i)) ∧ st.2.1 27 0 i = eO E i ∧ st.2.1 28 0 i = eI E i
/-- which places of an atom's row hand out a value -/
def bcE (E : EE) (i : Nat) (w : Int32) (x : Nat) : Prop := (eS E i = 8 ∧ w = 1 ∧ 0 < x) ∨ (eS E i = 12 ∧ ∃ m, m < eMd E (eQ E i) ∧ w = nI m ∧ oB (eOu E (eQ E i) m) x = true)
def alk (E : EE) (i : Nat) (S : Int64) (w a : Int32) : Prop := ∀ x, x < eW E i → (oB a x = true ↔ bcE E i w x ∧ (gB S (eV E i x) ∨ ∃ j, j < x ∧ bcE E i w j ∧ eV E i j = eV E i x))
def MEq (i : Nat) (st s' : aS) : Prop := s'.2.2 = st.2.2 ∧ (∀ a b c, ¬ (b = 0 ∧ c = i ∧ (a = 31 ∨ a = 34 ∨ a = 35)) → s'.1 a b c = st.1 a b c) ∧ ∀ a b c, ¬ (a = 30 ∧ b = 0 ∧ c = i) → s'.2.1 a b c = st.2.1 a b c
def mAQ (E : EE) (i : Nat) (S : Int64) (st : aS) (v : Option aV) (s' : aS) : Prop := v = none ∧ MEq i st s' ∧ (match eA E i S with
  | some z => s'.1 31 0 i = 1 ∧ s'.1 34 0 i = z.1 ∧ s'.2.1 30 0 i = S ||| z.2 ∧ alk E i S z.1 (s'.1 35 0 i)
  | none => s'.1 31 0 i = 0)
theorem MEq.tr {i : Nat} {a b c : aS} (h : MEq i a b) (g : MEq i b c) : MEq i a c := ⟨g.1.trans h.1, fun x y z q => (g.2.1 x y z q).trans (h.2.1 x y z q), fun x y z q => (g.2.2 x y z q).trans (h.2.2 x y z q)⟩
theorem MEq.rf {i : Nat} {a : aS} : MEq i a a := ⟨rfl, fun _ _ _ _ => rfl, fun _ _ _ _ => rfl⟩
theorem MEq.sI {i a : Nat} {st : aS} {v : Int32} (h : a = 31 ∨ a = 34 ∨ a = 35) : MEq i st (sI st a 0 i v) := ⟨rfl, fun x y z q => sI_ne (fun w => q ⟨w.2.1, w.2.2, by omega⟩), fun _ _ _ _ => rfl⟩
theorem MEq.sL {i : Nat} {st : aS} {v : Int64} : MEq i st (sL st 30 0 i v) := ⟨rfl, fun _ _ _ _ => rfl, fun x y z q => sL_ne (fun w => q ⟨w.1, w.2.1, w.2.2⟩)⟩
theorem MEq.cm {i : Nat} {st : aS} {w : Int32} {B : Int64} : MEq i st (cm st i w B) := ((MEq.sI (Or.inl rfl)).tr (MEq.sI (Or.inr (Or.inl rfl)))).tr MEq.sL
theorem oB_0 (x : Nat) : oB 0 x = false := by
  show (0#32).getLsbD x = false
  exact BitVec.getLsbD_zero
theorem mAQ_a {E : EE} {i : Nat} {S : Int64} {st s1 s' : aS} (h0 : MEq i st s1) (h31 : s1.1 31 0 i = 0) (h35 : s1.1 35 0 i = 0) (hnb : ∀ z, eA E i S = some z → ∀ x, ¬ bcE E i z.1 x) (h : aM s1 i S (eA E i S) none s') : mAQ E i S st none s' := by
  obtain ⟨-, h⟩ := h
  unfold mAQ
  cases hr : eA E i S with
  | none =>
    rw [hr] at h
    subst h
    exact ⟨rfl, h0, h31⟩
  | some z =>
    rw [hr] at h
    subst h
    refine ⟨rfl, h0.tr MEq.cm, ?_, ?_, ?_, fun x hx => ?_⟩
    · show (sI (sI s1 31 0 i 1) 34 0 i z.1).1 31 0 i = 1
      rw [sI_ne (by omega), sI_eq]
    · show (sI (sI s1 31 0 i 1) 34 0 i z.1).1 34 0 i = z.1
      exact sI_eq
    · exact sL_eq
    · rw [show (cm s1 i z.1 (S ||| z.2)).1 35 0 i = 0 from (cm_I (by omega)).trans h35, oB_0]
      constructor
      · intro q; cases q
      · intro q; exact absurd q.1 (hnb z hr x)
theorem mAQ_c {E : EE} {i : Nat} {S : Int64} {st s1 s' : aS} {z : Int32 × Int64} {bc : Nat → Bool} (h0 : MEq i st s1) (hw : eW E i ≤ 7) (hv : ∀ j, j < eW E i → eV E i j < 60) (hz : eA E i S = some z) (hbc : ∀ x, x < eW E i → (bc x = true ↔ bcE E i z.1 x)) (hs' : s' = sI (cm s1 i z.1 (S ||| z.2)) 35 0 i (cmF bc (eV E i) (eW E i) 0 S 0)) : mAQ E i S st none s' := by
  unfold mAQ
  rw [hz]
  subst hs'
  refine ⟨rfl, (h0.tr MEq.cm).tr (MEq.sI (Or.inr (Or.inr rfl))), ?_, ?_, ?_, fun x hx => ?_⟩
  · rw [sI_ne (by omega)]
    show (sI (sI s1 31 0 i 1) 34 0 i z.1).1 31 0 i = 1
    rw [sI_ne (by omega), sI_eq]
  · rw [sI_ne (by omega)]
    show (sI (sI s1 31 0 i 1) 34 0 i z.1).1 34 0 i = z.1
    exact sI_eq
  · show (cm s1 i z.1 (S ||| z.2)).2.1 30 0 i = _
    exact sL_eq
  · rw [sI_eq, cmF_iff _ _ _ _ (by omega) (fun j hj => hv j (by omega)), oB_0]
    constructor
    · rintro (q | ⟨-, -, q1, q2⟩)
      · cases q
      · refine ⟨(hbc x hx).mp q1, ?_⟩
        rcases q2 with q2 | ⟨j, -, j2, j3, j4⟩
        · exact Or.inl q2
        · exact Or.inr ⟨j, j2, (hbc j (by omega)).mp j3, j4⟩
    · rintro ⟨q1, q2⟩
      refine Or.inr ⟨by omega, by omega, (hbc x hx).mpr q1, ?_⟩
      rcases q2 with q2 | ⟨j, j2, j3, j4⟩
      · exact Or.inl q2
      · exact Or.inr ⟨j, by omega, j2, (hbc j (by omega)).mpr j3, j4⟩
theorem bcE_no {E : EE} {i : Nat} {w : Int32} (h1 : eS E i = 8 → w ≠ 1) (h2 : eS E i ≠ 12) : ∀ x, ¬ bcE E i w x := by
  intro x h
  rcases h with ⟨a, b, -⟩ | ⟨a, -⟩
  · exact h1 a b
  · exact h2 a
