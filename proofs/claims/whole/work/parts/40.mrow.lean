/-! a row of the reference -/
def mlf (st : aS) (L : List Nat) : List Nat := L.filter (fun q => decide (st.1 32 0 q = 0))
theorem mlf_mem {st : aS} {L : List Nat} {q : Nat} : q ∈ mlf st L ↔ q ∈ L ∧ st.1 32 0 q = 0 := by
  unfold mlf
  rw [List.mem_filter, decide_eq_true_eq]
theorem mlf_pos {st : aS} {L : List Nat} {p : Nat} (h : st.1 32 0 p = 0) : mlf st (p :: L) = p :: mlf st L := List.filter_cons_of_pos (by simpa using h)
theorem mlf_neg {st : aS} {L : List Nat} {p : Nat} (h : ¬ st.1 32 0 p = 0) : mlf st (p :: L) = mlf st L := List.filter_cons_of_neg (by simpa using h)
theorem mlf_congr {st s' : aS} {L : List Nat} (h : ∀ q ∈ L, s'.1 32 0 q = st.1 32 0 q) : mlf s' L = mlf st L := List.filter_congr (fun q hq => by rw [h q hq])
def rowE (n F : Nat) (S : Int64) (st : aS) (sfx : List Nat) (v : Option aV) (s' : aS) : Prop := v = some (vI 1) ∧ (match mlf st sfx with
  | q :: _ => s' = ends (sI st 36 0 n (nI q)) F n 0 S
  | [] => s' = ends st F n 1 S)
def rowQ (E : EE) (n F t : Nat) (S : Int64) (st : aS) (sfx : List Nat) (v : Option aV) (s' : aS) : Prop := match mlf st sfx with
  | q :: _ => tQ E q S t (F + 1) (sI st 39 0 F (nI q)) v s'
  | [] => rowE n F S (sI st 39 0 F (-1)) (eK E n) v s'
theorem rowQ_v {E : EE} {n F t : Nat} {S : Int64} {st s' : aS} {sfx : List Nat} {v : Option aV} (h : rowQ E n F t S st sfx v s') : ∃ b : Int32, v = some (vI b) ∧ (b = 0 ∨ b = 1) := by
  unfold rowQ at h
  split at h
  · exact tQ_v h
  · exact ⟨1, h.1, Or.inr rfl⟩
def clrF : List Nat → aS → aS
  | [], st => st
  | p :: ps, st => clrF ps (sI st 32 0 p 0)
theorem clrF_2 : ∀ (ps : List Nat) (st : aS), (clrF ps st).2 = st.2
  | [], _ => rfl
  | p :: ps, st => (clrF_2 ps _).trans rfl
theorem clrF_1 : ∀ (ps : List Nat) (st : aS) {a b c : Nat}, ¬ a = 32 → (clrF ps st).1 a b c = st.1 a b c
  | [], _, _, _, _, _ => rfl
  | p :: ps, st, a, b, c, h => (clrF_1 ps _ h).trans (sI_ne (by omega))
theorem clrF_32 : ∀ (ps : List Nat) (st : aS) {p : Nat}, p ∈ ps ∨ st.1 32 0 p = 0 → (clrF ps st).1 32 0 p = 0
  | [], _, _, h => h.elim (fun q => by cases q) id
  | q :: ps, st, p, h => by
    refine clrF_32 ps _ ?_
    rcases h with h | h
    · rcases List.mem_cons.mp h with rfl | h
      · exact Or.inr sI_eq
      · exact Or.inl h
    · by_cases e : p = q
      · subst e; exact Or.inr sI_eq
      · exact Or.inr ((sI_ne (by omega)).trans h)
theorem clrF_MT {E : EE} (hT : TR E) {n F : Nat} (hn : n < eN E) : ∀ (ps : List Nat) (st : aS), (∀ p ∈ ps, p ∈ eK E n) → MT E n F st (clrF ps st)
  | [], _, _ => MT.rf
  | p :: ps, st, h => by
    have hp := h p List.mem_cons_self
    have hk := hT.kid hn hp
    exact (MT.pI (by omega) (hT.sub hn hp subP_self) (fun _ => by omega)).tr (clrF_MT hT hn ps _ (fun q hq => h q (List.mem_cons_of_mem _ hq)))
theorem drop_cons {L ps : List Nat} {p j : Nat} (h : p :: ps = L.drop j) : L[j]? = some p ∧ ps = L.drop (j + 1) := by
  constructor
  · have := congrArg List.head? h
    rw [List.head?_drop] at this
    exact this.symm
  · have := congrArg List.tail h
    rw [List.tail_drop] at this
    exact this
