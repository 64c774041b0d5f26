def bec (st : aS) (i : Nat) (s p : Int32) : aS := sL (sL (sR (sR (sR (sR (sI (sI (sI (sI (sI st 0 i 3 s) 0 i 4 p) 0 i 2 0) 0 i 5 0) 0 i 6 0) 0 i 7 none) 0 i 8 none) 0 i 9 none) 0 i 10 none) 0 i 11 0) 0 i 12 0
def tvF (i : Nat) (rv : Nat → Nat) : Nat → Nat → aS → aS
  | 0, _, st => st
  | n + 1, k, st => tvF i rv n (k + 1) (sI (sL (sI st 6 i k (nI (rv k))) 0 i 11 (st.2.1 0 i 11 ||| b1 (rv k))) 0 i 2 (nI (k + 1)))
theorem tvF_R (i : Nat) (rv : Nat → Nat) : ∀ (n k : Nat) (st : aS), (tvF i rv n k st).2.2 = st.2.2
  | 0, _, _ => rfl
  | n + 1, k, st => (tvF_R i rv n (k + 1) _).trans rfl
theorem tvF_I (i : Nat) (rv : Nat → Nat) : ∀ (n k : Nat) (st : aS) {a b c : Nat}, ¬ (a = 6 ∧ b = i) → ¬ (a = 0 ∧ b = i ∧ c = 2) → (tvF i rv n k st).1 a b c = st.1 a b c
  | 0, _, _, _, _, _, _, _ => rfl
  | n + 1, k, st, a, b, c, h1, h2 => (tvF_I i rv n (k + 1) _ h1 h2).trans ((sI_ne (by omega)).trans (show (sI st 6 i k _).1 a b c = _ from sI_ne (by omega)))
theorem tvF_L (i : Nat) (rv : Nat → Nat) : ∀ (n k : Nat) (st : aS) {a b c : Nat}, ¬ (a = 0 ∧ b = i ∧ c = 11) → (tvF i rv n k st).2.1 a b c = st.2.1 a b c
  | 0, _, _, _, _, _, _ => rfl
  | n + 1, k, st, a, b, c, h1 => (tvF_L i rv n (k + 1) _ h1).trans (show (sL (sI st 6 i k _) 0 i 11 _).2.1 a b c = _ from (sL_ne (by omega)).trans rfl)
theorem tvF_11 (i : Nat) (rv : Nat → Nat) : ∀ (n k : Nat) (st : aS), (tvF i rv n k st).2.1 0 i 11 = rsF rv n k (st.2.1 0 i 11)
  | 0, _, _ => rfl
  | n + 1, k, st => (tvF_11 i rv n (k + 1) _).trans (congrArg (rsF rv n (k + 1)) (show (sL (sI st 6 i k _) 0 i 11 _).2.1 0 i 11 = _ from sL_eq))
theorem tvF_2 (i : Nat) (rv : Nat → Nat) : ∀ (n k : Nat) (st : aS), st.1 0 i 2 = nI k → (tvF i rv n k st).1 0 i 2 = nI (k + n)
  | 0, _, _, h => h
  | n + 1, k, st, _ => (tvF_2 i rv n (k + 1) _ sI_eq).trans (congrArg nI (by omega))
theorem tvF_6 (i : Nat) (rv : Nat → Nat) : ∀ (n k : Nat) (st : aS) {j : Nat}, (∀ x, x < k → st.1 6 i x = nI (rv x)) → j < k + n → (tvF i rv n k st).1 6 i j = nI (rv j)
  | 0, _, _, j, h, hj => h j (by omega)
  | n + 1, k, st, j, h, hj => by
    refine tvF_6 i rv n (k + 1) _ (fun x hx => ?_) (by omega)
    rw [sI_ne (by omega)]
    show (sI st 6 i k _).1 6 i x = _
    by_cases e : x = k
    · subst e; exact sI_eq
    · exact (sI_ne (by omega)).trans (h x (by omega))
def apd (st : aS) (u c : Nat) (dp len : Nat) (la : Option Nat) : aS := sI (sR (match la with
  | none => sR (sI (sR st 0 c 7 (some u)) 0 c 5 (nI (dp + 1))) 0 u 8 (some c)
  | some z => sR (sI (sR st 0 c 7 (some u)) 0 c 5 (nI (dp + 1))) 0 z 10 (some c)) 0 u 9 (some c)) 0 u 6 (nI (len + 1))
/-- the new node's variables go to the nodes below k -/
def SPQ (P : Nat → Nat) (n k : Nat) (V : Int64) (st s' : aS) : Prop := s'.1 = st.1 ∧ s'.2.2 = st.2.2 ∧ (∀ a b c, ¬ (a = 0 ∧ b < k ∧ (c = 11 ∨ c = 12)) → s'.2.1 a b c = st.2.1 a b c) ∧ ∀ i, i < k → (subP P i n → s'.2.1 0 i 11 = st.2.1 0 i 11 ||| V ∧ s'.2.1 0 i 12 = st.2.1 0 i 12) ∧ (¬ subP P i n → s'.2.1 0 i 11 = st.2.1 0 i 11 ∧ s'.2.1 0 i 12 = st.2.1 0 i 12 ||| V)
def SPI (P : Nat → Nat) (n k : Nat) (a : Option Nat) : Prop := match a with
  | none => ∀ j, j < k → ¬ subP P j n
  | some a' => a' < k ∧ ∀ j, j < k → (subP P j n ↔ subP P j a')
theorem subP_par {P : Nat → Nat} {j m : Nat} (hne : j ≠ m) : subP P j m ↔ subP P j (P m) := by
  constructor
  · rintro ⟨k, hk⟩
    cases k with
    | zero => exact absurd hk.symm hne
    | succ k => exact ⟨k, hk⟩
  · rintro ⟨k, hk⟩
    exact ⟨k + 1, hk⟩
theorem SPQ_step {P : Nat → Nat} {n k c : Nat} {V : Int64} {st s' : aS} (hk : k < n) (hc : c = 11 ∨ c = 12) (h1 : subP P k n ↔ c = 11) (h : SPQ P n k V (sL st 0 k c (st.2.1 0 k c ||| V)) s') : SPQ P n (k + 1) V st s' := by
  obtain ⟨a1, a2, a3, a4⟩ := h
  refine ⟨a1, a2, fun a b d q => (a3 a b d (by omega)).trans (sL_ne (by omega)), fun i hi => ?_⟩
  by_cases e : i = k
  · subst e
    have e1 := a3 0 i 11 (by omega)
    have e2 := a3 0 i 12 (by omega)
    rcases hc with rfl | rfl
    · refine ⟨fun _ => ⟨e1.trans sL_eq, e2.trans (sL_ne (by omega))⟩, fun w => absurd (h1.mpr rfl) w⟩
    · refine ⟨fun w => absurd (h1.mp w) (by omega), fun _ => ⟨e1.trans (sL_ne (by omega)), e2.trans sL_eq⟩⟩
  · have e1 : (sL st 0 k c (st.2.1 0 k c ||| V)).2.1 0 i 11 = st.2.1 0 i 11 := sL_ne (by omega)
    have e2 : (sL st 0 k c (st.2.1 0 k c ||| V)).2.1 0 i 12 = st.2.1 0 i 12 := sL_ne (by omega)
    have := a4 i (by omega)
    rw [e1, e2] at this
    exact this
def fwL : List Int32 := [0, 0, 0, 0, 0, 0, 2, 2, 1, 1, 1, 0, 0]
def moL : List Int32 := [0, 0, 0, 0, 0, 0, 2, 2, 5, 1, 7, 6, 0]
abbrev fitP (k m : Nat) : Prop := fwL.getD k 0 ≤ nI m ∧ ¬ moL.getD k 0 < nI m
