/-! what an atom does: its way and what it makes; none where it can't -/
def sameR (x y S : Int64) : Option (Int32 × Int64) := if (x ||| y) &&& nt S = 0 then some (1, 0) else if x &&& nt S = 0 then some (2, y) else if y &&& nt S = 0 then some (3, x) else none
def formR (x o S : Int64) : Option (Int32 × Int64) := if x &&& nt S = 0 then some (1, o) else if o &&& nt S = 0 then some (2, x) else none
def sumR (x o S : Int64) : Option (Int32 × Int64) := if o &&& nt S = 0 then some (if x &&& nt S = 0 then 1 else 2, x) else none
def allR (o S : Int64) : Option (Int32 × Int64) := if o &&& nt S = 0 then some (1, 0) else none
def callR (ins : Nat → Int64) (all S : Int64) : Nat → Nat → Option (Int32 × Int64)
  | 0, _ => none
  | n + 1, m => if ins m &&& nt S = 0 then some (nI m, all) else callR ins all S n (m + 1)
def atomR (s w : Nat) (vr : Nat → Nat) (md : Nat) (ou : Nat → Int32) (S : Int64) : Option (Int32 × Int64) :=
  if s = 6 then sameR (b1 (vr 0)) (b1 (vr 1)) S
  else if s = 7 then allR (rowS w vr 0) S
  else if s = 8 then formR (b1 (vr 0)) (rowS w vr 1) S
  else if s = 9 then sumR (b1 (vr 0)) (rowS w vr 1) S
  else if s = 10 then sumR (b1 (vr 0)) (rowS w vr 1) S
  else if s = 11 then allR (rowS w vr 0) S
  else if s = 12 then callR (fun m => insS (ou m) w vr) (rowS w vr 0) S md 0
  else some (0, 0)
def stt (st : aS) (i : Nat) (w : Int32) (m : Int64) : aS := sL (sI st 0 i 15 w) 0 i 14 (st.2.1 0 i 13 ||| m)
def aP (st : aS) (i : Nat) (r : Option (Int32 × Int64)) (v : Option aV) (s' : aS) : Prop := match r with
  | some q => s' = stt st i q.1 q.2 ∧ v = some (vI 1)
  | none => st = s' ∧ v = some (vI 0)
theorem aP_s {st : aS} {i : Nat} {r : Option (Int32 × Int64)} {w : Int32} {m : Int64} (h : r = some (w, m)) : aP st i r (some (vI 1)) (stt st i w m) := by
  rw [h]
  exact ⟨rfl, rfl⟩
theorem aP_n {st : aS} {i : Nat} {r : Option (Int32 × Int64)} (h : r = none) : aP st i r (some (vI 0)) st := by
  rw [h]
  exact ⟨rfl, rfl⟩
/-- the predicates: how many, their arguments, their modes, the OUT bits -/
def pR (st : aS) (np : Nat) (ar md : Nat → Nat) (ou : Nat → Nat → Int32) : Prop := st.2.2.1 1 0 0 = some 0 ∧ st.2.2.1 1 0 1 = some 0 ∧ st.2.2.1 1 0 2 = some 0 ∧ st.1 1 0 3 = nI np ∧ np ≤ 60 ∧ (∀ p, p < np → st.1 7 0 p = nI (ar p) ∧ ar p ≤ 6 ∧ st.1 8 0 p = nI (md p) ∧ md p ≤ 4) ∧ (∀ p m, p < np → m < md p → st.1 9 0 (4 * p + m) = ou p m) ∧ ∀ p, np ≤ p → p < 60 → st.1 8 0 p = 0
theorem aP_v {st s' : aS} {i : Nat} {r : Option (Int32 × Int64)} {v : Option aV} (h : aP st i r v s') : ∃ b : Int32, v = some (vI b) ∧ (b = 0 ∨ b = 1) := by
  cases r with
  | none => exact ⟨0, h.2, Or.inl rfl⟩
  | some q => exact ⟨1, h.2, Or.inr rfl⟩
