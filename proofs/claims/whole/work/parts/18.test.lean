def tC (f : Nat → Int64 → RR) (i : Nat) (S O B : Int64) (c : Nat) : RR := match (f c S).1 with
  | .inr t => (.inr t, (f c S).2)
  | .inl C => (joinF i S O (B &&& C) (B ||| C), (f c S).2)
def tB (f : Nat → Int64 → RR) (i : Nat) (S O A : Int64) (b c : Nat) : RR := match (f b A).1 with
  | .inr t => (.inr t, (f b A).2)
  | .inl B => ((tC f i S O B c).1, (f b A).2 + (tC f i S O B c).2)
theorem testF_b {f : Nat → Int64 → RR} {i : Nat} {S O I A : Int64} {a b c : Nat} (h1 : (f a S).1 = .inl A) (h2 : (A &&& nt S) &&& (O ||| I) = 0) : testF f i S O I a b c = ((tB f i S O A b c).1, (f a S).2 + (tB f i S O A b c).2) := by
  unfold testF tB tC
  rw [h1]
  simp only [h2, if_true]
  cases (f b A).1 with
  | inr t => rfl
  | inl B =>
    cases (f c S).1 with
    | inr t => simp only [Nat.add_assoc]
    | inl C => simp only [Nat.add_assoc]
theorem testF_a {f : Nat → Int64 → RR} {i k : Nat} {S O I : Int64} {a b c : Nat} (h1 : (f a S).1 = .inr k) : testF f i S O I a b c = (.inr k, (f a S).2) := by
  unfold testF
  rw [h1]
theorem testF_m {f : Nat → Int64 → RR} {i : Nat} {S O I A : Int64} {a b c : Nat} (h1 : (f a S).1 = .inl A) (h2 : ¬ (A &&& nt S) &&& (O ||| I) = 0) : testF f i S O I a b c = (.inr i, (f a S).2) := by
  unfold testF
  rw [h1]
  simp only [h2, if_false]
theorem testF_le {f : Nat → Int64 → RR} {i : Nat} {S O I : Int64} {a b c : Nat} : (f a S).2 ≤ (testF f i S O I a b c).2 := by
  cases h1 : (f a S).1 with
  | inr k => rw [testF_a h1]; exact Nat.le_refl _
  | inl A =>
    by_cases h2 : (A &&& nt S) &&& (O ||| I) = 0
    · rw [testF_b h1 h2]; exact Nat.le_add_right _ _
    · rw [testF_m h1 h2]; exact Nat.le_refl _
theorem tB_le {f : Nat → Int64 → RR} {i : Nat} {S O A : Int64} {b c : Nat} : (f b A).2 ≤ (tB f i S O A b c).2 := by
  unfold tB
  split
  · exact Nat.le_refl _
  · exact Nat.le_add_right _ _
theorem tC_eq {f : Nat → Int64 → RR} {i : Nat} {S O B : Int64} {c : Nat} : (tC f i S O B c).2 = (f c S).2 := by
  unfold tC
  split <;> rfl
