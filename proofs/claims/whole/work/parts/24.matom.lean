def cm (st : aS) (i : Nat) (w : Int32) (B : Int64) : aS := sL (sI (sI st 31 0 i 1) 34 0 i w) 30 0 i B
def aM (st : aS) (i : Nat) (S : Int64) (r : Option (Int32 × Int64)) (v : Option aV) (s' : aS) : Prop := v = none ∧ (match r with
  | some z => s' = cm st i z.1 (S ||| z.2)
  | none => st = s')
theorem aM_s {st s' : aS} {i : Nat} {S B : Int64} {r : Option (Int32 × Int64)} {w : Int32} {m : Int64} (h : r = some (w, m)) (hB : B = S ||| m) (hs : s' = cm st i w B) : aM st i S r none s' := by
  rw [h]
  refine ⟨rfl, ?_⟩
  show s' = cm st i w (S ||| m)
  rw [hs, hB]
theorem aM_n {st : aS} {i : Nat} {S : Int64} {r : Option (Int32 × Int64)} (h : r = none) : aM st i S r none st := by
  rw [h]
  exact ⟨rfl, rfl⟩
theorem or_swap {a b S : Int64} (h : b &&& nt S = 0) : S ||| a ||| b = S ||| a := by
  refine or_in ?_
  rw [sub_iff] at h ⊢
  intro v hv hb
  exact gB_or.mpr (Or.inl (h v hv hb))
theorem insF_iff {o : Int32} {vr : Nat → Nat} : ∀ (n k : Nat) (S : Int64) (v : Nat), k + n ≤ 7 → (∀ j, j < k + n → vr j < 60) → (gB (insF o vr n k S) v ↔ gB S v ∨ ∃ j, k ≤ j ∧ j < k + n ∧ ¬ oB o j = true ∧ vr j = v)
  | 0, k, S, v, _, _ => by
    constructor
    · exact Or.inl
    · rintro (h | ⟨j, h1, h2, -⟩)
      · exact h
      · omega
  | n + 1, k, S, v, h7, h => by
    show gB (insF o vr n (k + 1) (if hP o (nI k) = 0 then S ||| b1 (vr k) else S)) v ↔ _
    rw [insF_iff n (k + 1) _ v (by omega) (fun j h1 => h j (by omega))]
    have hk := h k (by omega)
    by_cases hp : hP o (nI k) = 0
    · have hn : ¬ oB o k = true := fun q => (hP_iff (by omega)).mpr q hp
      rw [if_pos hp, gB_or, gB_b1 (by omega)]
      constructor
      · rintro ((h1 | h1) | ⟨j, h1, h2, h3, h4⟩)
        · exact Or.inl h1
        · exact Or.inr ⟨k, by omega, by omega, hn, h1.symm⟩
        · exact Or.inr ⟨j, by omega, by omega, h3, h4⟩
      · rintro (h1 | ⟨j, h1, h2, h3, h4⟩)
        · exact Or.inl (Or.inl h1)
        · by_cases e : j = k
          · subst e; exact Or.inl (Or.inr h4.symm)
          · exact Or.inr ⟨j, by omega, by omega, h3, h4⟩
    · have hn : oB o k = true := (hP_iff (by omega)).mp hp
      rw [if_neg hp]
      constructor
      · rintro (h1 | ⟨j, h1, h2, h3, h4⟩)
        · exact Or.inl h1
        · exact Or.inr ⟨j, by omega, by omega, h3, h4⟩
      · rintro (h1 | ⟨j, h1, h2, h3, h4⟩)
        · exact Or.inl h1
        · by_cases e : j = k
          · subst e; exact absurd hn h3
          · exact Or.inr ⟨j, by omega, by omega, h3, h4⟩
/-- all that is IN is ground -/
def allF (o : Int32) (vr : Nat → Nat) (S : Int64) (k : Nat) : Prop := ∀ j, j < k → oB o j = true ∨ gB S (vr j)
theorem insS_iff {o : Int32} {w : Nat} {vr : Nat → Nat} {S : Int64} (hw : w ≤ 7) (h : ∀ j, j < w → vr j < 60) : insS o w vr &&& nt S = 0 ↔ allF o vr S w := by
  rw [sub_iff]
  unfold insS
  constructor
  · intro h1 j hj
    by_cases hb : oB o j = true
    · exact Or.inl hb
    · exact Or.inr (h1 (vr j) (by have := h j hj; omega) ((insF_iff w 0 0 (vr j) (by omega) (fun k hk => h k (by omega))).mpr (Or.inr ⟨j, by omega, by omega, hb, rfl⟩)))
  · intro h1 v hv h2
    rcases (insF_iff w 0 0 v (by omega) (fun k hk => h k (by omega))).mp h2 with h3 | ⟨j, j1, j2, j3, j4⟩
    · unfold gB at h3; rw [i64_0] at h3; cases h3
    · rcases h1 j (by omega) with h4 | h4
      · exact absurd h4 j3
      · rw [← j4]; exact h4
/-- what call leaves -/
def caM (st : aS) (i w : Nat) (vr : Nat → Nat) (md : Nat) (ou : Nat → Int32) (S : Int64) (r : Option (Int32 × Int64)) (v : Option aV) (s' : aS) : Prop := v = none ∧ (match r with
  | some z => ∃ m, m < md ∧ z.1 = nI m ∧ s' = sI (cm st i z.1 (S ||| z.2)) 35 0 i (cmF (oB (ou m)) vr w 0 S (st.1 35 0 i))
  | none => st = s')
