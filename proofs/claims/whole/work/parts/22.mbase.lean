/-! the reference: its arrays, its rows -/
def mAr (j : Nat) : Bool := decide (j ∈ [2, 3, 4, 6, 7, 8, 9, 10, 11, 12, 13, 14, 15, 16, 20, 21, 22, 23, 24, 25, 26, 27, 28, 29, 30, 31, 32, 33, 34, 35, 36, 37])
def mF (st : aS) : Prop := ∀ j, mAr j = true → st.2.2.1 5 0 j = some 0
def mV (st : aS) (i w : Nat) (vr : Nat → Nat) : Prop := st.1 23 0 i = nI w ∧ w ≤ 7 ∧ i < 250 ∧ ∀ k, k < w → st.1 24 0 (7 * i + k) = nI (vr k) ∧ vr k < 60
theorem sI_self {st : aS} {k i j : Nat} : sI st k i j (st.1 k i j) = st := by
  unfold sI
  have : u3 st.1 k i j (st.1 k i j) = st.1 := by
    funext a b c
    unfold u3
    split
    · next h => rw [h.1, h.2.1, h.2.2]
    · rfl
  rw [this]
theorem sI_sI {st : aS} {k i j : Nat} {v w : Int32} : sI (sI st k i j v) k i j w = sI st k i j w := by
  unfold sI
  have : u3 (u3 st.1 k i j v) k i j w = u3 st.1 k i j w := by
    funext a b c
    unfold u3
    split
    · rfl
    · rfl
  rw [show (u3 st.1 k i j v, st.2).1 = u3 st.1 k i j v from rfl, this]
/-- bit k of an int -/
def oB (o : Int32) (k : Nat) : Bool := o.toBitVec.getLsbD k
theorem i32_ext {a b : Int32} (h : ∀ v, v < 32 → (a.toBitVec.getLsbD v = b.toBitVec.getLsbD v)) : a = b := by
  have e : a.toBitVec = b.toBitVec := BitVec.eq_of_getLsbD_eq (fun i hi => h i hi)
  cases a; cases b
  congr 1
  exact congrArg UInt32.ofBitVec e
theorem i32_and (a b : Int32) (v : Nat) : (a &&& b).toBitVec.getLsbD v = (a.toBitVec.getLsbD v && b.toBitVec.getLsbD v) := by
  show (a.toBitVec &&& b.toBitVec).getLsbD v = _
  exact BitVec.getLsbD_and
theorem i32_or (a b : Int32) (v : Nat) : (a ||| b).toBitVec.getLsbD v = (a.toBitVec.getLsbD v || b.toBitVec.getLsbD v) := by
  show (a.toBitVec ||| b.toBitVec).getLsbD v = _
  exact BitVec.getLsbD_or
theorem i32_1 {x : Nat} (hx : x ≠ 0) : (1 : Int32).toBitVec.getLsbD x = false := by
  show (1#32).getLsbD x = false
  simp [BitVec.getLsbD_one]
  omega
theorem wb_c5 : ∀ k, k < 32 → ((nI k &&& 31).toBitVec.smod 32).toNat = k := by decide +kernel
theorem oB_iff {o : Int32} {k : Nat} (hk : k < 31) : (o >>> (nI k &&& 31)) &&& 1 = 1 ↔ oB o k = true := by
  have key : ((o >>> (nI k &&& 31)) &&& 1).toBitVec.getLsbD 0 = o.toBitVec.getLsbD k := by
    rw [i32_and]
    have h1 : (1 : Int32).toBitVec.getLsbD 0 = true := by decide
    rw [h1, Bool.and_true]
    show (o.toBitVec.sshiftRight' ((nI k &&& 31).toBitVec.smod 32)).getLsbD 0 = _
    rw [BitVec.sshiftRight', wb_c5 k (by omega), BitVec.getLsbD_sshiftRight]
    simp
    omega
  constructor
  · intro h
    unfold oB
    rw [← key, h]
    decide
  · intro h
    unfold oB at h
    refine i32_ext (fun x hx => ?_)
    by_cases h0 : x = 0
    · subst h0
      rw [key, h]
      decide
    · rw [i32_and, i32_1 h0, Bool.and_false]
theorem hP_iff {o : Int32} {k : Nat} (hk : k < 31) : ¬ hP o (nI k) = 0 ↔ oB o k = true := by
  have hu : ∀ k, k < 32 → (((nI k).toUInt32 &&& Int32.toUInt32 31).toBitVec % 32).toNat = k := by decide +kernel
  have key : (hP o (nI k)).toBitVec.getLsbD 0 = o.toBitVec.getLsbD k := by
    unfold hP
    rw [i32_and]
    have h1 : (1 : Int32).toBitVec.getLsbD 0 = true := by decide
    rw [h1, Bool.and_true]
    show (o.toBitVec >>> (((nI k).toUInt32 &&& Int32.toUInt32 31).toBitVec % 32)).getLsbD 0 = _
    rw [BitVec.ushiftRight_eq', hu k (by omega), BitVec.getLsbD_ushiftRight]
    simp
  have oth : ∀ x, x ≠ 0 → (hP o (nI k)).toBitVec.getLsbD x = false := by
    intro x hx
    unfold hP
    rw [i32_and, i32_1 hx, Bool.and_false]
  have z0 : ∀ x, (0 : Int32).toBitVec.getLsbD x = false := fun x => by
    show (0#32).getLsbD x = false
    exact BitVec.getLsbD_zero
  constructor
  · intro h
    unfold oB
    rw [← key]
    cases hk : (hP o (nI k)).toBitVec.getLsbD 0
    · refine absurd (i32_ext (fun x hx => ?_)) h
      by_cases h0 : x = 0
      · subst h0; rw [hk, z0]
      · rw [oth x h0, z0]
    · rfl
  · intro h q
    unfold oB at h
    rw [← key, q, z0] at h
    cases h
/-- what compare gathers -/
def cmF (bc : Nat → Bool) (vr : Nat → Nat) : Nat → Nat → Int64 → Int32 → Int32
  | 0, _, _, acc => acc
  | n + 1, k, seen, acc => if bc k = true then cmF bc vr n (k + 1) (seen ||| b1 (vr k)) (if seen.toBitVec.getLsbD (vr k) = true then acc ||| (1 <<< (nI k &&& 31)) else acc) else cmF bc vr n (k + 1) seen acc
theorem one_bit : ∀ k, k < 32 → ((1 : Int32) <<< (nI k &&& 31)).toBitVec = BitVec.twoPow 32 k := by decide +kernel
theorem one_bit2 {k x : Nat} (hk : k < 32) : ((1 : Int32) <<< (nI k &&& 31)).toBitVec.getLsbD x = decide (x = k) := by
  rw [one_bit k hk, BitVec.getLsbD_twoPow]
  by_cases h : x = k
  · subst h; simp [hk]
  · have : ¬ k = x := fun q => h q.symm
    simp [h, this]
theorem cmF_iff {bc : Nat → Bool} {vr : Nat → Nat} : ∀ (n k : Nat) (seen : Int64) (acc : Int32), k + n ≤ 7 → (∀ j, j < k + n → vr j < 60) → ∀ x, oB (cmF bc vr n k seen acc) x = true ↔ (oB acc x = true ∨ (k ≤ x ∧ x < k + n ∧ bc x = true ∧ (gB seen (vr x) ∨ ∃ j, k ≤ j ∧ j < x ∧ bc j = true ∧ vr j = vr x)))
  | 0, k, seen, acc, _, _, x => by
    constructor
    · exact Or.inl
    · rintro (h | ⟨h1, h2, -⟩)
      · exact h
      · omega
  | n + 1, k, seen, acc, h7, hv, x => by
    unfold cmF
    by_cases hb : bc k = true
    · rw [if_pos hb, cmF_iff n (k + 1) _ _ (by omega) (fun j hj => hv j (by omega)) x]
      have ha : oB (if seen.toBitVec.getLsbD (vr k) = true then acc ||| (1 <<< (nI k &&& 31)) else acc) x = true ↔ oB acc x = true ∨ (x = k ∧ gB seen (vr k)) := by
        by_cases hs : seen.toBitVec.getLsbD (vr k) = true
        · rw [if_pos hs]
          unfold oB
          rw [i32_or, one_bit2 (by omega), Bool.or_eq_true, decide_eq_true_eq]
          constructor
          · rintro (h | h)
            · exact Or.inl h
            · exact Or.inr ⟨h, hs⟩
          · rintro (h | h)
            · exact Or.inl h
            · exact Or.inr h.1
        · rw [if_neg hs]
          constructor
          · exact Or.inl
          · rintro (h | h)
            · exact h
            · exact absurd h.2 hs
      rw [ha]
      have hk60 := hv k (by omega)
      constructor
      · rintro ((h | ⟨rfl, h⟩) | ⟨h1, h2, h3, h4⟩)
        · exact Or.inl h
        · exact Or.inr ⟨by omega, by omega, hb, Or.inl h⟩
        · refine Or.inr ⟨by omega, by omega, h3, ?_⟩
          rcases h4 with h4 | ⟨j, j1, j2, j3, j4⟩
          · rcases gB_or.mp h4 with h4 | h4
            · exact Or.inl h4
            · exact Or.inr ⟨k, by omega, by omega, hb, ((gB_b1 (by omega)).mp h4).symm⟩
          · exact Or.inr ⟨j, by omega, j2, j3, j4⟩
      · rintro (h | ⟨h1, h2, h3, h4⟩)
        · exact Or.inl (Or.inl h)
        · by_cases e : x = k
          · subst e
            rcases h4 with h4 | ⟨j, j1, j2, -⟩
            · exact Or.inl (Or.inr ⟨rfl, h4⟩)
            · omega
          · refine Or.inr ⟨by omega, by omega, h3, ?_⟩
            rcases h4 with h4 | ⟨j, j1, j2, j3, j4⟩
            · exact Or.inl (gB_or.mpr (Or.inl h4))
            · by_cases e2 : j = k
              · subst e2
                exact Or.inl (gB_or.mpr (Or.inr ((gB_b1 (by omega)).mpr j4.symm)))
              · exact Or.inr ⟨j, by omega, j2, j3, j4⟩
    · rw [if_neg hb, cmF_iff n (k + 1) _ _ (by omega) (fun j hj => hv j (by omega)) x]
      constructor
      · rintro (h | ⟨h1, h2, h3, h4⟩)
        · exact Or.inl h
        · refine Or.inr ⟨by omega, by omega, h3, ?_⟩
          rcases h4 with h4 | ⟨j, j1, j2, j3, j4⟩
          · exact Or.inl h4
          · exact Or.inr ⟨j, by omega, j2, j3, j4⟩
      · rintro (h | ⟨h1, h2, h3, h4⟩)
        · exact Or.inl h
        · have hxk : x ≠ k := fun e => hb (by rw [← e]; exact h3)
          refine Or.inr ⟨by omega, by omega, h3, ?_⟩
          rcases h4 with h4 | ⟨j, j1, j2, j3, j4⟩
          · exact Or.inl h4
          · have hjk : j ≠ k := fun e => hb (by rw [← e]; exact j3)
            exact Or.inr ⟨j, by omega, j2, j3, j4⟩
theorem e7 (i k : Nat) : (7 : Int32) * nI i + nI k = nI (7 * i + k) := by
  have : (7 : Int32) * nI i = nI (7 * i) := pk_mul 7 i
  rw [this, nI_add]
theorem lg1 {x y : Int64} : lg_cmp x y = 0 ↔ x = y := by
  unfold lg_cmp
  split
  · next h =>
    constructor
    · intro q; exact absurd q (by decide)
    · intro q; subst q; exact absurd h (Int64.lt_irrefl)
  · split
    · next h => exact ⟨fun _ => h, fun _ => rfl⟩
    · next h => exact ⟨fun q => absurd q (by decide), fun q => absurd q h⟩
