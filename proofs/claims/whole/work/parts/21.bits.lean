/-! bits of sets -/
/-- variable v is in the set -/
def gB (S : Int64) (v : Nat) : Prop := S.toBitVec.getLsbD v = true
theorem i64_ext {a b : Int64} (h : ∀ v, v < 64 → (a.toBitVec.getLsbD v = b.toBitVec.getLsbD v)) : a = b := by
  have e : a.toBitVec = b.toBitVec := BitVec.eq_of_getLsbD_eq (fun i hi => h i hi)
  cases a; cases b
  congr 1
  exact congrArg UInt64.ofBitVec e
theorem i64_or (a b : Int64) (v : Nat) : (a ||| b).toBitVec.getLsbD v = (a.toBitVec.getLsbD v || b.toBitVec.getLsbD v) := by
  show (a.toBitVec ||| b.toBitVec).getLsbD v = _
  exact BitVec.getLsbD_or
theorem i64_and (a b : Int64) (v : Nat) : (a &&& b).toBitVec.getLsbD v = (a.toBitVec.getLsbD v && b.toBitVec.getLsbD v) := by
  show (a.toBitVec &&& b.toBitVec).getLsbD v = _
  exact BitVec.getLsbD_and
theorem i64_nt (a : Int64) {v : Nat} (hv : v < 64) : (nt a).toBitVec.getLsbD v = !(a.toBitVec.getLsbD v) := by
  show (a.toBitVec ^^^ (-1 : Int64).toBitVec).getLsbD v = _
  rw [BitVec.getLsbD_xor, show (-1 : Int64).toBitVec = BitVec.allOnes 64 by decide, BitVec.getLsbD_allOnes]
  simp [hv]
theorem i64_0 (v : Nat) : (0 : Int64).toBitVec.getLsbD v = false := by
  show (0#64).getLsbD v = false
  exact BitVec.getLsbD_zero
theorem b1_tp : ∀ v, v < 64 → (b1 v).toBitVec = BitVec.twoPow 64 v := by decide +kernel
theorem b1_bit {v x : Nat} (hv : v < 64) : (b1 v).toBitVec.getLsbD x = decide (x = v) := by
  rw [b1_tp v hv, BitVec.getLsbD_twoPow]
  by_cases h : x = v
  · subst h; simp [hv]
  · have : ¬ v = x := fun q => h q.symm
    simp [h, this]
/-- a is within b -/
theorem sub_iff {a b : Int64} : a &&& nt b = 0 ↔ ∀ v, v < 64 → gB a v → gB b v := by
  constructor
  · intro h v hv ha
    have h1 := congrArg (fun z => z.toBitVec.getLsbD v) h
    simp only [i64_and, i64_nt b hv, i64_0] at h1
    unfold gB at ha ⊢
    rw [ha] at h1
    simpa using h1
  · intro h
    refine i64_ext (fun v hv => ?_)
    rw [i64_and, i64_nt b hv, i64_0]
    have := h v hv
    unfold gB at this
    cases ha : a.toBitVec.getLsbD v
    · rfl
    · rw [this ha]; rfl
theorem sub_iff2 {a b : Int64} : a &&& b = a ↔ a &&& nt b = 0 := by
  rw [sub_iff]
  constructor
  · intro h v hv ha
    have h1 := congrArg (fun z => z.toBitVec.getLsbD v) h
    simp only [i64_and] at h1
    unfold gB at ha ⊢
    rw [ha] at h1
    simpa using h1
  · intro h
    refine i64_ext (fun v hv => ?_)
    rw [i64_and]
    have := h v hv
    unfold gB at this
    cases ha : a.toBitVec.getLsbD v
    · rfl
    · rw [this ha]; rfl
theorem b1_sub {v : Nat} (hv : v < 64) {S : Int64} : b1 v &&& nt S = 0 ↔ gB S v := by
  rw [sub_iff]
  constructor
  · intro h
    exact h v hv (by unfold gB; rw [b1_bit hv]; simp)
  · intro h x _ hx
    unfold gB at hx
    rw [b1_bit hv] at hx
    have : x = v := by simpa using hx
    rw [this]; exact h
theorem gB_or {a b : Int64} {v : Nat} : gB (a ||| b) v ↔ gB a v ∨ gB b v := by
  unfold gB
  rw [i64_or, Bool.or_eq_true]
theorem gB_b1 {x v : Nat} (hx : x < 64) : gB (b1 x) v ↔ v = x := by
  unfold gB
  rw [b1_bit hx]
  simp
theorem or_sub {a b S : Int64} : (a ||| b) &&& nt S = 0 ↔ a &&& nt S = 0 ∧ b &&& nt S = 0 := by
  simp only [sub_iff, gB_or]
  constructor
  · intro h
    exact ⟨fun v hv ha => h v hv (Or.inl ha), fun v hv hb => h v hv (Or.inr hb)⟩
  · intro h v hv hab
    rcases hab with q | q
    · exact h.1 v hv q
    · exact h.2 v hv q
theorem or_in {a S : Int64} (h : a &&& nt S = 0) : S ||| a = S := by
  rw [sub_iff] at h
  refine i64_ext (fun v hv => ?_)
  rw [i64_or]
  have := h v hv
  unfold gB at this
  cases ha : a.toBitVec.getLsbD v
  · simp
  · rw [this ha]; rfl
theorem i64_or0 (S : Int64) : S ||| 0 = S := or_in (by rw [sub_iff]; intro v _ h; unfold gB at h; rw [i64_0] at h; cases h)
theorem wb_c6 : ∀ k, k < 64 → (((nI k).toInt64 &&& 63).toBitVec.smod 64).toNat = k := by decide +kernel
/-- isIn of the reference -/
theorem isIn_iff {S : Int64} {v : Nat} (hv : v < 63) : (S >>> ((nI v).toInt64 &&& 63)) &&& 1 = 1 ↔ gB S v := by
  have key : ((S >>> ((nI v).toInt64 &&& 63)) &&& 1).toBitVec.getLsbD 0 = S.toBitVec.getLsbD v := by
    rw [i64_and]
    have h1 : (1 : Int64).toBitVec.getLsbD 0 = true := by decide
    rw [h1, Bool.and_true]
    show (S.toBitVec.sshiftRight' (((nI v).toInt64 &&& 63).toBitVec.smod 64)).getLsbD 0 = _
    rw [BitVec.sshiftRight', wb_c6 v (by omega), BitVec.getLsbD_sshiftRight]
    simp
    omega
  constructor
  · intro h
    unfold gB
    rw [← key, h]
    decide
  · intro h
    unfold gB at h
    refine i64_ext (fun x hx => ?_)
    by_cases h0 : x = 0
    · subst h0
      rw [key, h]
      decide
    · rw [i64_and]
      have h1 : (1 : Int64).toBitVec.getLsbD x = false := by
        show (1#64).getLsbD x = false
        simp [BitVec.getLsbD_one]
        omega
      rw [h1, Bool.and_false]
/-- holds of the class -/
theorem hB_iff {S : Int64} {v : Nat} (hv : v < 63) : ¬ hB S (nI v) = 0 ↔ gB S v := by
  have hu : ∀ k, k < 64 → (((nI k).toInt64.toUInt64 &&& Int64.toUInt64 63).toBitVec % 64).toNat = k := by decide +kernel
  have key : (hB S (nI v)).toBitVec.getLsbD 0 = S.toBitVec.getLsbD v := by
    unfold hB
    rw [i64_and]
    have h1 : (1 : Int64).toBitVec.getLsbD 0 = true := by decide
    rw [h1, Bool.and_true]
    show (S.toBitVec >>> (((nI v).toInt64.toUInt64 &&& Int64.toUInt64 63).toBitVec % 64)).getLsbD 0 = _
    rw [BitVec.ushiftRight_eq', hu v (by omega), BitVec.getLsbD_ushiftRight]
    simp
  have oth : ∀ x, x ≠ 0 → (hB S (nI v)).toBitVec.getLsbD x = false := by
    intro x hx
    unfold hB
    rw [i64_and]
    have h1 : (1 : Int64).toBitVec.getLsbD x = false := by
      show (1#64).getLsbD x = false
      simp [BitVec.getLsbD_one]
      omega
    rw [h1, Bool.and_false]
  constructor
  · intro h
    unfold gB
    rw [← key]
    cases hk : (hB S (nI v)).toBitVec.getLsbD 0
    · refine absurd (i64_ext (fun x hx => ?_)) h
      by_cases h0 : x = 0
      · subst h0; rw [hk, i64_0]
      · rw [oth x h0, i64_0]
    · rfl
  · intro h q
    unfold gB at h
    rw [← key, q, i64_0] at h
    cases h
/-- the row's set by its variables -/
theorem rsF_iff {vr : Nat → Nat} : ∀ (n k : Nat) (S : Int64) (v : Nat), (∀ j, k ≤ j → j < k + n → vr j < 60) → (gB (rsF vr n k S) v ↔ gB S v ∨ ∃ j, k ≤ j ∧ j < k + n ∧ vr j = v)
  | 0, k, S, v, _ => by
    constructor
    · exact Or.inl
    · rintro (h | ⟨j, h1, h2, -⟩)
      · exact h
      · omega
  | n + 1, k, S, v, h => by
    show gB (rsF vr n (k + 1) (S ||| b1 (vr k))) v ↔ _
    rw [rsF_iff n (k + 1) _ v (fun j h1 h2 => h j (by omega) (by omega)), gB_or, gB_b1 (by have := h k (by omega) (by omega); omega)]
    constructor
    · rintro ((h1 | h1) | ⟨j, h1, h2, h3⟩)
      · exact Or.inl h1
      · exact Or.inr ⟨k, by omega, by omega, h1.symm⟩
      · exact Or.inr ⟨j, by omega, by omega, h3⟩
    · rintro (h1 | ⟨j, h1, h2, h3⟩)
      · exact Or.inl (Or.inl h1)
      · by_cases e : j = k
        · subst e; exact Or.inl (Or.inr h3.symm)
        · exact Or.inr ⟨j, by omega, by omega, h3⟩
theorem rowS_iff {w fr : Nat} {vr : Nat → Nat} {v : Nat} (h : ∀ j, j < w → vr j < 60) : gB (rowS w vr fr) v ↔ ∃ j, fr ≤ j ∧ j < w ∧ vr j = v := by
  unfold rowS
  rw [rsF_iff _ _ _ _ (fun j h1 h2 => h j (by omega))]
  constructor
  · rintro (h1 | ⟨j, h1, h2, h3⟩)
    · unfold gB at h1; rw [i64_0] at h1; cases h1
    · exact ⟨j, h1, by omega, h3⟩
  · rintro ⟨j, h1, h2, h3⟩
    exact Or.inr ⟨j, h1, by omega, h3⟩
