/-! look(): counts of variables -/
theorem e60 (a : Nat) : (60 : Int32) * nI a = nI (60 * a) := by
  unfold nI
  rw [Int32.ofNat_mul]
  rfl
theorem e60b (a b : Nat) : (60 : Int32) * nI a + nI b = nI (60 * a + b) := by rw [e60, nI_add]
def bI (v : Int64) (x : Nat) : Nat := if v.toBitVec.getLsbD x = true then 1 else 0
theorem and1 (a : Int64) : a &&& 1 = 1 ∨ a &&& 1 = 0 := by
  have h1 : ∀ v, v < 64 → (1 : Int64).toBitVec.getLsbD v = decide (v = 0) := by decide
  cases h : a.toBitVec.getLsbD 0
  · refine Or.inr (i64_ext (fun v hv => ?_))
    rw [i64_and, h1 v hv, i64_0]
    by_cases e : v = 0
    · subst e; rw [h]; rfl
    · simp [e]
  · refine Or.inl (i64_ext (fun v hv => ?_))
    rw [i64_and, h1 v hv]
    by_cases e : v = 0
    · subst e; rw [h]; rfl
    · simp [e]
theorem bit_I {v : Int64} {x : Nat} (hx : x < 60) : ((v >>> ((nI x).toInt64 &&& 63)) &&& 1).toInt32 = nI (bI v x) := by
  unfold bI
  by_cases h : v.toBitVec.getLsbD x = true
  · rw [if_pos h, (isIn_iff (S := v) (by omega)).mpr h]
    rfl
  · rw [if_neg h]
    rcases and1 (v >>> ((nI x).toInt64 &&& 63)) with e | e
    · exact absurd ((isIn_iff (S := v) (by omega)).mp e) h
    · rw [e]; rfl
def inR (E : EE) (m x : Nat) : Prop := ∃ j, j < eW E m ∧ eV E m j = x
/-- the counts over the nodes below k -/
def CT (E : EE) (k : Nat) (c : Nat → Nat → Nat) : Prop := ∀ i, i < eN E → ∀ x, x < 60 → c i x ≤ k ∧ (0 < c i x ↔ ∃ m, m < k ∧ subP (eP E) i m ∧ inR E m x) ∧ c i x ≤ c 0 x ∧ (c i x < c 0 x ↔ ∃ m, m < k ∧ ¬ subP (eP E) i m ∧ inR E m x)
theorem CT_0 {E : EE} : CT E 0 (fun _ _ => 0) := fun i _ x _ => ⟨Nat.le_refl 0, ⟨fun h => absurd h (Nat.lt_irrefl 0), fun ⟨m, h, _⟩ => absurd h (by omega)⟩, Nat.le_refl 0, ⟨fun h => absurd h (Nat.lt_irrefl 0), fun ⟨m, h, _⟩ => absurd h (by omega)⟩⟩
theorem CT_step {E : EE} {k : Nat} {c c' : Nat → Nat → Nat} (h0 : ∀ x, inR E k x → subP (eP E) 0 k) (h : CT E k c) (h1 : ∀ i, i < eN E → ∀ x, x < 60 → (subP (eP E) i k ∧ inR E k x → c' i x = c i x + 1) ∧ (¬ (subP (eP E) i k ∧ inR E k x) → c' i x = c i x)) (hN : 0 < eN E) : CT E (k + 1) c' := by
  intro i hi x hx
  obtain ⟨a1, a2, a3, a4⟩ := h i hi x hx
  obtain ⟨b1, b2⟩ := h1 i hi x hx
  obtain ⟨d1, d2⟩ := h1 0 hN x hx
  have e : ∀ {P : Nat → Prop}, (∃ m, m < k + 1 ∧ P m ∧ inR E m x) ↔ (∃ m, m < k ∧ P m ∧ inR E m x) ∨ (P k ∧ inR E k x) := by
    intro P
    constructor
    · rintro ⟨m, hm, hp⟩
      by_cases q : m = k
      · subst q; exact Or.inr hp
      · exact Or.inl ⟨m, by omega, hp⟩
    · rintro (⟨m, hm, hp⟩ | hp)
      · exact ⟨m, by omega, hp⟩
      · exact ⟨k, by omega, hp⟩
  rw [e (P := fun m => subP (eP E) i m), e (P := fun m => ¬ subP (eP E) i m)]
  by_cases hR : inR E k x
  · have d := d1 ⟨h0 x hR, hR⟩
    by_cases hs : subP (eP E) i k
    · have b := b1 ⟨hs, hR⟩
      rw [b, d]
      refine ⟨by omega, ⟨fun _ => Or.inr ⟨hs, hR⟩, fun _ => by omega⟩, by omega, ⟨fun q => Or.inl (a4.mp (by omega)), fun q => ?_⟩⟩
      rcases q with q | q
      · have := a4.mpr q; omega
      · exact absurd hs q.1
    · have b := b2 (fun q => hs q.1)
      rw [b, d]
      refine ⟨by omega, ⟨fun q => Or.inl (a2.mp q), fun q => ?_⟩, by omega, ⟨fun q => Or.inr ⟨hs, hR⟩, fun _ => by omega⟩⟩
      rcases q with q | q
      · exact a2.mpr q
      · exact absurd q.1 hs
  · have b := b2 (fun q => hR q.2)
    have d := d2 (fun q => hR q.2)
    rw [b, d]
    refine ⟨by omega, ⟨fun q => Or.inl (a2.mp q), fun q => ?_⟩, a3, ⟨fun q => Or.inl (a4.mp q), fun q => ?_⟩⟩
    · rcases q with q | q
      · exact a2.mpr q
      · exact absurd q.2 hR
    · rcases q with q | q
      · exact a4.mpr q
      · exact absurd q.2 hR
def incF (i : Nat) (v : Int64) : Nat → Nat → aS → aS
  | 0, _, st => st
  | n + 1, k, st => incF i v n (k + 1) (sI st 26 0 (60 * i + k) (st.1 26 0 (60 * i + k) + nI (bI v k)))
theorem incF_2 (i : Nat) (v : Int64) : ∀ (n k : Nat) (st : aS), (incF i v n k st).2 = st.2
  | 0, _, _ => rfl
  | n + 1, k, st => (incF_2 i v n (k + 1) _).trans rfl
theorem incF_1 (i : Nat) (v : Int64) : ∀ (n k : Nat) (st : aS) {a b c : Nat}, ¬ (a = 26 ∧ b = 0 ∧ 60 * i + k ≤ c ∧ c < 60 * i + k + n) → (incF i v n k st).1 a b c = st.1 a b c
  | 0, _, _, _, _, _, _ => rfl
  | n + 1, k, st, a, b, c, h => (incF_1 i v n (k + 1) _ (by omega)).trans (sI_ne (by omega))
theorem incF_26 (i : Nat) (v : Int64) : ∀ (n k : Nat) (st : aS) {x : Nat}, k ≤ x → x < k + n → (incF i v n k st).1 26 0 (60 * i + x) = st.1 26 0 (60 * i + x) + nI (bI v x)
  | 0, _, _, x, h1, h2 => absurd h1 (by omega)
  | n + 1, k, st, x, h1, h2 => by
    by_cases e : x = k
    · subst e
      show (incF i v n (x + 1) _).1 26 0 (60 * i + x) = _
      rw [incF_1 i v n (x + 1) _ (by omega)]
      exact sI_eq
    · show (incF i v n (k + 1) _).1 26 0 (60 * i + x) = _
      rw [incF_26 i v n (k + 1) _ (by omega) (by omega)]
      rw [sI_ne (by omega)]
/-- the rows of i and of all above it are counted up -/
def UPQ (E : EE) (i : Nat) (v : Int64) (st s' : aS) : Prop := s'.2 = st.2 ∧ (∀ a b c, ¬ (a = 26 ∧ b = 0) → s'.1 a b c = st.1 a b c) ∧ ∀ j, j < eN E → ∀ x, x < 60 → (subP (eP E) j i → s'.1 26 0 (60 * j + x) = st.1 26 0 (60 * j + x) + nI (bI v x)) ∧ (¬ subP (eP E) j i → s'.1 26 0 (60 * j + x) = st.1 26 0 (60 * j + x))
theorem UPQ_0 {E : EE} {v : Int64} {st : aS} (hP0 : eP E 0 = 0) : UPQ E 0 v st (incF 0 v 60 0 st) := by
  have e0 : ∀ k, itP (eP E) k 0 = 0 := by
    intro k
    induction k with
    | zero => rfl
    | succ k ih => show itP (eP E) k (eP E 0) = 0; rw [hP0]; exact ih
  refine ⟨incF_2 _ _ _ _ _, fun a b c h => incF_1 _ _ _ _ _ (by omega), fun j hj x hx => ⟨fun hs => ?_, fun hs => ?_⟩⟩
  · obtain ⟨k, hk⟩ := hs
    rw [e0] at hk
    subst hk
    exact incF_26 0 v 60 0 st (by omega) (by omega)
  · have : j ≠ 0 := fun q => hs ⟨0, q.symm⟩
    exact incF_1 _ _ _ _ _ (by omega)
theorem UPQ_s {E : EE} {i : Nat} {v : Int64} {st s' : aS} (hP : ∀ j, eP E j ≤ j) (hlt : eP E i < i) (h : UPQ E (eP E i) v (incF i v 60 0 st) s') : UPQ E i v st s' := by
  obtain ⟨h1, h2, h3⟩ := h
  refine ⟨h1.trans (incF_2 _ _ _ _ _), fun a b c q => (h2 a b c q).trans (incF_1 _ _ _ _ _ (by omega)), fun j hj x hx => ?_⟩
  obtain ⟨p1, p2⟩ := h3 j hj x hx
  by_cases e : j = i
  · subst e
    have hn : ¬ subP (eP E) j (eP E j) := fun q => by have := subP_gt hP q; omega
    exact ⟨fun _ => (p2 hn).trans (incF_26 _ _ _ _ _ (by omega) (by omega)), fun q => absurd subP_self q⟩
  · have ee : (incF i v 60 0 st).1 26 0 (60 * j + x) = st.1 26 0 (60 * j + x) := incF_1 _ _ _ _ _ (by omega)
    rw [subP_par e, ← ee]
    exact ⟨p1, p2⟩
/-- the sets, from k on, n more variables -/
def acF (P : Nat → Prop) [∀ x, Decidable (P x)] : Nat → Nat → Int64 → Int64
  | 0, _, S => S
  | n + 1, k, S => acF P n (k + 1) (if P k then S ||| b1 k else S)
theorem acF_iff {P : Nat → Prop} [∀ x, Decidable (P x)] : ∀ (n k : Nat) (S : Int64) (v : Nat), k + n ≤ 60 → (gB (acF P n k S) v ↔ gB S v ∨ (k ≤ v ∧ v < k + n ∧ P v))
  | 0, k, S, v, _ => ⟨Or.inl, fun h => h.elim id (fun q => absurd q.2.1 (by omega))⟩
  | n + 1, k, S, v, h => by
    show gB (acF P n (k + 1) _) v ↔ _
    rw [acF_iff n (k + 1) _ v (by omega)]
    by_cases hp : P k
    · rw [if_pos hp, gB_or, gB_b1 (by omega)]
      constructor
      · rintro ((q | q) | q)
        · exact Or.inl q
        · subst q; exact Or.inr ⟨by omega, by omega, hp⟩
        · exact Or.inr ⟨by omega, by omega, q.2.2⟩
      · rintro (q | q)
        · exact Or.inl (Or.inl q)
        · by_cases e : v = k
          · exact Or.inl (Or.inr e)
          · exact Or.inr ⟨by omega, by omega, q.2.2⟩
    · rw [if_neg hp]
      constructor
      · rintro (q | q)
        · exact Or.inl q
        · exact Or.inr ⟨by omega, by omega, q.2.2⟩
      · rintro (q | q)
        · exact Or.inl q
        · by_cases e : v = k
          · subst e; exact absurd q.2.2 hp
          · exact Or.inr ⟨by omega, by omega, q.2.2⟩
def LKc (n : Nat) (st s' : aS) : Prop := s'.1 = st.1 ∧ s'.2.2 = st.2.2 ∧ ∀ a b c, ¬ (b = 0 ∧ c = n ∧ (a = 27 ∨ a = 28)) → s'.2.1 a b c = st.2.1 a b c
theorem LKc.rf {n : Nat} {st : aS} : LKc n st st := ⟨rfl, rfl, fun _ _ _ _ => rfl⟩
theorem LKc.tr {n : Nat} {a b c : aS} (h : LKc n a b) (g : LKc n b c) : LKc n a c := ⟨g.1.trans h.1, g.2.1.trans h.2.1, fun x y z q => (g.2.2 x y z q).trans (h.2.2 x y z q)⟩
theorem LKc.s {n k : Nat} {st : aS} {v : Int64} (h : k = 27 ∨ k = 28) : LKc n st (sL st k 0 n v) := ⟨rfl, rfl, fun a b c q => sL_ne (by omega)⟩
/-- what look() leaves -/
def LKQ (E : EE) (st s' : aS) : Prop := s'.2.2 = st.2.2 ∧ (∀ a b c, ¬ a = 26 → s'.1 a b c = st.1 a b c) ∧ (∀ a b c, ¬ (a = 27 ∨ a = 28) → s'.2.1 a b c = st.2.1 a b c) ∧ ∀ i, i < eN E → s'.2.1 27 0 i = eO E i ∧ s'.2.1 28 0 i = eI E i
theorem sub_root {E : EE} (hX : TX E) : ∀ m, m < eN E → subP (eP E) 0 m := by
  intro m
  induction m using Nat.strongRecOn with
  | _ m ih =>
    intro hm
    by_cases e : m = 0
    · subst e; exact subP_self
    · have := (hX.2.2.2.2.1 m (by omega) hm).1
      exact (subP_par (by omega)).mpr (ih (eP E m) this (by omega))
