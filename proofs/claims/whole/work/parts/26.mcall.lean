theorem cm_I {st : aS} {i : Nat} {w : Int32} {B : Int64} {a b c : Nat} (h : a ≠ 31 ∧ a ≠ 34) : (cm st i w B).1 a b c = st.1 a b c := by
  show (sI (sI st 31 0 i 1) 34 0 i w).1 a b c = _
  rw [sI_ne (by omega), sI_ne (by omega)]
theorem mV.cm {st : aS} {i j w : Nat} {vr : Nat → Nat} {wy : Int32} {B : Int64} (h : mV st i w vr) : mV (cm st j wy B) i w vr := ⟨(cm_I (by omega)).trans h.1, h.2.1, h.2.2.1, fun k hk => ⟨(cm_I (by omega)).trans (h.2.2.2 k hk).1, (h.2.2.2 k hk).2⟩⟩
theorem mV.sI {st : aS} {i w a b c : Nat} {vr : Nat → Nat} {x : Int32} (h : mV st i w vr) (ha : a ≠ 23 ∧ a ≠ 24) : mV (sI st a b c x) i w vr := ⟨(sI_ne (by omega)).trans h.1, h.2.1, h.2.2.1, fun k hk => ⟨(sI_ne (by omega)).trans (h.2.2.2 k hk).1, (h.2.2.2 k hk).2⟩⟩
theorem allF_succ {o : Int32} {vr : Nat → Nat} {S : Int64} {k : Nat} : allF o vr S (k + 1) ↔ allF o vr S k ∧ (oB o k = true ∨ gB S (vr k)) := by
  constructor
  · intro h
    exact ⟨fun j hj => h j (by omega), h k (by omega)⟩
  · rintro ⟨h1, h2⟩ j hj
    by_cases e : j = k
    · subst e; exact h2
    · exact h1 j (by omega)
theorem e4 (p m : Nat) : (4 : Int32) * nI p + nI m = nI (4 * p + m) := by
  have : (4 : Int32) * nI p = nI (4 * p) := pk_mul 4 p
  rw [this, nI_add]
