theorem join_iff {o e s : Int64} (h : e &&& nt s = 0) : (o &&& s) &&& nt e = 0 ↔ e &&& o = s &&& o := by
  rw [sub_iff] at h ⊢
  constructor
  · intro h1
    refine i64_ext (fun v hv => ?_)
    rw [i64_and, i64_and]
    have a := h v hv
    have b := h1 v hv
    unfold gB at a b
    rw [i64_and] at b
    cases he : e.toBitVec.getLsbD v <;> cases hs : s.toBitVec.getLsbD v <;> cases ho : o.toBitVec.getLsbD v <;> simp_all
  · intro h1 v hv h2
    have c := congrArg (fun z => z.toBitVec.getLsbD v) h1
    simp only [i64_and] at c
    unfold gB at h2 ⊢
    rw [i64_and] at h2
    cases he : e.toBitVec.getLsbD v <;> cases hs : s.toBitVec.getLsbD v <;> cases ho : o.toBitVec.getLsbD v <;> simp_all
theorem i64_andc (a b : Int64) : a &&& b = b &&& a := i64_ext (fun v _ => by rw [i64_and, i64_and, Bool.and_comm])
theorem i64_m1 (a : Int64) : -1 &&& a = a := i64_ext (fun v hv => by
  rw [i64_and, show (-1 : Int64).toBitVec = BitVec.allOnes 64 by decide, BitVec.getLsbD_allOnes]
  simp [hv])
theorem i64_0or (a : Int64) : 0 ||| a = a := i64_ext (fun v hv => by
  rw [i64_or, i64_0, Bool.false_or])
theorem acc_sub {e s B : Int64} : (e &&& B) &&& nt (s ||| B) = 0 := by
  rw [sub_iff]
  intro v _ h
  unfold gB at h
  rw [i64_and] at h
  refine gB_or.mpr (Or.inr ?_)
  unfold gB
  cases hB : B.toBitVec.getLsbD v
  · rw [hB, Bool.and_false] at h; cases h
  · rfl
theorem join_B {o e s S : Int64} (h : e &&& o = s &&& o) : S ||| (o &&& s) = S ||| (e &&& o) := by
  rw [h, i64_andc o s]
/-- what a step of a choice leaves -/
def chQ (E : EE) (n : Nat) (S e s : Int64) (t F : Nat) (s1 : aS) (ps : List Nat) (v : Option aV) (s' : aS) : Prop := match ps with
  | q :: _ => tQ E q S t (F + 1) s1 v s'
  | [] => v = some (vI 1) ∧ s' = ends s1 F n (jb ((eK E n).length = 0 ∨ e &&& (eO E n &&& nt S) = s &&& (eO E n &&& nt S))) (S ||| (if (eK E n).length = 0 then 0 else e &&& (eO E n &&& nt S)))
theorem chQ_v {E : EE} {n t F : Nat} {S e s : Int64} {s1 s' : aS} {ps : List Nat} {v : Option aV} (h : chQ E n S e s t F s1 ps v s') : ∃ b : Int32, v = some (vI b) ∧ (b = 0 ∨ b = 1) := by
  cases ps with
  | nil => exact ⟨1, h.1, Or.inr rfl⟩
  | cons q r => exact tQ_v h
