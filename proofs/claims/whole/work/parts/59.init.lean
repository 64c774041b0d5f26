theorem alR {st : aS} {a b c : Nat} {v : Option Nat} : (sR st a b c v).2.2.2 = st.2.2.2 := rfl
theorem alI {st : aS} {a b c : Nat} {v : Int32} : (sI st a b c v).2.2.2 = st.2.2.2 := rfl
theorem alL {st : aS} {a b c : Nat} {v : Int64} : (sL st a b c v).2.2.2 = st.2.2.2 := rfl
def pIn (st : aS) : aS := sI (sR (sNew (sR (sNew (sR (sNew st 7) 1 0 0 (some 0)) 8) 1 0 1 (some 0)) 9) 1 0 2 (some 0)) 1 0 3 0
def tIn (st : aS) : aS := sI (bec (sR (sR (sNew (sR (sR (sNew (sI (sNew st 0) 0 0 0 (nI 0)) 6) 0 0 1 (some 0)) 2 0 0 (some 0)) 10) 2 0 1 (some 0)) 10 0 0 (some 0)) 0 0 (-1)) 2 0 2 1
def gIn (st : aS) : aS := sI (sI (sL (sL (sI (sR (sNew (sR (sR (sNew (sR (tIn (sNew (sR (pIn (sNew st 1)) 4 0 0 (some 0)) 2)) 4 0 1 (some 0)) 3) 3 0 0 (some 0)) 4 0 2 (some 0)) 11) 4 0 3 (some 0)) 4 0 4 0) 4 0 5 0) 4 0 6 0) 4 0 7 0) 4 0 8 (-1)
def mkA : List (Nat × Nat) → aS → aS
  | [], st => st
  | z :: r, st => mkA r (sR (sNew st z.1) 5 0 z.2 (some (st.2.2.2 z.1)))
theorem mkA_1 : ∀ (L : List (Nat × Nat)) (st : aS) {a b c : Nat}, (∀ z ∈ L, z.1 ≠ a) → (mkA L st).1 a b c = st.1 a b c
  | [], _, _, _, _, _ => rfl
  | z :: r, st, a, b, c, h => (mkA_1 r _ (fun y hy => h y (List.mem_cons_of_mem _ hy))).trans (show (sNew st z.1).1 a b c = _ from sNew_1 (fun q => h z List.mem_cons_self q.1.symm))
theorem mkA_2 : ∀ (L : List (Nat × Nat)) (st : aS) {a b c : Nat}, (∀ z ∈ L, z.1 ≠ a) → (mkA L st).2.1 a b c = st.2.1 a b c
  | [], _, _, _, _, _ => rfl
  | z :: r, st, a, b, c, h => (mkA_2 r _ (fun y hy => h y (List.mem_cons_of_mem _ hy))).trans (show (sNew st z.1).2.1 a b c = _ from sNew_2 (fun q => h z List.mem_cons_self q.1.symm))
theorem mkA_3 : ∀ (L : List (Nat × Nat)) (st : aS) {a b c : Nat}, (∀ z ∈ L, z.1 ≠ a) → ¬ (a = 5 ∧ b = 0 ∧ ∃ z ∈ L, z.2 = c) → (mkA L st).2.2.1 a b c = st.2.2.1 a b c
  | [], _, _, _, _, _, _ => rfl
  | z :: r, st, a, b, c, h, g => (mkA_3 r _ (fun y hy => h y (List.mem_cons_of_mem _ hy)) (fun ⟨q1, q2, y, q3, q4⟩ => g ⟨q1, q2, y, List.mem_cons_of_mem _ q3, q4⟩)).trans ((sR_ne (fun q => g ⟨q.1, q.2.1, z, List.mem_cons_self, q.2.2.symm⟩)).trans (sNew_3 (fun q => h z List.mem_cons_self q.1.symm)))
theorem mkA_al : ∀ (L : List (Nat × Nat)) (st : aS) {a : Nat}, (∀ z ∈ L, z.1 ≠ a) → (mkA L st).2.2.2 a = st.2.2.2 a
  | [], _, _, _ => rfl
  | z :: r, st, a, h => (mkA_al r _ (fun y hy => h y (List.mem_cons_of_mem _ hy))).trans (show (sNew st z.1).2.2.2 a = _ from sNew_an (fun q => h z List.mem_cons_self q.symm))
theorem mkA_5 : ∀ (L : List (Nat × Nat)) (st : aS) {j : Nat}, (∀ z ∈ L, z.1 ≠ 5 ∧ st.2.2.2 z.1 = 0) → (L.map Prod.fst).Nodup → (∃ z ∈ L, z.2 = j) ∨ st.2.2.1 5 0 j = some 0 → (mkA L st).2.2.1 5 0 j = some 0
  | [], _, _, _, _, h => h.elim (fun ⟨z, q, _⟩ => by cases q) id
  | z :: r, st, j, h, hn, hj => by
    have hn' := List.nodup_cons.mp hn
    refine mkA_5 r _ (fun y hy => ⟨(h y (List.mem_cons_of_mem _ hy)).1, ?_⟩) hn'.2 ?_
    · show (sNew st z.1).2.2.2 y.1 = 0
      rw [sNew_an (fun q => hn'.1 (by rw [← q]; exact List.mem_map.mpr ⟨y, hy, rfl⟩))]
      exact (h y (List.mem_cons_of_mem _ hy)).2
    · have hz := h z List.mem_cons_self
      by_cases e : z.2 = j
      · refine Or.inr ?_
        rw [← e, sR_eq, hz.2]
      · rcases hj with ⟨y, hy, ey⟩ | hj
        · rcases List.mem_cons.mp hy with rfl | hy
          · exact absurd ey e
          · exact Or.inl ⟨y, hy, ey⟩
        · refine Or.inr ?_
          rw [sR_ne (fun q => e q.2.2.symm), sNew_3 (fun q => hz.1 q.1.symm)]
          exact hj
def mArr : List (Nat × Nat) := [(12, 2), (13, 3), (14, 4), (15, 6), (16, 7), (17, 8), (18, 9), (19, 10), (20, 11), (21, 12), (22, 13), (23, 14), (24, 15), (25, 16), (26, 20), (27, 21), (28, 22), (29, 23), (30, 24), (31, 25), (32, 26), (33, 27), (34, 28), (35, 29), (36, 30), (37, 31), (38, 32), (39, 33), (40, 34), (41, 35), (42, 36), (43, 37)]
theorem mArr_k : ∀ z ∈ mArr, 12 ≤ z.1 := by decide
theorem mArr_n : (mArr.map Prod.fst).Nodup := by decide
theorem mArr_j : ∀ j, mAr j = true → ∃ z ∈ mArr, z.2 = j := by
  intro j h
  unfold mAr at h
  rw [decide_eq_true_eq] at h
  simp only [List.mem_cons, List.not_mem_nil, or_false] at h
  rcases h with h | h | h | h | h | h | h | h | h | h | h | h | h | h | h | h | h | h | h | h | h | h | h | h | h | h | h | h | h | h | h | h <;> subst h <;> decide
theorem mF_mkA {st : aS} (h : ∀ k, 12 ≤ k → st.2.2.2 k = 0) : mF (mkA mArr st) := fun j hj => mkA_5 mArr st (fun z hz => ⟨by have := mArr_k z hz; omega, h _ (mArr_k z hz)⟩) mArr_n (Or.inl (mArr_j j hj))
