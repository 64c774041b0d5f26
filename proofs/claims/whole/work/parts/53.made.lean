def mk1 (st : aS) (n : Nat) (s : Int32) (rm : Nat) : aS := sI (sI (sI (sI (sI (sI (sI (sI st 5 0 5 (nI (n + 1))) 15 0 n s) 18 0 n 0) 19 0 n (-1)) 20 0 n (-1)) 21 0 n (-1)) 22 0 n (-1)) 23 0 n (nI rm)
def mvF (n : Nat) (rv : Nat → Nat) : Nat → Nat → aS → aS
  | 0, _, st => st
  | c + 1, k, st => mvF n rv c (k + 1) (sI st 24 0 (7 * n + k) (nI (rv k)))
theorem mvF_2 (n : Nat) (rv : Nat → Nat) : ∀ (c k : Nat) (st : aS), (mvF n rv c k st).2 = st.2
  | 0, _, _ => rfl
  | c + 1, k, st => (mvF_2 n rv c (k + 1) _).trans rfl
theorem mvF_1 (n : Nat) (rv : Nat → Nat) : ∀ (c k : Nat) (st : aS) {x y z : Nat}, ¬ (x = 24 ∧ 7 * n ≤ z) → (mvF n rv c k st).1 x y z = st.1 x y z
  | 0, _, _, _, _, _, _ => rfl
  | c + 1, k, st, x, y, z, h => (mvF_1 n rv c (k + 1) _ h).trans (sI_ne (by omega))
theorem mvF_24 (n : Nat) (rv : Nat → Nat) : ∀ (c k : Nat) (st : aS) {j : Nat}, (∀ x, x < k → st.1 24 0 (7 * n + x) = nI (rv x)) → j < k + c → (mvF n rv c k st).1 24 0 (7 * n + j) = nI (rv j)
  | 0, _, _, j, h, hj => h j (by omega)
  | c + 1, k, st, j, h, hj => by
    refine mvF_24 n rv c (k + 1) _ (fun x hx => ?_) (by omega)
    by_cases e : x = k
    · subst e; exact sI_eq
    · exact (sI_ne (by omega)).trans (h x (by omega))
def mk0 (st : aS) : aS := sI (sI (mk1 st 0 0 0) 17 0 0 (-1)) 16 0 0 0
def mk2 (st : aS) (n up : Nat) (s : Int32) (rm : Nat) (rv : Nat → Nat) (dp : Nat) : aS := sI (sI (mvF n rv rm 0 (mk1 st n s rm)) 17 0 n (nI up)) 16 0 n (nI (dp + 1))
def mk3 (st : aS) (n up len : Nat) (la : Option Nat) : aS := sI (sI (match la with
  | none => sI st 19 0 up (nI n)
  | some z => sI st 21 0 z (nI n)) 20 0 up (nI n)) 18 0 up (nI (len + 1))
theorem mk1_I {st : aS} {n rm : Nat} {s : Int32} {a b c : Nat} (h : ¬ (a = 5 ∧ c = 5)) (g : ¬ (c = n ∧ (a = 15 ∨ (18 ≤ a ∧ a ≤ 23)))) : (mk1 st n s rm).1 a b c = st.1 a b c := by
  unfold mk1
  rw [sI_ne (by omega), sI_ne (by omega), sI_ne (by omega), sI_ne (by omega), sI_ne (by omega), sI_ne (by omega), sI_ne (by omega), sI_ne (by omega)]
theorem mk1_n {st : aS} {n rm : Nat} {s : Int32} : (mk1 st n s rm).1 15 0 n = s ∧ (mk1 st n s rm).1 18 0 n = 0 ∧ (mk1 st n s rm).1 19 0 n = -1 ∧ (mk1 st n s rm).1 20 0 n = -1 ∧ (mk1 st n s rm).1 21 0 n = -1 ∧ (mk1 st n s rm).1 22 0 n = -1 ∧ (mk1 st n s rm).1 23 0 n = nI rm ∧ (mk1 st n s rm).1 5 0 5 = nI (n + 1) := by
  refine ⟨?_, ?_, ?_, ?_, ?_, ?_, ?_, ?_⟩ <;> simp [mk1, sI, u3]
theorem mk2_I {st : aS} {n up rm dp : Nat} {s : Int32} {rv : Nat → Nat} {a b c : Nat} (h : ¬ (a = 5 ∧ c = 5)) (g : ¬ (c = n ∧ 15 ≤ a ∧ a ≤ 23)) (k : ¬ (a = 24 ∧ 7 * n ≤ c)) : (mk2 st n up s rm rv dp).1 a b c = st.1 a b c := by
  unfold mk2
  rw [sI_ne (by omega), sI_ne (by omega), mvF_1 _ _ _ _ _ k, mk1_I h (by omega)]
theorem mk2_n {st : aS} {n up rm dp : Nat} {s : Int32} {rv : Nat → Nat} : (mk2 st n up s rm rv dp).1 15 0 n = s ∧ (mk2 st n up s rm rv dp).1 16 0 n = nI (dp + 1) ∧ (mk2 st n up s rm rv dp).1 17 0 n = nI up ∧ (mk2 st n up s rm rv dp).1 18 0 n = 0 ∧ (mk2 st n up s rm rv dp).1 19 0 n = -1 ∧ (mk2 st n up s rm rv dp).1 20 0 n = -1 ∧ (mk2 st n up s rm rv dp).1 21 0 n = -1 ∧ (mk2 st n up s rm rv dp).1 22 0 n = -1 ∧ (mk2 st n up s rm rv dp).1 23 0 n = nI rm ∧ (mk2 st n up s rm rv dp).1 5 0 5 = nI (n + 1) := by
  obtain ⟨h1, h2, h3, h4, h5, h6, h7, h8⟩ := mk1_n (st := st) (n := n) (rm := rm) (s := s)
  have e : ∀ {a b c : Nat}, ¬ a = 16 → ¬ a = 17 → ¬ a = 24 → (mk2 st n up s rm rv dp).1 a b c = (mk1 st n s rm).1 a b c := by
    intro a b c q1 q2 q3
    unfold mk2
    rw [sI_ne (by omega), sI_ne (by omega), mvF_1 _ _ _ _ _ (by omega)]
  refine ⟨(e (by omega) (by omega) (by omega)).trans h1, sI_eq, (sI_ne (by omega)).trans sI_eq, (e (by omega) (by omega) (by omega)).trans h2, (e (by omega) (by omega) (by omega)).trans h3, (e (by omega) (by omega) (by omega)).trans h4, (e (by omega) (by omega) (by omega)).trans h5, (e (by omega) (by omega) (by omega)).trans h6, (e (by omega) (by omega) (by omega)).trans h7, (e (by omega) (by omega) (by omega)).trans h8⟩
theorem mk2_24 {st : aS} {n up rm dp j : Nat} {s : Int32} {rv : Nat → Nat} (hj : j < rm) : (mk2 st n up s rm rv dp).1 24 0 (7 * n + j) = nI (rv j) := by
  unfold mk2
  rw [sI_ne (by omega), sI_ne (by omega)]
  exact mvF_24 _ _ _ _ _ (fun x hx => absurd hx (by omega)) (by omega)
theorem mk2_2 {st : aS} {n up rm dp : Nat} {s : Int32} {rv : Nat → Nat} : (mk2 st n up s rm rv dp).2 = st.2 := (mvF_2 n rv rm 0 (mk1 st n s rm)).trans rfl
theorem mk3_2 {st : aS} {n up len : Nat} {la : Option Nat} : (mk3 st n up len la).2 = st.2 := by cases la <;> rfl
theorem mk3_I {st : aS} {n up len : Nat} {la : Option Nat} {a b c : Nat} (h1 : ¬ (a = 18 ∧ c = up)) (h2 : ¬ (a = 20 ∧ c = up)) (h3 : ¬ (a = 19 ∧ c = up)) (h4 : ¬ a = 21) : (mk3 st n up len la).1 a b c = st.1 a b c := by
  unfold mk3
  rw [sI_ne (by omega), sI_ne (by omega)]
  cases la with
  | none => exact sI_ne (by omega)
  | some z => exact sI_ne (by omega)
theorem mk3_18 {st : aS} {n up len : Nat} {la : Option Nat} : (mk3 st n up len la).1 18 0 up = nI (len + 1) ∧ (mk3 st n up len la).1 20 0 up = nI n := ⟨sI_eq, (sI_ne (by omega)).trans sI_eq⟩
theorem mk3_19 {st : aS} {n up len : Nat} {la : Option Nat} : (mk3 st n up len la).1 19 0 up = (if la = none then nI n else st.1 19 0 up) := by
  unfold mk3
  rw [sI_ne (by omega), sI_ne (by omega)]
  cases la with
  | none => rw [if_pos rfl]; exact sI_eq
  | some z => rw [if_neg (by simp)]; exact sI_ne (by omega)
theorem mk3_21 {st : aS} {n up len b : Nat} {la : Option Nat} : (mk3 st n up len la).1 21 0 b = (if la = some b then nI n else st.1 21 0 b) := by
  unfold mk3
  rw [sI_ne (by omega), sI_ne (by omega)]
  cases la with
  | none => rw [if_neg (by simp)]; exact sI_ne (by omega)
  | some z =>
    by_cases e : z = b
    · subst e; rw [if_pos rfl]; exact sI_eq
    · rw [if_neg (by simpa using e)]; exact sI_ne (by omega)
theorem fit_dec : ∀ k, k < 12 → ∀ m, m ≤ 7 → (fitP k m ↔ (if k < 6 then m = 0 else if k = 6 ∨ k = 7 then m = 2 else if k = 8 then 0 < m ∧ m < 6 else if k = 9 then m = 1 else if k = 10 then 0 < m else m < 7)) := by decide +kernel
