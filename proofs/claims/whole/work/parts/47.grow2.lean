/-- a node is made anew: the state behind it -/
def nw (st : aS) (n : Nat) : aS := sR (sR (sNew (sI (sNew st 0) 0 n 0 (nI n)) 6) 0 n 1 (some n)) 10 0 n (some n)
def gq (st : aS) (n up : Nat) (s p : Int32) (rv : Nat → Nat) (m dp len : Nat) (la : Option Nat) (I0 : Int64) : aS := sI (apd (tvF n rv m 0 (sL (bec st n s p) 0 n 12 I0)) up n dp len la) 2 0 2 (nI (n + 1))
theorem sNew_an {st : aS} {k a : Nat} (h : ¬ a = k) : (sNew st k).2.2.2 a = st.2.2.2 a := if_neg h
theorem sNew_ae {st : aS} {k : Nat} : (sNew st k).2.2.2 k = st.2.2.2 k + 1 := if_pos rfl
theorem sNew_1 {st : aS} {k a b c : Nat} (h : ¬ (a = k ∧ b = st.2.2.2 k)) : (sNew st k).1 a b c = st.1 a b c := if_neg h
theorem sNew_2 {st : aS} {k a b c : Nat} (h : ¬ (a = k ∧ b = st.2.2.2 k)) : (sNew st k).2.1 a b c = st.2.1 a b c := if_neg h
theorem sNew_3 {st : aS} {k a b c : Nat} (h : ¬ (a = k ∧ b = st.2.2.2 k)) : (sNew st k).2.2.1 a b c = st.2.2.1 a b c := if_neg h
theorem nw_I {st : aS} {n a b c : Nat} (h0 : st.2.2.2 0 = n) (h6 : st.2.2.2 6 = n) (h : ¬ (a = 0 ∧ b = n)) (g : ¬ (a = 6 ∧ b = n)) : (nw st n).1 a b c = st.1 a b c := by
  show (sNew (sI (sNew st 0) 0 n 0 (nI n)) 6).1 a b c = _
  have e6 : (sI (sNew st 0) 0 n 0 (nI n)).2.2.2 6 = n := (show (sNew st 0).2.2.2 6 = n from (sNew_an (by decide)).trans h6)
  rw [sNew_1 (by rw [e6]; exact g), sI_ne (by omega), sNew_1 (by rw [h0]; exact h)]
theorem nw_L {st : aS} {n a b c : Nat} (h0 : st.2.2.2 0 = n) (h6 : st.2.2.2 6 = n) (h : ¬ (a = 0 ∧ b = n)) (g : ¬ (a = 6 ∧ b = n)) : (nw st n).2.1 a b c = st.2.1 a b c := by
  show (sNew (sI (sNew st 0) 0 n 0 (nI n)) 6).2.1 a b c = _
  have e6 : (sI (sNew st 0) 0 n 0 (nI n)).2.2.2 6 = n := (show (sNew st 0).2.2.2 6 = n from (sNew_an (by decide)).trans h6)
  rw [sNew_2 (by rw [e6]; exact g)]
  exact sNew_2 (by rw [h0]; exact h)
theorem nw_R {st : aS} {n a b c : Nat} (h0 : st.2.2.2 0 = n) (h6 : st.2.2.2 6 = n) (h : ¬ (a = 0 ∧ b = n)) (g : ¬ (a = 6 ∧ b = n)) (k : ¬ (a = 10 ∧ b = 0 ∧ c = n)) : (nw st n).2.2.1 a b c = st.2.2.1 a b c := by
  unfold nw
  have e6 : (sI (sNew st 0) 0 n 0 (nI n)).2.2.2 6 = n := (show (sNew st 0).2.2.2 6 = n from (sNew_an (by decide)).trans h6)
  rw [sR_ne k, sR_ne (by omega), sNew_3 (by rw [e6]; exact g)]
  exact sNew_3 (by rw [h0]; exact h)
theorem nw_00 {st : aS} {n : Nat} (h6 : st.2.2.2 6 = n) : (nw st n).1 0 n 0 = nI n := by
  show (sNew (sI (sNew st 0) 0 n 0 (nI n)) 6).1 0 n 0 = _
  rw [sNew_1 (by omega)]
  exact sI_eq
theorem nw_01 {st : aS} {n : Nat} : (nw st n).2.2.1 0 n 1 = some n := (sR_ne (by omega)).trans sR_eq
theorem nw_10 {st : aS} {n : Nat} : (nw st n).2.2.1 10 0 n = some n := sR_eq
theorem nw_al0 {st : aS} {n : Nat} (h0 : st.2.2.2 0 = n) : (nw st n).2.2.2 0 = n + 1 := by
  show (sNew (sI (sNew st 0) 0 n 0 (nI n)) 6).2.2.2 0 = _
  rw [sNew_an (by decide)]
  show (sNew st 0).2.2.2 0 = _
  rw [sNew_ae, h0]
theorem nw_al6 {st : aS} {n : Nat} (h6 : st.2.2.2 6 = n) : (nw st n).2.2.2 6 = n + 1 := by
  show (sNew (sI (sNew st 0) 0 n 0 (nI n)) 6).2.2.2 6 = _
  rw [sNew_ae]
  show (sNew st 0).2.2.2 6 + 1 = _
  rw [sNew_an (by decide), h6]
theorem nw_EqM {st : aS} {n : Nat} : EqM st (nw st n) := ((((EqM.N (by omega)).tr (EqM.I (by omega))).tr (EqM.N (by omega))).tr (EqM.R (by omega))).tr (EqM.R (by omega))
section GQ
variable {st : aS} {n up : Nat} {s p : Int32} {rv : Nat → Nat} {m dp len : Nat} {la : Option Nat} {I0 : Int64}
theorem bec_I {a b c : Nat} (h : ¬ (a = 0 ∧ b = n)) : (bec st n s p).1 a b c = st.1 a b c := by
  show (sI (sI (sI (sI (sI st 0 n 3 s) 0 n 4 p) 0 n 2 0) 0 n 5 0) 0 n 6 0).1 a b c = _
  rw [sI_ne (by omega), sI_ne (by omega), sI_ne (by omega), sI_ne (by omega), sI_ne (by omega)]
theorem bec_R {a b c : Nat} (h : ¬ (a = 0 ∧ b = n)) : (bec st n s p).2.2.1 a b c = st.2.2.1 a b c := by
  show (sR (sR (sR (sR (sI (sI (sI (sI (sI st 0 n 3 s) 0 n 4 p) 0 n 2 0) 0 n 5 0) 0 n 6 0) 0 n 7 none) 0 n 8 none) 0 n 9 none) 0 n 10 none).2.2.1 a b c = _
  rw [sR_ne (by omega), sR_ne (by omega), sR_ne (by omega), sR_ne (by omega)]
  rfl
theorem bec_L {a b c : Nat} (h : ¬ (a = 0 ∧ b = n)) : (bec st n s p).2.1 a b c = st.2.1 a b c := by
  unfold bec
  rw [sL_ne (by omega), sL_ne (by omega)]
  rfl
theorem bec_al : (bec st n s p).2.2.2 = st.2.2.2 := rfl
theorem bec_n1 : (bec st n s p).2.2.1 0 n 1 = st.2.2.1 0 n 1 := by simp [bec, sL, sR, sI, u3]
theorem bec_n0 : (bec st n s p).1 0 n 0 = st.1 0 n 0 := by simp [bec, sL, sR, sI, u3]
theorem apd_I {a b c : Nat} (h : ¬ (a = 0 ∧ b = up ∧ c = 6)) (g : ¬ (a = 0 ∧ b = n ∧ c = 5)) : (apd st up n dp len la).1 a b c = st.1 a b c := by
  unfold apd
  rw [sI_ne h]
  cases la with
  | none => exact show (sI (sR st 0 n 7 (some up)) 0 n 5 (nI (dp + 1))).1 a b c = _ from sI_ne g
  | some z => exact show (sI (sR st 0 n 7 (some up)) 0 n 5 (nI (dp + 1))).1 a b c = _ from sI_ne g
theorem apd_6 : (apd st up n dp len la).1 0 up 6 = nI (len + 1) := sI_eq
theorem apd_5 : (apd st up n dp len la).1 0 n 5 = nI (dp + 1) := by
  unfold apd
  rw [sI_ne (by omega)]
  cases la with
  | none => exact show (sI (sR st 0 n 7 (some up)) 0 n 5 (nI (dp + 1))).1 0 n 5 = _ from sI_eq
  | some z => exact show (sI (sR st 0 n 7 (some up)) 0 n 5 (nI (dp + 1))).1 0 n 5 = _ from sI_eq
theorem apd_L : (apd st up n dp len la).2.1 = st.2.1 := by
  cases la <;> rfl
theorem apd_al : (apd st up n dp len la).2.2.2 = st.2.2.2 := by
  cases la <;> rfl
theorem apd_9 : (apd st up n dp len la).2.2.1 0 up 9 = some n := by
  cases la with
  | none => exact sR_eq
  | some z => exact sR_eq
theorem apd_7 (hne : up ≠ n) : (apd st up n dp len la).2.2.1 0 n 7 = some up := by
  cases la with
  | none => exact (sR_ne (by omega)).trans ((sR_ne (by omega)).trans sR_eq)
  | some z => exact (sR_ne (by omega)).trans ((sR_ne (by omega)).trans sR_eq)
theorem apd_8 : (apd st up n dp len la).2.2.1 0 up 8 = (if la = none then some n else st.2.2.1 0 up 8) := by
  cases la with
  | none => rw [if_pos rfl]; exact (sR_ne (by omega)).trans sR_eq
  | some z => rw [if_neg (by simp)]; exact (sR_ne (by omega)).trans ((sR_ne (by omega)).trans (sR_ne (by omega)))
theorem apd_10 {b : Nat} : (apd st up n dp len la).2.2.1 0 b 10 = (if la = some b then some n else st.2.2.1 0 b 10) := by
  cases la with
  | none => rw [if_neg (by simp)]; exact (sR_ne (by omega)).trans ((sR_ne (by omega)).trans (sR_ne (by omega)))
  | some z =>
    by_cases e : z = b
    · subst e; rw [if_pos rfl]; exact (sR_ne (by omega)).trans sR_eq
    · rw [if_neg (by simpa using e)]; exact (sR_ne (by omega)).trans ((sR_ne (by omega)).trans (sR_ne (by omega)))
theorem apd_R {a b c : Nat} (h : ¬ (a = 0 ∧ (c = 10 ∨ (b = up ∧ (c = 8 ∨ c = 9)) ∨ (b = n ∧ c = 7)))) : (apd st up n dp len la).2.2.1 a b c = st.2.2.1 a b c := by
  cases la with
  | none => exact (sR_ne (by omega)).trans ((sR_ne (by omega)).trans (sR_ne (by omega)))
  | some z => exact (sR_ne (by omega)).trans ((sR_ne (by omega)).trans (sR_ne (by omega)))
/-! the state before the variables are spread -/
theorem gq_I {a b c : Nat} (h1 : ¬ a = 2) (h2 : ¬ (a = 0 ∧ b = up ∧ c = 6)) (h3 : ¬ (a = 0 ∧ b = n)) (h4 : ¬ (a = 6 ∧ b = n)) : (gq st n up s p rv m dp len la I0).1 a b c = st.1 a b c := by
  unfold gq
  rw [sI_ne (by omega), apd_I h2 (by omega), tvF_I _ _ _ _ _ h4 (by omega)]
  exact (show (bec st n s p).1 a b c = _ from bec_I h3)
theorem gq_22 : (gq st n up s p rv m dp len la I0).1 2 0 2 = nI (n + 1) := sI_eq
theorem gq_6 : (gq st n up s p rv m dp len la I0).1 0 up 6 = nI (len + 1) := (sI_ne (by omega)).trans apd_6
theorem gq_n5 : (gq st n up s p rv m dp len la I0).1 0 n 5 = nI (dp + 1) := (sI_ne (by omega)).trans apd_5
theorem gq_n2 (hne : up ≠ n) : (gq st n up s p rv m dp len la I0).1 0 n 2 = nI m := by
  unfold gq
  rw [sI_ne (by omega), apd_I (by omega) (by omega), tvF_2 _ _ _ _ _ (show (sL (bec st n s p) 0 n 12 I0).1 0 n 2 = nI 0 by simp [bec, sL, sR, sI, u3, nI_0]), Nat.zero_add]
theorem gq_n (hne : up ≠ n) : (gq st n up s p rv m dp len la I0).1 0 n 3 = s ∧ (gq st n up s p rv m dp len la I0).1 0 n 4 = p ∧ (gq st n up s p rv m dp len la I0).1 0 n 6 = 0 ∧ (gq st n up s p rv m dp len la I0).1 0 n 0 = st.1 0 n 0 := by
  unfold gq
  refine ⟨?_, ?_, ?_, ?_⟩
  · rw [sI_ne (by omega), apd_I (by omega) (by omega), tvF_I _ _ _ _ _ (by omega) (by omega)]
    simp [bec, sL, sR, sI, u3]
  · rw [sI_ne (by omega), apd_I (by omega) (by omega), tvF_I _ _ _ _ _ (by omega) (by omega)]
    simp [bec, sL, sR, sI, u3]
  · rw [sI_ne (by omega), apd_I (by omega) (by omega), tvF_I _ _ _ _ _ (by omega) (by omega)]
    simp [bec, sL, sR, sI, u3]
  · rw [sI_ne (by omega), apd_I (by omega) (by omega), tvF_I _ _ _ _ _ (by omega) (by omega)]
    simp [bec, sL, sR, sI, u3]
theorem gq_66 {j : Nat} (hj : j < m) : (gq st n up s p rv m dp len la I0).1 6 n j = nI (rv j) := by
  unfold gq
  rw [sI_ne (by omega), apd_I (by omega) (by omega)]
  exact tvF_6 _ _ _ _ _ (fun x hx => absurd hx (by omega)) (by omega)
theorem gq_L {a b c : Nat} (h3 : ¬ (a = 0 ∧ b = n)) : (gq st n up s p rv m dp len la I0).2.1 a b c = st.2.1 a b c := by
  show (apd (tvF n rv m 0 (sL (bec st n s p) 0 n 12 I0)) up n dp len la).2.1 a b c = _
  rw [apd_L, tvF_L _ _ _ _ _ (by omega), sL_ne (by omega)]
  exact bec_L h3
theorem gq_12 : (gq st n up s p rv m dp len la I0).2.1 0 n 12 = I0 := by
  show (apd (tvF n rv m 0 (sL (bec st n s p) 0 n 12 I0)) up n dp len la).2.1 0 n 12 = _
  rw [apd_L, tvF_L _ _ _ _ _ (by omega)]
  exact sL_eq
theorem gq_11 : (gq st n up s p rv m dp len la I0).2.1 0 n 11 = rowS m rv 0 := by
  show (apd (tvF n rv m 0 (sL (bec st n s p) 0 n 12 I0)) up n dp len la).2.1 0 n 11 = _
  rw [apd_L, tvF_11]
  have : (sL (bec st n s p) 0 n 12 I0).2.1 0 n 11 = 0 := by simp [bec, sL, sR, sI, u3]
  rw [this]
  rfl
theorem gq_al : (gq st n up s p rv m dp len la I0).2.2.2 = st.2.2.2 := by
  show (apd (tvF n rv m 0 (sL (bec st n s p) 0 n 12 I0)) up n dp len la).2.2.2 = _
  rw [apd_al, tvF_R]
  rfl
theorem gq_R {a b c : Nat} (h : ¬ (a = 0 ∧ (c = 10 ∨ (b = up ∧ (c = 8 ∨ c = 9)) ∨ (b = n ∧ c = 7)))) (h3 : ¬ (a = 0 ∧ b = n)) : (gq st n up s p rv m dp len la I0).2.2.1 a b c = st.2.2.1 a b c := by
  show (apd (tvF n rv m 0 (sL (bec st n s p) 0 n 12 I0)) up n dp len la).2.2.1 a b c = _
  rw [apd_R h, tvF_R]
  exact bec_R h3
theorem gq_n1 (hne : up ≠ n) : (gq st n up s p rv m dp len la I0).2.2.1 0 n 1 = st.2.2.1 0 n 1 := by
  show (apd (tvF n rv m 0 (sL (bec st n s p) 0 n 12 I0)) up n dp len la).2.2.1 0 n 1 = _
  rw [apd_R (by omega), tvF_R]
  exact bec_n1
theorem gq_n7 (hne : up ≠ n) : (gq st n up s p rv m dp len la I0).2.2.1 0 n 7 = some up := apd_7 (len := len) hne
theorem gq_n89 (hne : up ≠ n) : (gq st n up s p rv m dp len la I0).2.2.1 0 n 8 = none ∧ (gq st n up s p rv m dp len la I0).2.2.1 0 n 9 = none := by
  constructor
  · show (apd (tvF n rv m 0 (sL (bec st n s p) 0 n 12 I0)) up n dp len la).2.2.1 0 n 8 = _
    rw [apd_R (by omega), tvF_R]
    simp [bec, sL, sR, sI, u3]
  · show (apd (tvF n rv m 0 (sL (bec st n s p) 0 n 12 I0)) up n dp len la).2.2.1 0 n 9 = _
    rw [apd_R (by omega), tvF_R]
    simp [bec, sL, sR, sI, u3]
theorem gq_9 : (gq st n up s p rv m dp len la I0).2.2.1 0 up 9 = some n := apd_9 (len := len)
theorem gq_8 (hne : up ≠ n) : (gq st n up s p rv m dp len la I0).2.2.1 0 up 8 = (if la = none then some n else st.2.2.1 0 up 8) := by
  show (apd (tvF n rv m 0 (sL (bec st n s p) 0 n 12 I0)) up n dp len la).2.2.1 0 up 8 = _
  rw [apd_8, tvF_R, show (sL (bec st n s p) 0 n 12 I0).2.2.1 0 up 8 = st.2.2.1 0 up 8 from bec_R (by omega)]
theorem gq_10 {b : Nat} (hb : b ≠ n) : (gq st n up s p rv m dp len la I0).2.2.1 0 b 10 = (if la = some b then some n else st.2.2.1 0 b 10) := by
  show (apd (tvF n rv m 0 (sL (bec st n s p) 0 n 12 I0)) up n dp len la).2.2.1 0 b 10 = _
  rw [apd_10, tvF_R, show (sL (bec st n s p) 0 n 12 I0).2.2.1 0 b 10 = st.2.2.1 0 b 10 from bec_R (by omega)]
theorem gq_n10 (hla : la ≠ some n) : (gq st n up s p rv m dp len la I0).2.2.1 0 n 10 = none := by
  show (apd (tvF n rv m 0 (sL (bec st n s p) 0 n 12 I0)) up n dp len la).2.2.1 0 n 10 = _
  rw [apd_10, if_neg hla, tvF_R]
  simp [bec, sL, sR, sI, u3]
theorem gq_EqM : EqM st (gq st n up s p rv m dp len la I0) := by
  refine ⟨fun a b c h => gq_I (by omega) (by omega) (by omega) (by omega), fun a b c h => gq_L (by omega), fun b c => gq_R (by omega) (by omega)⟩
end GQ
