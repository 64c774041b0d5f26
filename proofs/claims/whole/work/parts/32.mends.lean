def ends (st : aS) (F i : Nat) (g : Int32) (S : Int64) : aS := sL (sI (sI st 5 0 38 (nI F)) 31 0 i g) 30 0 i S
theorem ends_MT {E : EE} {st : aS} {F i : Nat} {g : Int32} {S : Int64} : MT E i F st (ends st F i g S) := ((MT.pT (Or.inl rfl)).tr (MT.pI (by omega) subP_self (by omega))).tr (MT.pL (Or.inr rfl) subP_self)
theorem ends_38 {st : aS} {F i : Nat} {g : Int32} {S : Int64} : (ends st F i g S).1 5 0 38 = nI F := show (sI (sI st 5 0 38 (nI F)) 31 0 i g).1 5 0 38 = _ from (sI_ne (by omega)).trans sI_eq
theorem ends_39 {st : aS} {F i : Nat} {g : Int32} {S : Int64} : (ends st F i g S).1 5 0 39 = st.1 5 0 39 := show (sI (sI st 5 0 38 (nI F)) 31 0 i g).1 5 0 39 = _ from (sI_ne (by omega)).trans (sI_ne (by omega))
theorem ends_31 {st : aS} {F i : Nat} {g : Int32} {S : Int64} : (ends st F i g S).1 31 0 i = g := show (sI (sI st 5 0 38 (nI F)) 31 0 i g).1 31 0 i = _ from sI_eq
theorem ends_30 {st : aS} {F i : Nat} {g : Int32} {S : Int64} : (ends st F i g S).2.1 30 0 i = S := sL_eq
theorem ends_29 {st : aS} {F i m : Nat} {g : Int32} {S : Int64} : (ends st F i g S).2.1 29 0 m = st.2.1 29 0 m := sL_ne (by omega)
theorem ends_I {st : aS} {F i a m : Nat} {g : Int32} {S : Int64} (h : 32 ≤ a) : (ends st F i g S).1 a 0 m = st.1 a 0 m := show (sI (sI st 5 0 38 (nI F)) 31 0 i g).1 a 0 m = _ from (sI_ne (by omega)).trans (sI_ne (by omega))
theorem ends_blF {E : EE} (hT : TR E) {st : aS} {F i f j k : Nat} {g : Int32} {S : Int64} (hj : j < eN E) (h : blF E st f j k) : blF E (ends st F i g S) f j k := h.keep hT hj (fun m _ => ends_I (by omega))
theorem nx_some {p : Nat} : nx (some p) = nI p := rfl
theorem nx_ne {o : Option Nat} (h : ∀ p, o = some p → p < 250) : nx o = -1 ↔ o = none := by
  cases o with
  | none => exact ⟨fun _ => rfl, fun _ => rfl⟩
  | some p =>
    constructor
    · intro q
      have hp := h p rfl
      have q2 : nI p = -1 := q
      exact absurd (by rw [q2]; decide) (nI_pos (n := p) (by omega))
    · intro q; cases q
