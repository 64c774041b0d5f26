section J3
variable {l : Launch} {D : mD} {d : Nat} {st : aS}
theorem TR.p {E : EE} {np : Nat} {ar md : Nat → Nat} {ou : Nat → Nat → Int32} (h : TR E) (hn : eNp E ≤ np) : TR (eSetP E np ar md ou) := by
  refine ⟨h.1, h.2.1, fun i hi => ?_⟩
  obtain ⟨t1, t2, t3, t4, t5, t6, t7, t8⟩ := h.2.2 i hi
  exact ⟨t1, t2, t3, t4, t5, t6, fun z => Nat.lt_of_lt_of_le (t7 z) hn, t8⟩
theorem moP_of {np x} {md : Nat → Nat} (h : moP np md x) (hn : np < 2 ^ 31) : ∃ j, j < np ∧ md j < 4 ∧ x = nI j := by
  obtain ⟨j, hj, rfl⟩ := isN_of h.1 hn
  refine ⟨j, hj, ?_, rfl⟩
  have := h.2
  rw [nI_clamp (by omega)] at this
  exact this
theorem J_mode (hJ : JE st) (x o : Int32) (hd : 2 ≤ d) : MC l D mG_mode d 0 0 [vR (some (4, 0)), vI x, vI o] st (JQ l D mM_mode d [vR (some (5, 0)), vI x, vI o]) := by
  obtain ⟨E, rm, rv, g, w, od, sk, hJ⟩ := hJ
  obtain ⟨j1, j2, j3, j4, j5, j6, j7, j8, j9, j10⟩ := id hJ
  obtain ⟨c1, c2, c3, c4, c5, c6, c7, c8, c9, c10, c11⟩ := id j8
  obtain ⟨m1, m2, m3, m4, m5, m6, m7, m8, m9, m10⟩ := id j9
  by_cases hP : moP (eNp E) (eMd E) x
  · obtain ⟨j, hj, hm, rfl⟩ := moP_of hP (by have := c4.2.2.2.2.1; omega)
    refine MC.mono (c_G_mode o c1 c4 hj hm hd) (fun u s1 h => ?_)
    obtain ⟨rfl, rfl⟩ := h
    refine ⟨_, rfl, ?_⟩
    have qM : EqM st (fgt (sI (sI st 9 0 (4 * j + eMd E j) o) 8 0 j (nI (eMd E j + 1)))) := (((EqM.I (by omega)).tr (EqM.I (by omega))).tr (EqM.I (by omega))).tr (EqM.I (by omega))
    have e1 : ∀ {a b c : Nat}, ¬ (a = 9 ∧ c = 4 * j + eMd E j) → ¬ (a = 8 ∧ c = j) → ¬ (a = 4 ∧ (c = 7 ∨ c = 8)) → (fgt (sI (sI st 9 0 (4 * j + eMd E j) o) 8 0 j (nI (eMd E j + 1)))).1 a b c = st.1 a b c := fun h1 h2 h3 => (sI_ne (by omega)).trans ((sI_ne (by omega)).trans ((sI_ne (by omega)).trans (sI_ne (by omega))))
    have e3 : (fgt (sI (sI st 9 0 (4 * j + eMd E j) o) 8 0 j (nI (eMd E j + 1)))).1 9 0 (4 * j + eMd E j) = o := (sI_ne (by omega)).trans ((sI_ne (by omega)).trans ((sI_ne (by omega)).trans sI_eq))
    have e4 : (fgt (sI (sI st 9 0 (4 * j + eMd E j) o) 8 0 j (nI (eMd E j + 1)))).1 8 0 j = nI (eMd E j + 1) := (sI_ne (by omega)).trans ((sI_ne (by omega)).trans sI_eq)
    have e5 : (fgt (sI (sI st 9 0 (4 * j + eMd E j) o) 8 0 j (nI (eMd E j + 1)))).1 4 0 7 = 0 := (sI_ne (by omega)).trans sI_eq
    have e6 : (fgt (sI (sI st 9 0 (4 * j + eMd E j) o) 8 0 j (nI (eMd E j + 1)))).1 4 0 8 = -1 := sI_eq
    have e7 : (fgt (sI (sI st 9 0 (4 * j + eMd E j) o) 8 0 j (nI (eMd E j + 1)))).2 = st.2 := rfl
    generalize fgt (sI (sI st 9 0 (4 * j + eMd E j) o) 8 0 j (nI (eMd E j + 1))) = s1 at *
    refine MC.mono (c_M_mode (o2 := o) (j9.eq qM) hj hm (by omega)) (fun u2 s2 h2 => ?_)
    obtain ⟨rfl, rfl⟩ := h2
    have qC : EqC s1 (mfg (sI (sI (sI s1 5 0 0 0) 14 0 (4 * j + eMd E j) o) 13 0 j (nI (eMd E j + 1)))) := ((((EqC.I (by omega)).tr (EqC.I (by omega))).tr (EqC.I (by omega))).tr (EqC.I (by omega))).tr (EqC.I (by omega))
    have f1 : ∀ {a b c : Nat}, ¬ (a = 14 ∧ c = 4 * j + eMd E j) → ¬ (a = 13 ∧ c = j) → ¬ (a = 5 ∧ (c = 0 ∨ c = 40 ∨ c = 41)) → (mfg (sI (sI (sI s1 5 0 0 0) 14 0 (4 * j + eMd E j) o) 13 0 j (nI (eMd E j + 1)))).1 a b c = s1.1 a b c := fun h1 h2 h3 => (sI_ne (by omega)).trans ((sI_ne (by omega)).trans ((sI_ne (by omega)).trans ((sI_ne (by omega)).trans (sI_ne (by omega)))))
    have f3 : (mfg (sI (sI (sI s1 5 0 0 0) 14 0 (4 * j + eMd E j) o) 13 0 j (nI (eMd E j + 1)))).1 14 0 (4 * j + eMd E j) = o := (sI_ne (by omega)).trans ((sI_ne (by omega)).trans ((sI_ne (by omega)).trans sI_eq))
    have f4 : (mfg (sI (sI (sI s1 5 0 0 0) 14 0 (4 * j + eMd E j) o) 13 0 j (nI (eMd E j + 1)))).1 13 0 j = nI (eMd E j + 1) := (sI_ne (by omega)).trans ((sI_ne (by omega)).trans sI_eq)
    have f5 : (mfg (sI (sI (sI s1 5 0 0 0) 14 0 (4 * j + eMd E j) o) 13 0 j (nI (eMd E j + 1)))).1 5 0 40 = 0 := (sI_ne (by omega)).trans sI_eq
    have f6 : (mfg (sI (sI (sI s1 5 0 0 0) 14 0 (4 * j + eMd E j) o) 13 0 j (nI (eMd E j + 1)))).1 5 0 41 = -1 := sI_eq
    have f7 : (mfg (sI (sI (sI s1 5 0 0 0) 14 0 (4 * j + eMd E j) o) 13 0 j (nI (eMd E j + 1)))).2 = s1.2 := rfl
    generalize mfg (sI (sI (sI s1 5 0 0 0) 14 0 (4 * j + eMd E j) o) 13 0 j (nI (eMd E j + 1))) = s2 at *
    have f2 : ∀ {a b c : Nat}, ¬ (a = 14 ∧ c = 4 * j + eMd E j) → ¬ (a = 13 ∧ c = j) → ¬ (a = 5 ∧ (c = 0 ∨ c = 40 ∨ c = 41)) → ¬ (a = 9 ∧ c = 4 * j + eMd E j) → ¬ (a = 8 ∧ c = j) → ¬ (a = 4 ∧ (c = 7 ∨ c = 8)) → s2.1 a b c = st.1 a b c := fun h1 h2 h3 h4 h5 h6 => (f1 h1 h2 h3).trans (e1 h4 h5 h6)
    have f8 : s2.2 = st.2 := f7.trans e7
    have p4 : pR s1 (eNp E) (eAr E) (fun p => if p = j then eMd E j + 1 else eMd E p) (fun p m => if p = j ∧ m = eMd E j then o else eOu E p m) := by
      obtain ⟨p1, p2, p3, p4, p5, p6, p7, p8⟩ := c4
      refine ⟨by rw [e7]; exact p1, by rw [e7]; exact p2, by rw [e7]; exact p3, (e1 (by omega) (by omega) (by omega)).trans p4, p5, fun p hp => ⟨(e1 (by omega) (by omega) (by omega)).trans (p6 p hp).1, (p6 p hp).2.1, ?_⟩, fun p m hp hm' => ?_, fun p hp hq => (e1 (by omega) (by omega) (by omega)).trans (p8 p hp hq)⟩
      · by_cases e : p = j
        · subst e; simp only [if_true]; exact ⟨e4, by omega⟩
        · simp only [if_neg e]
          exact ⟨(e1 (by omega) (by omega) (by omega)).trans (p6 p hp).2.2.1, (p6 p hp).2.2.2⟩
      · have hb := (p6 p hp).2.2.2
        have hb' := (p6 j hj).2.2.2
        by_cases e : p = j
        · subst e
          simp only [if_true] at hm'
          by_cases e' : m = eMd E p
          · subst e'; simp only [true_and, if_true]; exact e3
          · simp only [true_and, if_neg e']
            exact (e1 (by omega) (by omega) (by omega)).trans (p7 p m hp (by omega))
        · simp only [if_neg e] at hm'
          have : ¬ (p = j ∧ m = eMd E j) := fun z => e z.1
          simp only [if_neg this]
          exact (e1 (by omega) (by omega) (by omega)).trans (p7 p m hp hm')
    have q4 : mP s2 (eNp E) (eAr E) (fun p => if p = j then eMd E j + 1 else eMd E p) (fun p m => if p = j ∧ m = eMd E j then o else eOu E p m) := by
      refine ⟨(f2 (by omega) (by omega) (by omega) (by omega) (by omega) (by omega)).trans m3.1, m3.2.1, fun p hp => ?_⟩
      obtain ⟨b1, b2, b3, b4, b5⟩ := m3.2.2 p hp
      have hb' := (m3.2.2 j hj).2.2.2.1
      refine ⟨(f2 (by omega) (by omega) (by omega) (by omega) (by omega) (by omega)).trans b1, b2, ?_⟩
      by_cases e : p = j
      · subst e
        simp only [if_true, true_and]
        refine ⟨f4, by omega, fun m hm' => ?_⟩
        by_cases e' : m = eMd E p
        · subst e'; simp only [if_true]; exact f3
        · simp only [if_neg e']
          exact (f2 (by omega) (by omega) (by omega) (by omega) (by omega) (by omega)).trans (b5 m (by omega))
      · simp only [if_neg e, e, false_and, if_false]
        exact ⟨(f2 (by omega) (by omega) (by omega) (by omega) (by omega) (by omega)).trans b3, b4, fun m hm' => (f2 (by omega) (by omega) (by omega) (by omega) (by omega) (by omega)).trans (b5 m hm')⟩
    refine ⟨rfl, eSetP E (eNp E) (eAr E) (fun p => if p = j then eMd E j + 1 else eMd E p) (fun p m => if p = j ∧ m = eMd E j then o else eOu E p m), rm, rv, g, w, 0, -1, j1.p (Nat.le_refl _), j2, j3.eq (fun i hi => by rw [f8]), j4, j5, j6, Or.inl rfl, CG.eq (st := s1) ⟨?_, ?_, c3.g ⟨fun a b c h => e1 (by omega) (by omega) (by omega), fun b c => by rw [e7], by rw [e7]⟩, p4, (e1 (by omega) (by omega) (by omega)).trans c5, (e1 (by omega) (by omega) (by omega)).trans c6, fun k hk => (e1 (by omega) (by omega) (by omega)).trans (c7 k hk), by rw [e7]; exact c8, by rw [e7]; exact c9, e5, e6⟩ qC, ⟨fun j hj => by rw [f8]; exact m1 j hj, m2.h ⟨fun a b c h => f2 (by omega) (by omega) (by omega) (by omega) (by omega) (by omega), by rw [f8]⟩, q4, (f2 (by omega) (by omega) (by omega) (by omega) (by omega) (by omega)).trans m4, (f2 (by omega) (by omega) (by omega) (by omega) (by omega) (by omega)).trans m5, fun k hk => (f2 (by omega) (by omega) (by omega) (by omega) (by omega) (by omega)).trans (m6 k hk), by rw [f8]; exact m7, by rw [f8]; exact m8, f5, f6⟩, fun z => absurd z (by decide)⟩
    · exact CF.k c1 (by rw [e7])
    · exact CA.k c2 (by rw [e7]) (fun i => e1 (by omega) (by omega) (by omega))
  · refine MC.mono (c_G_mode_n o c1 c4 hP hd) (fun u s1 h => ?_)
    obtain ⟨rfl, rfl⟩ := h
    refine ⟨_, rfl, MC.mono (c_M_mode_n (x := x) (o2 := o) j9 hP) (fun u2 s2 h2 => ?_)⟩
    obtain ⟨rfl, rfl⟩ := h2
    exact ⟨rfl, E, rm, rv, g, w, od, sk, hJ.th⟩
end J3
