section J2
variable {l : Launch} {D : mD} {d : Nat} {st : aS}
/-- of the class only the nodes, their rows and all refs stay -/
def EqG (st s' : aS) : Prop := (∀ a b c, a = 0 ∨ a = 6 → s'.1 a b c = st.1 a b c) ∧ (∀ b c, s'.2.1 0 b c = st.2.1 0 b c) ∧ s'.2.2 = st.2.2
theorem CN.g {E : EE} {w : Int64} {s' : aS} (h : CN E w st) (q : EqG st s') : CN E w s' := by
  intro i hi
  obtain ⟨a1, a2, a3, a4, a5, a6, a7, a8, a9, a10, a11⟩ := h i hi
  have r : ∀ j c, s'.2.2.1 0 j c = st.2.2.1 0 j c := fun j c => congrArg (fun z => z.1 0 j c) q.2.2
  exact ⟨(q.1 0 i 3 (by omega)).trans a1, (q.1 0 i 5 (by omega)).trans a2, (q.1 0 i 6 (by omega)).trans a3, (r i 7).trans a4, (r i 8).trans a5, (r i 9).trans a6, fun k p hk => (r p 10).trans (a7 k p hk), (q.2.1 i 11).trans a8, by rw [q.2.1 i 12]; exact a9, ⟨(q.1 0 i 2 (by omega)).trans a10.1, a10.2.1, (r i 1).trans a10.2.2.1, fun k hk => ⟨(q.1 6 i k (by omega)).trans (a10.2.2.2 k hk).1, (a10.2.2.2 k hk).2⟩⟩, fun z => (q.1 0 i 4 (by omega)).trans (a11 z)⟩
def EqH (st s' : aS) : Prop := (∀ a b c, (15 ≤ a ∧ a ≤ 24) → s'.1 a b c = st.1 a b c) ∧ s'.2.2 = st.2.2
theorem MN.h {E : EE} {s' : aS} (h : MN E st) (q : EqH st s') : MN E s' := by
  intro i hi
  obtain ⟨a1, a2, a3, a4, a5, a6, a7, a8, a9⟩ := h i hi
  exact ⟨(q.1 _ _ _ (by omega)).trans a1, (q.1 _ _ _ (by omega)).trans a2, (q.1 _ _ _ (by omega)).trans a3, (q.1 _ _ _ (by omega)).trans a4, (q.1 _ _ _ (by omega)).trans a5, (q.1 _ _ _ (by omega)).trans a6, fun k p hk => (q.1 _ _ _ (by omega)).trans (a7 k p hk), ⟨(q.1 _ _ _ (by omega)).trans a8.1, a8.2.1, a8.2.2.1, fun k hk => ⟨(q.1 _ _ _ (by omega)).trans (a8.2.2.2 k hk).1, (a8.2.2.2 k hk).2⟩⟩, fun z => (q.1 _ _ _ (by omega)).trans (a9 z)⟩
theorem atomR_no {s w md md' : Nat} {vr : Nat → Nat} {ou ou' : Nat → Int32} {S : Int64} (h : s ≠ 12) : atomR s w vr md ou S = atomR s w vr md' ou' S := by
  unfold atomR
  rw [if_neg h, if_neg h]
theorem OD.p {E : EE} {np : Nat} {ar md : Nat → Nat} {ou : Nat → Nat → Int32} (h : OD E st) (hT : TR E) (hm : ∀ p, p < eNp E → md p = eMd E p ∧ ou p = eOu E p) : OD (eSetP E np ar md ou) st := by
  intro i hi
  obtain ⟨h1, h2, h3⟩ := h i hi
  have hQ := (hT.2.2 i hi).2.2.2.2.2.2.1
  have eE : ∀ S, eA (eSetP E np ar md ou) i S = eA E i S := by
    intro S
    show atomR (eS E i) (eW E i) (eV E i) (md (eQ E i)) (ou (eQ E i)) S = atomR (eS E i) (eW E i) (eV E i) (eMd E (eQ E i)) (eOu E (eQ E i)) S
    by_cases e : eS E i = 12
    · rw [(hm _ (hQ e)).1, (hm _ (hQ e)).2]
    · exact atomR_no e
  have eB : ∀ w x, bcE (eSetP E np ar md ou) i w x ↔ bcE E i w x := by
    intro w x
    show (eS E i = 8 ∧ w = 1 ∧ 0 < x) ∨ (eS E i = 12 ∧ ∃ m, m < md (eQ E i) ∧ w = nI m ∧ oB (ou (eQ E i) m) x = true) ↔ (eS E i = 8 ∧ w = 1 ∧ 0 < x) ∨ (eS E i = 12 ∧ ∃ m, m < eMd E (eQ E i) ∧ w = nI m ∧ oB (eOu E (eQ E i) m) x = true)
    refine or_congr Iff.rfl ⟨fun q => ?_, fun q => ?_⟩
    · rw [(hm _ (hQ q.1)).1, (hm _ (hQ q.1)).2] at q; exact q
    · rw [(hm _ (hQ q.1)).1, (hm _ (hQ q.1)).2]; exact q
  refine ⟨h1, fun z => ?_, h3⟩
  obtain ⟨k1, k2, k3⟩ := h2 z
  refine ⟨by rw [eE]; exact k1, k2, fun x hx => ?_⟩
  have := k3 x hx
  rw [eB]
  refine this.trans (and_congr Iff.rfl (or_congr Iff.rfl ⟨fun ⟨j, q1, q2, q3⟩ => ⟨j, q1, (eB _ _).mpr q2, q3⟩, fun ⟨j, q1, q2, q3⟩ => ⟨j, q1, (eB _ _).mp q2, q3⟩⟩))
theorem J_predicate (hJ : JE st) (x : Int32) (hd : 1 ≤ d) : MC l D mG_predicate d 0 0 [vR (some (4, 0)), vI x] st (JQ l D mM_predicate d [vR (some (5, 0)), vI x]) := by
  obtain ⟨E, rm, rv, g, w, od, sk, hJ⟩ := hJ
  obtain ⟨j1, j2, j3, j4, j5, j6, j7, j8, j9, j10⟩ := id hJ
  obtain ⟨c1, c2, c3, c4, c5, c6, c7, c8, c9, c10, c11⟩ := id j8
  obtain ⟨m1, m2, m3, m4, m5, m6, m7, m8, m9, m10⟩ := id j9
  refine MC.mono (c_G_predicate x c1 c4 hd) (fun u s1 h => ?_)
  obtain ⟨rfl, rfl⟩ := h
  refine ⟨_, rfl, ?_⟩
  by_cases hP : pdP (eNp E) x
  · rw [if_pos hP, if_pos hP]
    obtain ⟨t, ht, rfl⟩ := nI_of2 (M := 6) (n := 6) rfl hP.2.1 hP.2.2
    have hnp := hP.1
    have qM : EqM st (sI (sI st 7 0 (eNp E) (nI t)) 1 0 3 (nI (eNp E + 1))) := (EqM.I (by omega)).tr (EqM.I (by omega))
    refine MC.mono (c_M_predicate (x := nI t) (j9.eq qM)) (fun u2 s2 h2 => ?_)
    obtain ⟨rfl, rfl⟩ := h2
    rw [if_pos hP, if_pos hP]
    have qG : EqG st (sI (sI st 7 0 (eNp E) (nI t)) 1 0 3 (nI (eNp E + 1))) := ⟨fun a b c h => (sI_ne (by omega)).trans (sI_ne (by omega)), fun _ _ => rfl, rfl⟩
    have e1 : ∀ {a b c : Nat}, ¬ (a = 7 ∧ c = eNp E) → ¬ a = 1 → (sI (sI st 7 0 (eNp E) (nI t)) 1 0 3 (nI (eNp E + 1))).1 a b c = st.1 a b c := fun h1 h2 => (sI_ne (by omega)).trans (sI_ne (by omega))
    have qC : EqC (sI (sI st 7 0 (eNp E) (nI t)) 1 0 3 (nI (eNp E + 1))) (sI (sI (sI (sI (sI (sI st 7 0 (eNp E) (nI t)) 1 0 3 (nI (eNp E + 1))) 5 0 0 0) 12 0 (eNp E) (nI t)) 13 0 (eNp E) 0) 5 0 1 (nI (eNp E + 1))) := (((EqC.I (by omega)).tr (EqC.I (by omega))).tr (EqC.I (by omega))).tr (EqC.I (by omega))
    have e2 : ∀ {a b c : Nat}, ¬ (a = 12 ∧ c = eNp E) → ¬ (a = 13 ∧ c = eNp E) → ¬ (a = 5 ∧ (c = 0 ∨ c = 1)) → ¬ a = 1 → ¬ a = 7 → (sI (sI (sI (sI (sI (sI st 7 0 (eNp E) (nI t)) 1 0 3 (nI (eNp E + 1))) 5 0 0 0) 12 0 (eNp E) (nI t)) 13 0 (eNp E) 0) 5 0 1 (nI (eNp E + 1))).1 a b c = st.1 a b c := fun h1 h2 h3 h4 h5 => (sI_ne (by omega)).trans ((sI_ne (by omega)).trans ((sI_ne (by omega)).trans ((sI_ne (by omega)).trans (e1 (by omega) (by omega)))))
    obtain ⟨p1, p2, p3, p4, p5, p6, p7, p8⟩ := id c4
    refine ⟨rfl, eSetP E (eNp E + 1) (fun p => if p = eNp E then t else eAr E p) (fun p => if p = eNp E then 0 else eMd E p) (eOu E), rm, rv, g, w, od, sk, ?_, j2, j3, j4, j5, j6, j7, CG.eq (st := sI (sI st 7 0 (eNp E) (nI t)) 1 0 3 (nI (eNp E + 1))) ⟨c1, ⟨c2.1, c2.2.1, c2.2.2.1, c2.2.2.2.1, fun i hi => ⟨(e1 (by omega) (by omega)).trans (c2.2.2.2.2 i hi).1, (c2.2.2.2.2 i hi).2⟩⟩, c3.g qG, ⟨p1, p2, p3, sI_eq, hnp, fun p hp => ?_, fun p m hp hm => ?_, fun p hp hq => ?_⟩, (e1 (by omega) (by omega)).trans c5, (e1 (by omega) (by omega)).trans c6, fun k hk => (e1 (by omega) (by omega)).trans (c7 k hk), c8, c9, (e1 (by omega) (by omega)).trans c10, (e1 (by omega) (by omega)).trans c11⟩ qC, ⟨m1, m2.h ⟨fun a b c h => e2 (by omega) (by omega) (by omega) (by omega) (by omega), rfl⟩, ⟨sI_eq, hnp, fun p hp => ?_⟩, (e2 (by omega) (by omega) (by omega) (by omega) (by omega)).trans m4, (e2 (by omega) (by omega) (by omega) (by omega) (by omega)).trans m5, fun k hk => (e2 (by omega) (by omega) (by omega) (by omega) (by omega)).trans (m6 k hk), m7, m8, (e2 (by omega) (by omega) (by omega) (by omega) (by omega)).trans m9, (e2 (by omega) (by omega) (by omega) (by omega) (by omega)).trans m10⟩, fun z => OD.p ((j10 z).eq (fun i hi => ⟨rfl, e2 (by omega) (by omega) (by omega) (by omega) (by omega), rfl, rfl⟩) (fun i hi => ⟨rfl, e2 (by omega) (by omega) (by omega) (by omega) (by omega), e2 (by omega) (by omega) (by omega) (by omega) (by omega), e2 (by omega) (by omega) (by omega) (by omega) (by omega)⟩) j1) j1 (fun p hp => ⟨if_neg (by omega), rfl⟩)⟩
    · refine ⟨j1.1, j1.2.1, fun i hi => ?_⟩
      obtain ⟨t1, t2, t3, t4, t5, t6, t7, t8⟩ := j1.2.2 i hi
      exact ⟨t1, t2, t3, t4, t5, t6, fun z => Nat.lt_succ_of_lt (t7 z), t8⟩
    · by_cases e : p = eNp E
      · subst e
        show _ = nI (if eNp E = eNp E then t else eAr E (eNp E)) ∧ (if eNp E = eNp E then t else eAr E (eNp E)) ≤ 6 ∧ _ = nI (if eNp E = eNp E then 0 else eMd E (eNp E)) ∧ (if eNp E = eNp E then 0 else eMd E (eNp E)) ≤ 4
        rw [if_pos rfl, if_pos rfl]
        exact ⟨(sI_ne (by omega)).trans sI_eq, by omega, (e1 (by omega) (by omega)).trans (p8 _ (Nat.le_refl _) hnp), by omega⟩
      · have hp' : p < eNp E := by have : p < eNp E + 1 := hp; omega
        show _ = nI (if p = eNp E then t else eAr E p) ∧ (if p = eNp E then t else eAr E p) ≤ 6 ∧ _ = nI (if p = eNp E then 0 else eMd E p) ∧ (if p = eNp E then 0 else eMd E p) ≤ 4
        rw [if_neg e, if_neg e]
        exact ⟨(e1 (by omega) (by omega)).trans (p6 p hp').1, (p6 p hp').2.1, (e1 (by omega) (by omega)).trans (p6 p hp').2.2.1, (p6 p hp').2.2.2⟩
    · by_cases e : p = eNp E
      · subst e
        have : m < (fun p => if p = eNp E then 0 else eMd E p) (eNp E) := hm
        rw [show (fun p => if p = eNp E then 0 else eMd E p) (eNp E) = 0 from if_pos rfl] at this
        omega
      · have hp' : p < eNp E := by have : p < eNp E + 1 := hp; omega
        have hm' : m < eMd E p := by
          have : m < (fun p => if p = eNp E then 0 else eMd E p) p := hm
          rw [show (fun p => if p = eNp E then 0 else eMd E p) p = eMd E p from if_neg e] at this
          exact this
        exact (e1 (by omega) (by omega)).trans (p7 p m hp' hm')
    · have hp' : eNp E + 1 ≤ p := hp
      exact (e1 (by omega) (by omega)).trans (p8 p (by omega) hq)
    · by_cases e : p = eNp E
      · subst e
        show _ = nI (if eNp E = eNp E then t else _) ∧ (if eNp E = eNp E then t else _) ≤ 6 ∧ _ = nI (if eNp E = eNp E then 0 else _) ∧ (if eNp E = eNp E then 0 else _) ≤ 4 ∧ ∀ m, m < (if eNp E = eNp E then 0 else _) → _
        rw [if_pos rfl, if_pos rfl]
        exact ⟨(sI_ne (by omega)).trans ((sI_ne (by omega)).trans sI_eq), by omega, (sI_ne (by omega)).trans sI_eq, by omega, fun m hm => absurd hm (by omega)⟩
      · have hp' : p < eNp E := by have : p < eNp E + 1 := hp; omega
        show _ = nI (if p = eNp E then t else _) ∧ (if p = eNp E then t else _) ≤ 6 ∧ _ = nI (if p = eNp E then 0 else _) ∧ (if p = eNp E then 0 else _) ≤ 4 ∧ ∀ m, m < (if p = eNp E then 0 else _) → _
        rw [if_neg e, if_neg e]
        obtain ⟨b1, b2, b3, b4, b5⟩ := m3.2.2 p hp'
        exact ⟨(e2 (by omega) (by omega) (by omega) (by omega) (by omega)).trans b1, b2, (e2 (by omega) (by omega) (by omega) (by omega) (by omega)).trans b3, b4, fun m hm => (e2 (by omega) (by omega) (by omega) (by omega) (by omega)).trans (b5 m hm)⟩
  · rw [if_neg hP, if_neg hP]
    refine MC.mono (c_M_predicate (x := x) j9) (fun u2 s2 h2 => ?_)
    obtain ⟨rfl, rfl⟩ := h2
    rw [if_neg hP, if_neg hP]
    exact ⟨rfl, E, rm, rv, g, w, od, sk, hJ.th⟩
end J2
