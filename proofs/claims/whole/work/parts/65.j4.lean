section J4
variable {l : Launch} {D : mD} {d : Nat} {st : aS} {np : Nat} {ar md : Nat → Nat} {ou : Nat → Nat → Int32}
theorem MG_new {X : aS} (hF : mF X) (hP : mP X np ar md ou) (h17 : X.1 5 0 17 = 0) (h18 : X.2.1 5 0 18 = 0) (h19 : X.2.1 5 0 19 = 0) : MG (eNew np ar md ou) 0 (fun _ => 0) 0 0 0 (-1) (mfg (mk0 X)) := by
  have e1 : ∀ {a c : Nat}, ¬ (a = 5 ∧ (c = 5 ∨ c = 40 ∨ c = 41)) → ¬ (15 ≤ a ∧ a ≤ 23 ∧ c = 0) → (mfg (mk0 X)).1 a 0 c = X.1 a 0 c := fun h1 h2 => (sI_ne (by omega)).trans ((sI_ne (by omega)).trans ((sI_ne (by omega)).trans ((sI_ne (by omega)).trans ((sI_ne (by omega)).trans ((sI_ne (by omega)).trans ((sI_ne (by omega)).trans ((sI_ne (by omega)).trans ((sI_ne (by omega)).trans ((sI_ne (by omega)).trans ((sI_ne (by omega)).trans (sI_ne (by omega))))))))))))
  refine ⟨hF, fun i hi => ?_, ⟨(e1 (by omega) (by omega)).trans hP.1, hP.2.1, fun p hp => ?_⟩, by simp [mfg, mk0, mk1, sI, u3, eNew], (e1 (by omega) (by omega)).trans h17, fun k hk => absurd hk (by omega), h18, h19, by simp [mfg, mk0, mk1, sI, u3], by simp [mfg, mk0, mk1, sI, u3]⟩
  · have : i = 0 := by have : i < 1 := hi; omega
    subst this
    refine ⟨by simp [mfg, mk0, mk1, sI, u3, eNew]; rfl, by simp [mfg, mk0, mk1, sI, u3, eNew]; rfl, by simp [mfg, mk0, mk1, sI, u3, eNew], by simp [mfg, mk0, mk1, sI, u3, eNew]; rfl, by simp [mfg, mk0, mk1, sI, u3, eNew]; rfl, by simp [mfg, mk0, mk1, sI, u3, eNew]; rfl, fun k p hk => absurd (show ([] : List Nat)[k]? = some p from hk) (by simp), ⟨by simp [mfg, mk0, mk1, sI, u3, eNew], Nat.zero_le _, by omega, fun k hk => absurd (show k < 0 from hk) (by omega)⟩, fun z => absurd (show 0 = 12 from z) (by omega)⟩
  · obtain ⟨b1, b2, b3, b4, b5⟩ := hP.2.2 p hp
    exact ⟨(e1 (by omega) (by omega)).trans b1, b2, (e1 (by omega) (by omega)).trans b3, b4, fun m hm => (e1 (by omega) (by omega)).trans (b5 m hm)⟩
/-- of the class: node 0 alone -/
def CZ (st : aS) : Prop := st.1 0 0 3 = 0 ∧ st.1 0 0 5 = 0 ∧ st.1 0 0 6 = 0 ∧ st.2.2.1 0 0 7 = none ∧ st.2.2.1 0 0 8 = none ∧ st.2.2.1 0 0 9 = none ∧ st.2.1 0 0 11 = 0 ∧ st.2.1 0 0 12 = 0 ∧ st.1 0 0 2 = 0 ∧ st.2.2.1 0 0 1 = some 0
theorem CG_new (h1 : CF st) (h2 : CA (eNew np ar md ou) st) (h3 : CZ st) (h4 : pR st np ar md ou) (h5 : st.1 2 0 2 = 1) (h6 : st.1 4 0 4 = 0) (h7 : st.2.1 4 0 5 = 0) (h8 : st.2.1 4 0 6 = 0) (h9 : st.1 4 0 7 = 0) (h10 : st.1 4 0 8 = -1) : CG (eNew np ar md ou) 0 (fun _ => 0) 0 0 0 (-1) st := by
  refine ⟨h1, h2, fun i hi => ?_, h4, h5, h6, fun k hk => absurd hk (by omega), h7, h8, h9, h10⟩
  have : i = 0 := by have : i < 1 := hi; omega
  subst this
  obtain ⟨z1, z2, z3, z4, z5, z6, z7, z8, z9, z10⟩ := h3
  exact ⟨z1, z2, z3, z4, z5, z6, fun k p hk => absurd (show ([] : List Nat)[k]? = some p from hk) (by simp), z7, by rw [z8]; rfl, ⟨z9, Nat.zero_le _, z10, fun k hk => absurd (show k < 0 from hk) (by omega)⟩, fun z => absurd (show 0 = 12 from z) (by omega)⟩
theorem JI_new (hC : CG (eNew np ar md ou) 0 (fun _ => 0) 0 0 0 (-1) st) (hM : MG (eNew np ar md ou) 0 (fun _ => 0) 0 0 0 (-1) st) (hz : st.2.1 0 0 12 = 0) : JI (eNew np ar md ou) 0 (fun _ => 0) 0 0 0 (-1) st := by
  have g0 : ∀ v, ¬ gB 0 v := fun v h => by simp [gB] at h
  refine ⟨⟨by show 1 ≤ 250; omega, fun j => Nat.zero_le j, fun i hi => ⟨Nat.zero_le _, Nat.zero_le _, List.nodup_nil, fun p hp => absurd (show p ∈ ([] : List Nat) from hp) (by simp), fun z => absurd z (by show ¬ 0 = 6; omega), fun z => absurd z (by show ¬ (0 = 8 ∨ 0 = 9 ∨ 0 = 10); omega), fun z => absurd z (by show ¬ 0 = 12; omega), fun z => absurd z (by show ¬ 3 < 0; omega)⟩⟩, ⟨by show 0 < 1; omega, rfl, rfl, rfl, fun m h1 h2 => absurd (show m < 1 from h2) (by omega), fun i hi => ⟨fun _ => Nat.zero_le _, fun _ => Nat.zero_le _, fun _ => rfl, fun _ => rfl, fun z => absurd z (by show ¬ 0 = 9; omega)⟩⟩, fun i hi v hv => ?_, fun v _ _ => g0 v, by omega, fun k hk => absurd hk (by omega), Or.inl rfl, hC, hM, fun z => absurd z (by decide)⟩
  have : i = 0 := by have : i < 1 := hi; omega
  subst this
  refine ⟨⟨fun h => absurd h (g0 v), fun ⟨m, _, _, j, hj, _⟩ => absurd (show j < 0 from hj) (by omega)⟩, ?_⟩
  rw [hz]
  exact ⟨fun h => absurd h (g0 v), fun ⟨m, _, _, j, hj, _⟩ => absurd (show j < 0 from hj) (by omega)⟩
/-- behind the class's void call, the reference's -/
def JV (l : Launch) (D : mD) (M : mM) (d mc ms : Nat) (av : List aV) (u : Option aV) (s1 : aS) : Prop := u = none ∧ MC l D M d mc ms av s1 (fun u2 s2 => u2 = none ∧ JE s2)
theorem J_clear (hJ : JE st) (hd : 2 ≤ d) : MC l D mG_clear d 0 0 [vR (some (4, 0))] st (JV l D mM_clear d 0 0 [vR (some (5, 0))]) := by
  obtain ⟨E, rm, rv, g, w, od, sk, hJ⟩ := hJ
  obtain ⟨j1, j2, j3, j4, j5, j6, j7, j8, j9, j10⟩ := id hJ
  obtain ⟨c1, c2, c3, c4, c5, c6, c7, c8, c9, c10, c11⟩ := id j8
  refine MC.mono (c_G_clear c1 hd) (fun u s1 h => ?_)
  obtain ⟨rfl, rfl⟩ := h
  have qM : EqM st (fgt (sL (sL (sI (sI (bec st 0 0 (-1)) 2 0 2 1) 4 0 4 0) 4 0 5 0) 4 0 6 0)) := by
    refine (((((EqM.tr ?_ (EqM.I (by omega))).tr (EqM.I (by omega))).tr (EqM.L (by omega))).tr (EqM.L (by omega))).tr (EqM.I (by omega))).tr (EqM.I (by omega))
    exact ⟨fun a b c h => bec_I (by omega), fun a b c h => bec_L (by omega), fun b c => bec_R (by omega)⟩
  have hN := c2.1
  have h0 := j2.1
  have e1 : ∀ {a b c : Nat}, ¬ (a = 0 ∧ b = 0) → ¬ (a = 2) → ¬ (a = 4) → (fgt (sL (sL (sI (sI (bec st 0 0 (-1)) 2 0 2 1) 4 0 4 0) 4 0 5 0) 4 0 6 0)).1 a b c = st.1 a b c := fun h1 h2 h3 => (sI_ne (by omega)).trans ((sI_ne (by omega)).trans ((sI_ne (by omega)).trans ((sI_ne (by omega)).trans (bec_I (by omega)))))
  have e2 : ∀ {a b c : Nat}, ¬ (a = 0 ∧ b = 0) → (fgt (sL (sL (sI (sI (bec st 0 0 (-1)) 2 0 2 1) 4 0 4 0) 4 0 5 0) 4 0 6 0)).2.2.1 a b c = st.2.2.1 a b c := fun h1 => bec_R h1
  have e3 : (fgt (sL (sL (sI (sI (bec st 0 0 (-1)) 2 0 2 1) 4 0 4 0) 4 0 5 0) 4 0 6 0)).2.2.2 = st.2.2.2 := rfl
  have hC : CG (eNew (eNp E) (eAr E) (eMd E) (eOu E)) 0 (fun _ => 0) 0 0 0 (-1) (fgt (sL (sL (sI (sI (bec st 0 0 (-1)) 2 0 2 1) 4 0 4 0) 4 0 5 0) 4 0 6 0)) := by
    obtain ⟨p1, p2, p3, p4, p5, p6, p7, p8⟩ := c4
    obtain ⟨f1, f2, f3, f4, f5, f6, f7⟩ := c1
    refine CG_new ⟨(e2 (by omega)).trans f1, (e2 (by omega)).trans f2, (e2 (by omega)).trans f3, (e2 (by omega)).trans f4, (e2 (by omega)).trans f5, (e2 (by omega)).trans f6, (e2 (by omega)).trans f7⟩ ⟨?_, ?_, ?_, fun i hi => ?_, fun i hi => ?_⟩ ?_ ⟨(e2 (by omega)).trans p1, (e2 (by omega)).trans p2, (e2 (by omega)).trans p3, (e1 (by omega) (by omega) (by omega)).trans p4, p5, fun p hp => ⟨(e1 (by omega) (by omega) (by omega)).trans (p6 p hp).1, (p6 p hp).2.1, (e1 (by omega) (by omega) (by omega)).trans (p6 p hp).2.2.1, (p6 p hp).2.2.2⟩, fun p m hp hm => (e1 (by omega) (by omega) (by omega)).trans (p7 p m hp hm), fun p hp hq => (e1 (by omega) (by omega) (by omega)).trans (p8 p hp hq)⟩ ?_ ?_ ?_ ?_ ?_ ?_
    · rw [e3]; show 1 ≤ _; omega
    · rw [e3]; exact c2.2.1
    · rw [e3]; exact c2.2.2.1
    · rw [e3, e2 (by omega)]; exact c2.2.2.2.1 i hi
    · rw [e3] at hi
      by_cases e : i = 0
      · subst e
        exact ⟨(by simp [fgt, bec, sI, sL, sR, u3] : _ = st.1 0 0 0).trans (c2.2.2.2.2 0 hi).1, (by simp [fgt, bec, sI, sL, sR, u3] : _ = st.2.2.1 0 0 1).trans (c2.2.2.2.2 0 hi).2⟩
      · exact ⟨(e1 (by omega) (by omega) (by omega)).trans (c2.2.2.2.2 i hi).1, (e2 (by omega)).trans (c2.2.2.2.2 i hi).2⟩
    · refine ⟨by simp [fgt, bec, sI, sL, sR, u3], by simp [fgt, bec, sI, sL, sR, u3], by simp [fgt, bec, sI, sL, sR, u3], by simp [fgt, bec, sI, sL, sR, u3], by simp [fgt, bec, sI, sL, sR, u3], by simp [fgt, bec, sI, sL, sR, u3], by simp [fgt, bec, sI, sL, sR, u3], by simp [fgt, bec, sI, sL, sR, u3], by simp [fgt, bec, sI, sL, sR, u3], (by simp [fgt, bec, sI, sL, sR, u3] : _ = st.2.2.1 0 0 1).trans (c2.2.2.2.2 0 (by omega)).2⟩
    · simp [fgt, bec, sI, sL, sR, u3]
    · simp [fgt, bec, sI, sL, sR, u3]
    · simp [fgt, bec, sI, sL, sR, u3]
    · simp [fgt, bec, sI, sL, sR, u3]
    · simp [fgt, bec, sI, sL, sR, u3]
    · simp [fgt, bec, sI, sL, sR, u3]
  have hz : (fgt (sL (sL (sI (sI (bec st 0 0 (-1)) 2 0 2 1) 4 0 4 0) 4 0 5 0) 4 0 6 0)).2.1 0 0 12 = 0 := by simp [fgt, bec, sI, sL, sR, u3]
  generalize fgt (sL (sL (sI (sI (bec st 0 0 (-1)) 2 0 2 1) 4 0 4 0) 4 0 5 0) 4 0 6 0) = s1 at *
  obtain ⟨m1, m2, m3, m4, m5, m6, m7, m8, m9, m10⟩ := j9.eq qM
  refine ⟨rfl, MC.mono (c_M_clear m1 hd) (fun u2 s2 h2 => ?_)⟩
  obtain ⟨rfl, rfl⟩ := h2
  refine ⟨rfl, _, _, _, _, _, _, _, JI_new (np := eNp E) (ar := eAr E) (md := eMd E) (ou := eOu E) (hC.eq ?_) (MG_new m1 ⟨?_, m3.2.1, fun p hp => ?_⟩ ?_ ?_ ?_) ?_⟩
  · refine EqC.tr (b := mk0 (sL (sL (sI (sI (sI s1 5 0 0 0) 5 0 5 0) 5 0 17 0) 5 0 18 0) 5 0 19 0)) ?_ ((EqC.I (by omega)).tr (EqC.I (by omega)))
    unfold mk0 mk1
    exact (((((((((((((((EqC.I (by omega)).tr (EqC.I (by omega))).tr (EqC.I (by omega))).tr (EqC.L (by omega))).tr (EqC.L (by omega))).tr (EqC.I (by omega))).tr (EqC.I (by omega))).tr (EqC.I (by omega))).tr (EqC.I (by omega))).tr (EqC.I (by omega))).tr (EqC.I (by omega))).tr (EqC.I (by omega))).tr (EqC.I (by omega))).tr (EqC.I (by omega))).tr (EqC.I (by omega)))
  · exact (by simp [sI, sL, u3] : _ = s1.1 5 0 1).trans m3.1
  · obtain ⟨b1, b2, b3, b4, b5⟩ := m3.2.2 p hp
    exact ⟨(by simp [sI, sL, u3] : _ = s1.1 12 0 p).trans b1, b2, (by simp [sI, sL, u3] : _ = s1.1 13 0 p).trans b3, b4, fun m hm => (by simp [sI, sL, u3] : _ = s1.1 14 0 (4 * p + m)).trans (b5 m hm)⟩
  · simp [sI, sL, u3]
  · simp [sI, sL, u3]
  · simp [sI, sL, u3]
  · exact (by simp [mfg, mk0, mk1, sI, sL, u3] : _ = s1.2.1 0 0 12).trans hz
end J4
