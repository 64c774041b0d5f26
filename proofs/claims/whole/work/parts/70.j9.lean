section J9
variable {l : Launch} {D : mD} {d : Nat} {E E' : EE} {up k q rm : Nat} {rv : Nat → Nat} {X base s' : aS} {w : Int64} {s p : Int32}
/-- with room for node n -/
def GB (X base : aS) (n : Nat) : Prop := (∀ a b c, ¬ (a = 0 ∧ b = n) → ¬ (a = 6 ∧ b = n) → base.1 a b c = X.1 a b c ∧ base.2.1 a b c = X.2.1 a b c ∧ (¬ (a = 10 ∧ b = 0 ∧ c = n) → base.2.2.1 a b c = X.2.2.1 a b c)) ∧ n < base.2.2.2 0 ∧ base.2.2.2 0 ≤ 250 ∧ base.2.2.2 6 = base.2.2.2 0 ∧ (∀ i, i < 250 → base.2.2.1 10 0 i = if i < base.2.2.2 0 then some i else none) ∧ (∀ i, i < base.2.2.2 0 → base.1 0 i 0 = nI i ∧ base.2.2.1 0 i 1 = some i) ∧ EqM X base
theorem grow_base (hT : TR E) (hX : TX E) (hG : GR E E' up k q rm rv) (hF : CF X) (hA : CA E X) (hC : CN E w X) (hc : X.1 2 0 2 = nI (eN E)) (hr : ∀ j, j < rm → X.1 11 0 j = nI (rv j)) (hr7 : rm ≤ 7) (hu : up < eN E) (hN : eN E < 250) (hd : 2 ≤ d) : ∃ base, GB X base (eN E) ∧ MC l D mT_grow d 2 27 [vR (some (2, 0)), vR (some (0, up)), vI s, vI p, vR (some (11, 0)), vI (nI rm)] X (fun v s' => v = some (vI (nI (eN E))) ∧ SPQ (eP E') (eN E) (eN E) (rowS rm rv 0) (gq base (eN E) up s p rv rm (eD E up) (eK E up).length (eK E up).getLast? (eI E 0)) s') := by
  obtain ⟨g1, g2, ⟨n1, n2, n3, n4, n5, n6, n7⟩, g4, g5, g6⟩ := id hG
  obtain ⟨a1, a2, a3, a4, a5⟩ := hA
  obtain ⟨f1, f2, f3, f4, f5, f6, f7⟩ := hF
  obtain ⟨u1, u2, u3, u4, u5, u6, u7, u8, u9, u10, u11⟩ := hC up hu
  have hpp : ∀ i, i < eN E → X.2.2.1 0 i 7 = if i = 0 then none else some (eP E' i) := by
    intro i hi
    rw [(g2 i hi).2.1]
    exact (hC i hi).2.2.2.1
  have hlt : ∀ i, 0 < i → i < eN E → eP E' i < i := by
    intro i h0 hi
    rw [(g2 i hi).2.1]
    exact (hX.2.2.2.2.1 i h0 hi).1
  have hI0 := (hC 0 hX.1).2.2.2.2.2.2.2.1
  by_cases e : eN E < X.2.2.2 0
  · refine ⟨X, ⟨fun _ _ _ _ _ => ⟨rfl, rfl, fun _ => rfl⟩, e, a2, a3, a4, a5, EqM.rf⟩, c_T_grow_r hN g5 n2 hu f7 (fun i hi => ?_) hpp hlt f6 hc (a5 _ e).1 (a5 _ e).2 hr hr7 u2 u3 u6 hI0 hd ?_⟩
    · rw [a4 i (by omega), if_pos (by omega)]
    · rw [a4 _ hN, if_pos e]
  · have e0 : X.2.2.2 0 = eN E := by omega
    have e6 : X.2.2.2 6 = eN E := by omega
    refine ⟨nw X (eN E), ⟨fun a b c h1 h2 => ⟨nw_I e0 e6 h1 h2, nw_L e0 e6 h1 h2, fun h3 => nw_R e0 e6 h1 h2 h3⟩, ?_, ?_, ?_, fun i hi => ?_, fun i hi => ?_, nw_EqM⟩, c_T_grow_n hN g5 n2 hu f7 (fun i hi => ?_) hpp hlt f6 hc hr hr7 u2 u3 u6 hI0 hd ?_ e0 e6⟩
    · rw [nw_al0 e0]; omega
    · rw [nw_al0 e0]; omega
    · rw [nw_al0 e0, nw_al6 e6]
    · rw [nw_al0 e0]
      by_cases q : i = eN E
      · subst q; rw [if_pos (by omega)]; exact nw_10
      · rw [nw_R e0 e6 (by omega) (by omega) (by omega), a4 i hi, e0]
        by_cases q2 : i < eN E
        · rw [if_pos q2, if_pos (by omega)]
        · rw [if_neg q2, if_neg (by omega)]
    · rw [nw_al0 e0] at hi
      by_cases q : i = eN E
      · subst q; exact ⟨nw_00 e6, nw_01⟩
      · rw [nw_I e0 e6 (by omega) (by omega), nw_R e0 e6 (by omega) (by omega) (by omega)]
        exact a5 i (by omega)
    · rw [a4 i (by omega), if_pos (by omega)]
    · rw [a4 _ hN, if_neg (by omega)]
theorem CN_grow (hT : TR E) (hG : GR E E' up k q rm rv) (hC : CN E w X) (hB : GB X base (eN E)) (hS : SPQ (eP E') (eN E) (eN E) (rowS rm rv 0) (gq base (eN E) up s p rv rm (eD E up) (eK E up).length (eK E up).getLast? (eI E 0)) s') (hI : ∀ i, eI E' i = s'.2.1 0 i 11) (hO : ∀ i, eO E' i = s'.2.1 0 i 12 ||| w) (hr7 : rm ≤ 7) (hrv : ∀ j, j < rm → rv j < 60) (hu : up < eN E) (hs : s = nI k) (hp : k = 12 → p = nI q) : CN E' w s' := by
  obtain ⟨g1, g2, ⟨n1, n2, n3, n4, n5, n6, n7⟩, g4, g5, g6⟩ := id hG
  obtain ⟨b1, b2, b3, b4, b5, b6, b7⟩ := hB
  obtain ⟨S1, S2, S3, S4⟩ := hS
  have hne : up ≠ eN E := by omega
  have lst : ∀ {z : Nat}, (eK E up).getLast? = some z → z ∈ eK E up := fun h => List.mem_of_mem_getLast? (by rw [h]; rfl)
  have S22 : s'.2.2.1 = (gq base (eN E) up s p rv rm (eD E up) (eK E up).length (eK E up).getLast? (eI E 0)).2.2.1 := congrArg Prod.fst S2
  have r1 : ∀ {i c : Nat}, i < eN E → ¬ (i = up ∧ c = 6) → s'.1 0 i c = X.1 0 i c := by
    intro i c hi h
    rw [S1, gq_I (by omega) (by omega) (by omega) (by omega)]
    exact (b1 0 i c (by omega) (by omega)).1
  have r6 : ∀ {i c : Nat}, i < eN E → s'.1 6 i c = X.1 6 i c := by
    intro i c hi
    rw [S1, gq_I (by omega) (by omega) (by omega) (by omega)]
    exact (b1 6 i c (by omega) (by omega)).1
  have r3 : ∀ {i c : Nat}, i < eN E → ¬ (c = 10 ∨ (i = up ∧ (c = 8 ∨ c = 9))) → s'.2.2.1 0 i c = X.2.2.1 0 i c := by
    intro i c hi h
    rw [S22, gq_R (by omega) (by omega)]
    exact (b1 0 i c (by omega) (by omega)).2.2 (by omega)
  have r10 : ∀ {i : Nat}, i < eN E → s'.2.2.1 0 i 10 = if (eK E up).getLast? = some i then some (eN E) else X.2.2.1 0 i 10 := by
    intro i hi
    rw [S22, gq_10 (by omega), (b1 0 i 10 (by omega) (by omega)).2.2 (by omega)]
  have n10 : s'.2.2.1 0 (eN E) 10 = none := by
    rw [S22]
    refine gq_n10 (fun z => ?_)
    have := (hT.kid hu (lst z)).1
    omega
  intro i hi
  by_cases e : i = eN E
  · subst e
    obtain ⟨q1, q2, q3, q4⟩ := gq_n (st := base) (n := eN E) (up := up) (s := s) (p := p) (rv := rv) (m := rm) (dp := eD E up) (len := (eK E up).length) (la := (eK E up).getLast?) (I0 := eI E 0) hne
    rw [n1, n3, n4, n5, n6, n7, n2]
    refine ⟨by rw [S1, q1, hs], by rw [S1]; exact gq_n5, by rw [S1, q3]; rfl, ?_, ?_, ?_, fun k p hk => absurd hk (by simp), (hI _).symm, (hO _).symm, ⟨by rw [S1]; exact gq_n2 hne, hr7, ?_, fun j hj => ⟨by rw [S1]; exact gq_66 hj, hrv j hj⟩⟩, fun z => by rw [S1, q2]; exact hp z⟩
    · rw [S22, gq_n7 hne, if_neg (by omega)]
    · rw [S22]; exact (gq_n89 hne).1
    · rw [S22]; exact (gq_n89 hne).2
    · rw [S22, gq_n1 hne]; exact (b6 _ b2).2
  · have hi' : i < eN E := by omega
    obtain ⟨a1, a2, a3, a4, a5, a6, a7⟩ := g2 i hi'
    obtain ⟨c1, c2, c3, c4, c5, c6, c7, c8, c9, c10, c11⟩ := hC i hi'
    rw [a1, a2, a3, a4, a5, a6]
    refine ⟨(r1 hi' (by omega)).trans c1, (r1 hi' (by omega)).trans c2, ?_, (r3 hi' (by omega)).trans c4, ?_, ?_, ?_, (hI _).symm, (hO _).symm, ⟨(r1 hi' (by omega)).trans c10.1, c10.2.1, (r3 hi' (by omega)).trans c10.2.2.1, fun j hj => ⟨(r6 hi').trans (c10.2.2.2 j hj).1, (c10.2.2.2 j hj).2⟩⟩, fun z => (r1 hi' (by omega)).trans (c11 z)⟩
    · by_cases e2 : i = up
      · subst e2
        rw [S1, gq_6, g4, List.length_append]; rfl
      · rw [a7 e2]; exact (r1 hi' (by omega)).trans c3
    · by_cases e2 : i = up
      · subst e2
        rw [S22, gq_8 hne, g4]
        cases hK : eK E i with
        | nil => rfl
        | cons z r =>
          rw [if_neg (by simp), (b1 0 i 8 (by omega) (by omega)).2.2 (by omega), c5, hK]; rfl
      · rw [a7 e2]; exact (r3 hi' (by omega)).trans c5
    · by_cases e2 : i = up
      · subst e2
        rw [S22, gq_9, g4]; simp
      · rw [a7 e2]; exact (r3 hi' (by omega)).trans c6
    · by_cases e2 : i = up
      · subst e2
        rw [g4]
        refine app_next (nx' := fun p => s'.2.2.1 0 p 10) (old := fun p => X.2.2.1 0 p 10) (hT.2.2 i hi').2.2.1 (fun z => ?_) c7 (fun p hp => ?_) n10
        · have := (hT.kid hi' z).1; omega
        · exact r10 (hT.kid hi' hp).1
      · rw [a7 e2]
        intro j p hp
        have kp := hT.kid hi' (List.mem_of_getElem? hp)
        rw [r10 kp.1, if_neg (fun z => ?_)]
        · exact c7 j p hp
        · have := (hT.kid hu (lst z)).2.2.1
          omega
end J9
