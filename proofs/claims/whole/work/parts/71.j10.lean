section J10
variable {l : Launch} {D : mD} {d : Nat} {st : aS}
section J10a
variable {E E' : EE} {up k q rm : Nat} {rv : Nat → Nat} {X s2 : aS} {g w : Int64} {od sk : Int32} {s : Int32}
theorem M_made (hM : MG E rm rv g w od sk X) (hT : TR E) (hu : up < eN E) (hN : eN E < 250) (hr7 : rm ≤ 7) : MC l D mM_made d 0 0 [vR (some (5, 0)), vI (nI up), vI s] X (fun v s' => v = some (vI (nI (eN E))) ∧ s' = mk3 (mk2 X (eN E) up s rm rv (eD E up)) (eN E) up (eK E up).length (eK E up).getLast?) := by
  obtain ⟨m1, m2, m3, m4, m5, m6, -⟩ := hM
  obtain ⟨a1, a2, a3, a4, a5, a6, a7, a8, a9⟩ := m2 up hu
  have kid : ∀ {z : Nat}, z ∈ eK E up → z < 250 := fun h => by have := (hT.kid hu h).1; omega
  cases hl : (eK E up).getLast? with
  | none =>
    have hK : eK E up = [] := List.getLast?_eq_none_iff.mp hl
    exact c_M_made_0 m1 hN m4 m5 hr7 m6 hu a2 a4 (by rw [a5, hK]; rfl)
  | some z =>
    cases hh : (eK E up).head? with
    | none =>
      have hK : eK E up = [] := List.head?_eq_none_iff.mp hh
      rw [hK] at hl; cases hl
    | some z0 =>
      exact c_M_made_1 (z0 := z0) m1 hN m4 m5 hr7 m6 hu a2 a4 (by rw [a5, hh]; rfl) (kid (List.mem_of_mem_head? (by rw [hh]; rfl))) (by rw [a6, hl]; rfl) (kid (List.mem_of_mem_getLast? (by rw [hl]; rfl)))
/-- what comes behind each part, as ints -/
theorem app_nextI {K : List Nat} {n : Nat} (hK : K.Nodup) {nx' old : Nat → Int32} (ho : ∀ j p, K[j]? = some p → old p = nx K[j + 1]?) (h1 : ∀ p, p ∈ K → nx' p = if K.getLast? = some p then nI n else old p) (h2 : nx' n = -1) : ∀ j p, (K ++ [n])[j]? = some p → nx' p = nx (K ++ [n])[j + 1]? := by
  intro j p hp
  by_cases hj : j < K.length
  · rw [List.getElem?_append_left hj] at hp
    have hm := List.mem_of_getElem? hp
    rw [h1 p hm]
    by_cases hl : j + 1 < K.length
    · rw [if_neg (fun z => ?_), List.getElem?_append_left hl]
      · exact ho j p hp
      · rw [List.getLast?_eq_getElem?] at z
        have a1 := (List.getElem?_eq_some_iff.mp hp)
        have a2 := (List.getElem?_eq_some_iff.mp z)
        have := (List.getElem_inj hK).mp (a1.2.trans a2.2.symm)
        omega
    · have e : j + 1 = K.length := by omega
      rw [if_pos (by rw [List.getLast?_eq_getElem?, ← e]; exact hp), e]
      simp [nx_some]
  · rw [List.getElem?_append_right (by omega)] at hp
    have e : j - K.length = 0 := by
      have := (List.getElem?_eq_some_iff.mp hp).1
      simp at this
      omega
    rw [e] at hp
    have : n = p := by simpa using hp
    subst this
    rw [h2, List.getElem?_append_right (by omega)]
    rw [show j + 1 - K.length = 0 + 1 by omega]
    rfl
theorem MN_grow (hT : TR E) (hG : GR E E' up k q rm rv) (hM : MN E X) (he : ∀ a c, 15 ≤ a → a ≤ 24 → ¬ (a = 22 ∧ c = eN E) → s2.1 a 0 c = (mk3 (mk2 X (eN E) up (nI k) rm rv (eD E up)) (eN E) up (eK E up).length (eK E up).getLast?).1 a 0 c) (h22 : k = 12 → s2.1 22 0 (eN E) = nI q) (hr7 : rm ≤ 7) (hrv : ∀ j, j < rm → rv j < 60) (hu : up < eN E) (hN : eN E < 250) : MN E' s2 := by
  obtain ⟨g1, g2, ⟨n1, n2, n3, n4, n5, n6, n7⟩, g4, g5, g6⟩ := id hG
  have lst : ∀ {z : Nat}, (eK E up).getLast? = some z → z ∈ eK E up := fun h => List.mem_of_mem_getLast? (by rw [h]; rfl)
  obtain ⟨y1, y2, y3, y4, y5, y6, y7, y8, y9, y10⟩ := mk2_n (st := X) (n := eN E) (up := up) (rm := rm) (dp := eD E up) (s := nI k) (rv := rv)
  have r1 : ∀ {a c : Nat}, 15 ≤ a → a ≤ 23 → c < eN E → ¬ (c = up ∧ (a = 18 ∨ a = 19 ∨ a = 20)) → ¬ a = 21 → s2.1 a 0 c = X.1 a 0 c := by
    intro a c h1 h2 h3 h4 h5
    rw [he a c h1 (by omega) (by omega), mk3_I (by omega) (by omega) (by omega) h5, mk2_I (by omega) (by omega) (by omega)]
  have r21 : ∀ {c : Nat}, c < eN E → s2.1 21 0 c = if (eK E up).getLast? = some c then nI (eN E) else X.1 21 0 c := by
    intro c hc
    rw [he 21 c (by omega) (by omega) (by omega), mk3_21, mk2_I (by omega) (by omega) (by omega)]
  have rn : ∀ {a : Nat}, 15 ≤ a → a ≤ 23 → ¬ a = 22 → ¬ a = 21 → s2.1 a 0 (eN E) = (mk2 X (eN E) up (nI k) rm rv (eD E up)).1 a 0 (eN E) := by
    intro a h1 h2 h3 h4
    rw [he a _ h1 (by omega) (by omega), mk3_I (by omega) (by omega) (by omega) h4]
  have n21 : s2.1 21 0 (eN E) = -1 := by
    rw [he 21 _ (by omega) (by omega) (by omega), mk3_21, if_neg (fun z => ?_)]
    · exact y7
    · have := (hT.kid hu (lst z)).1
      omega
  intro i hi
  by_cases e : i = eN E
  · subst e
    rw [n1, n3, n4, n5, n6, n7, n2]
    refine ⟨(rn (by omega) (by omega) (by omega) (by omega)).trans y1, (rn (by omega) (by omega) (by omega) (by omega)).trans y2, ?_, (rn (by omega) (by omega) (by omega) (by omega)).trans y4, (rn (by omega) (by omega) (by omega) (by omega)).trans y5, (rn (by omega) (by omega) (by omega) (by omega)).trans y6, fun j p hj => absurd hj (by simp), ⟨(rn (by omega) (by omega) (by omega) (by omega)).trans y9, hr7, hN, fun j hj => ⟨?_, hrv j hj⟩⟩, h22⟩
    · rw [if_neg (by omega)]; exact (rn (by omega) (by omega) (by omega) (by omega)).trans y3
    · rw [he 24 _ (by omega) (by omega) (by omega), mk3_I (by omega) (by omega) (by omega) (by omega)]
      exact mk2_24 hj
  · have hi' : i < eN E := by omega
    obtain ⟨a1, a2, a3, a4, a5, a6, a7⟩ := g2 i hi'
    obtain ⟨c1, c2, c3, c4, c5, c6, c7, c8, c9⟩ := hM i hi'
    rw [a1, a2, a3, a4, a5, a6]
    refine ⟨(r1 (by omega) (by omega) hi' (by omega) (by omega)).trans c1, (r1 (by omega) (by omega) hi' (by omega) (by omega)).trans c2, (r1 (by omega) (by omega) hi' (by omega) (by omega)).trans c3, ?_, ?_, ?_, ?_, ⟨(r1 (by omega) (by omega) hi' (by omega) (by omega)).trans c8.1, c8.2.1, c8.2.2.1, fun j hj => ⟨?_, (c8.2.2.2 j hj).2⟩⟩, fun z => (r1 (by omega) (by omega) hi' (by omega) (by omega)).trans (c9 z)⟩
    · by_cases e2 : i = up
      · subst e2
        rw [he 18 _ (by omega) (by omega) (by omega), mk3_18.1, g4, List.length_append]; rfl
      · rw [a7 e2]; exact (r1 (by omega) (by omega) hi' (by omega) (by omega)).trans c4
    · by_cases e2 : i = up
      · subst e2
        rw [he 19 _ (by omega) (by omega) (by omega), mk3_19, g4]
        cases hK : eK E i with
        | nil => rfl
        | cons z r =>
          rw [if_neg (by simp), mk2_I (by omega) (by omega) (by omega), c5, hK]; rfl
      · rw [a7 e2]; exact (r1 (by omega) (by omega) hi' (by omega) (by omega)).trans c5
    · by_cases e2 : i = up
      · subst e2
        rw [he 20 _ (by omega) (by omega) (by omega), mk3_18.2, g4]; simp [nx_some]
      · rw [a7 e2]; exact (r1 (by omega) (by omega) hi' (by omega) (by omega)).trans c6
    · by_cases e2 : i = up
      · subst e2
        rw [g4]
        exact app_nextI (nx' := fun p => s2.1 21 0 p) (old := fun p => X.1 21 0 p) (hT.2.2 i hi').2.2.1 c7 (fun p hp => r21 (hT.kid hi' hp).1) n21
      · rw [a7 e2]
        intro j p hp
        have kp := hT.kid hi' (List.mem_of_getElem? hp)
        rw [r21 kp.1, if_neg (fun z => ?_)]
        · exact c7 j p hp
        · have := (hT.kid hu (lst z)).2.2.1
          omega
    · have hW := c8.2.1
      rw [he 24 _ (by omega) (by omega) (by omega), mk3_I (by omega) (by omega) (by omega) (by omega), mk2_I (by omega) (by omega) (by omega)]
      exact (c8.2.2.2 j hj).1
end J10a
/-- behind the class's add -/
theorem grown {E : EE} {up k q rm : Nat} {rv : Nat → Nat} {g w : Int64} {p : Int32} {X base s1 : aS} (hT : TR E) (hX : TX E) (hBI : BI E X) (hF : CF X) (hC : CN E w X) (hR : pR X (eNp E) (eAr E) (eMd E) (eOu E)) (x4 : X.1 4 0 4 = 0) (x5 : X.2.1 4 0 5 = g) (x6 : X.2.1 4 0 6 = w) (x7 : X.1 4 0 7 = 0) (x8 : X.1 4 0 8 = -1) (hB : GB X base (eN E)) (hS : SPQ (fun i => if i = eN E then up else eP E i) (eN E) (eN E) (rowS rm rv 0) (gq base (eN E) up (nI k) p rv rm (eD E up) (eK E up).length (eK E up).getLast? (eI E 0)) s1) (hu : up < eN E) (hN : eN E < 250) (ht : tkP E up) (hk : k ≤ 12) (hr7 : rm ≤ 7) (hrv : ∀ j, j < rm → rv j < 60) (h6 : k = 6 → rm = 2) (h8 : k = 8 ∨ k = 9 ∨ k = 10 → 1 ≤ rm) (h12 : k = 12 → q < eNp E ∧ p = nI q) (h0 : k < 6 → rm = 0) (h9 : k = 9 → rm = 1) : ∃ E', GR E E' up k q rm rv ∧ TR E' ∧ TX E' ∧ BI E' s1 ∧ CG E' 0 (fun _ => 0) g w 0 (-1) s1 ∧ EqM X s1 := by
  have hG : GR E (eGrow E up k q rm rv (fun i => s1.2.1 0 i 12 ||| w) (fun i => s1.2.1 0 i 11)) up k q rm rv := eGrow_GR hT hu
  have hS' : SPQ (eP (eGrow E up k q rm rv (fun i => s1.2.1 0 i 12 ||| w) (fun i => s1.2.1 0 i 11))) (eN E) (eN E) (rowS rm rv 0) (gq base (eN E) up (nI k) p rv rm (eD E up) (eK E up).length (eK E up).getLast? (eI E 0)) s1 := hS
  have hI : ∀ i, eI (eGrow E up k q rm rv (fun i => s1.2.1 0 i 12 ||| w) (fun i => s1.2.1 0 i 11)) i = s1.2.1 0 i 11 := fun i => rfl
  have hO : ∀ i, eO (eGrow E up k q rm rv (fun i => s1.2.1 0 i 12 ||| w) (fun i => s1.2.1 0 i 11)) i = s1.2.1 0 i 12 ||| w := fun i => rfl
  refine ⟨eGrow E up k q rm rv (fun i => s1.2.1 0 i 12 ||| w) (fun i => s1.2.1 0 i 11), hG, ?_⟩
  generalize eGrow E up k q rm rv (fun i => s1.2.1 0 i 12 ||| w) (fun i => s1.2.1 0 i 11) = E' at hG hS' hI hO ⊢
  clear hS
  have hCN := CN_grow hT hG hC hB hS' hI hO hr7 hrv hu rfl (fun z => (h12 z).2)
  obtain ⟨S1, S2, S3, S4⟩ := id hS'
  obtain ⟨b1, b2, b3, b4, b5, b6, b7⟩ := id hB
  have g6 := hG.2.2.2.2.2
  have hne : up ≠ eN E := by omega
  have S22 : s1.2.2.1 = (gq base (eN E) up (nI k) p rv rm (eD E up) (eK E up).length (eK E up).getLast? (eI E 0)).2.2.1 := congrArg Prod.fst S2
  have Sal : s1.2.2.2 = base.2.2.2 := (congrArg Prod.snd S2).trans gq_al
  have r1 : ∀ {a b c : Nat}, ¬ (a = 0 ∨ a = 2 ∨ a = 6) → s1.1 a b c = X.1 a b c := by
    intro a b c h
    rw [S1, gq_I (by omega) (by omega) (by omega) (by omega)]
    exact (b1 a b c (by omega) (by omega)).1
  have r3 : ∀ {a b c : Nat}, ¬ (a = 0 ∨ a = 6 ∨ a = 10) → s1.2.2.1 a b c = X.2.2.1 a b c := by
    intro a b c h
    rw [S22, gq_R (by omega) (by omega)]
    exact (b1 a b c (by omega) (by omega)).2.2 (by omega)
  have r2 : ∀ {a b c : Nat}, ¬ (a = 0 ∨ a = 6) → s1.2.1 a b c = X.2.1 a b c := by
    intro a b c h
    rw [S3 a b c (by omega), gq_L (by omega)]
    exact (b1 a b c (by omega) (by omega)).2.1
  have q11 : ∀ {i : Nat}, i < eN E → (gq base (eN E) up (nI k) p rv rm (eD E up) (eK E up).length (eK E up).getLast? (eI E 0)).2.1 0 i 11 = eI E i := by
    intro i hi
    rw [gq_L (by omega), (b1 0 i 11 (by omega) (by omega)).2.1]
    exact (hC i hi).2.2.2.2.2.2.2.1
  have q12 : ∀ {i : Nat}, i < eN E → (gq base (eN E) up (nI k) p rv rm (eD E up) (eK E up).length (eK E up).getLast? (eI E 0)).2.1 0 i 12 = X.2.1 0 i 12 := by
    intro i hi
    rw [gq_L (by omega), (b1 0 i 12 (by omega) (by omega)).2.1]
  have n11 : eI E' (eN E) = rowS rm rv 0 := by
    rw [hI, S3 0 (eN E) 11 (by omega)]; exact gq_11
  have n12 : s1.2.1 0 (eN E) 12 = eI E 0 := by
    rw [S3 0 (eN E) 12 (by omega)]; exact gq_12
  have hs : ∀ i, i < eN E → (subP (eP E) i up → eI E' i = eI E i ||| rowS rm rv 0 ∧ s1.2.1 0 i 12 = X.2.1 0 i 12) ∧ (¬ subP (eP E) i up → eI E' i = eI E i ∧ s1.2.1 0 i 12 = X.2.1 0 i 12 ||| rowS rm rv 0) := by
    intro i hi
    obtain ⟨t1, t2⟩ := S4 i hi
    rw [q11 hi, q12 hi, hG.subn hT hu hi] at t1
    rw [q11 hi, q12 hi, hG.subn hT hu hi] at t2
    rw [hI]
    exact ⟨t1, t2⟩
  obtain ⟨f1, f2, f3, f4, f5, f6, f7⟩ := hF
  obtain ⟨p1, p2, p3, p4, p5, p6, p7, p8⟩ := hR
  refine ⟨hG.tr hT hX hu hN hk ht h6 h8 (fun z => (h12 z).1) (fun i hi z => ((hs i hi).2 z).1) n11, hG.tx hX hu ht h0 h9, hG.bi hT hX hBI hu hrv hs n11 n12, ⟨⟨(r3 (by omega)).trans f1, (r3 (by omega)).trans f2, (r3 (by omega)).trans f3, (r3 (by omega)).trans f4, (r3 (by omega)).trans f5, (r3 (by omega)).trans f6, (r3 (by omega)).trans f7⟩, ?_, hCN, ?_, ?_, (r1 (by omega)).trans x4, fun k hk => absurd hk (by omega), (r2 (by omega)).trans x5, (r2 (by omega)).trans x6, (r1 (by omega)).trans x7, (r1 (by omega)).trans x8⟩, ?_⟩
  · unfold CA
    rw [Sal, hG.1]
    refine ⟨by omega, b3, b4, fun i hi => ?_, fun i hi => ?_⟩
    · rw [S22, gq_R (by omega) (by omega)]; exact b5 i hi
    · rw [S1, S22]
      by_cases e : i = eN E
      · subst e
        exact ⟨(gq_n hne).2.2.2.trans (b6 _ hi).1, (gq_n1 hne).trans (b6 _ hi).2⟩
      · rw [gq_I (by omega) (by omega) (by omega) (by omega), gq_R (by omega) (by omega)]
        exact b6 i hi
  · rw [show eNp E' = eNp E from congrArg (fun z => z.1) g6, show eAr E' = eAr E from congrArg (fun z => z.2.1) g6, show eMd E' = eMd E from congrArg (fun z => z.2.2.1) g6, show eOu E' = eOu E from congrArg (fun z => z.2.2.2) g6]
    exact ⟨(r3 (by omega)).trans p1, (r3 (by omega)).trans p2, (r3 (by omega)).trans p3, (r1 (by omega)).trans p4, p5, fun p hp => ⟨(r1 (by omega)).trans (p6 p hp).1, (p6 p hp).2.1, (r1 (by omega)).trans (p6 p hp).2.2.1, (p6 p hp).2.2.2⟩, fun p m hp hm => (r1 (by omega)).trans (p7 p m hp hm), fun p hp hq => (r1 (by omega)).trans (p8 p hp hq)⟩
  · rw [S1, hG.1]; exact gq_22
  · exact ⟨fun a b c h => r1 (by omega), fun a b c h => r2 (by omega), fun b c => r3 (by omega)⟩
end J10
