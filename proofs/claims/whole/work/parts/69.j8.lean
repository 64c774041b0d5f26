/-! A NODE MORE -/
def GR (E E' : EE) (up k q rm : Nat) (rv : Nat → Nat) : Prop := eN E' = eN E + 1 ∧ (∀ i, i < eN E → eS E' i = eS E i ∧ eP E' i = eP E i ∧ eD E' i = eD E i ∧ eW E' i = eW E i ∧ eV E' i = eV E i ∧ eQ E' i = eQ E i ∧ (i ≠ up → eK E' i = eK E i)) ∧ (eS E' (eN E) = k ∧ eP E' (eN E) = up ∧ eD E' (eN E) = eD E up + 1 ∧ eW E' (eN E) = rm ∧ eV E' (eN E) = rv ∧ eQ E' (eN E) = q ∧ eK E' (eN E) = []) ∧ eK E' up = eK E up ++ [eN E] ∧ (∀ j, eP E' j ≤ j) ∧ E'.2.2.2.2.2.2.2.2.2.2 = E.2.2.2.2.2.2.2.2.2.2
def eGrow (E : EE) (up k q rm : Nat) (rv : Nat → Nat) (O I : Nat → Int64) : EE := (eN E + 1, fun i => if i = eN E then k else eS E i, fun i => if i = up then eK E up ++ [eN E] else if i = eN E then [] else eK E i, fun i => if i = eN E then up else eP E i, fun i => if i = eN E then eD E up + 1 else eD E i, fun i => if i = eN E then rm else eW E i, fun i => if i = eN E then rv else eV E i, fun i => if i = eN E then q else eQ E i, O, I, E.2.2.2.2.2.2.2.2.2.2)
section J8
variable {E E' : EE} {up k q rm : Nat} {rv : Nat → Nat} {st s' : aS}
theorem eGrow_GR {O I : Nat → Int64} (hT : TR E) (hu : up < eN E) : GR E (eGrow E up k q rm rv O I) up k q rm rv := by
  refine ⟨rfl, fun i hi => ?_, ⟨if_pos rfl, if_pos rfl, if_pos rfl, if_pos rfl, if_pos rfl, if_pos rfl, ?_⟩, if_pos rfl, fun j => ?_, rfl⟩
  · have e : ¬ i = eN E := by omega
    exact ⟨if_neg e, if_neg e, if_neg e, if_neg e, if_neg e, if_neg e, fun h => (if_neg h).trans (if_neg e)⟩
  · exact (if_neg (by omega)).trans (if_pos rfl)
  · show (if j = eN E then up else eP E j) ≤ j
    by_cases e : j = eN E
    · rw [if_pos e]; omega
    · rw [if_neg e]; exact hT.2.1 j
theorem GR.it (h : GR E E' up k q rm rv) (hT : TR E) : ∀ (x m : Nat), m < eN E → itP (eP E') x m = itP (eP E) x m
  | 0, m, _ => rfl
  | x + 1, m, hm => by
    show itP (eP E') x (eP E' m) = itP (eP E) x (eP E m)
    rw [(h.2.1 m hm).2.1]
    exact h.it hT x _ (Nat.lt_of_le_of_lt (hT.2.1 m) hm)
theorem GR.sub (h : GR E E' up k q rm rv) (hT : TR E) {i m : Nat} (hm : m < eN E) : subP (eP E') i m ↔ subP (eP E) i m := by
  constructor
  · rintro ⟨x, hx⟩; exact ⟨x, by rw [← h.it hT x m hm]; exact hx⟩
  · rintro ⟨x, hx⟩; exact ⟨x, by rw [h.it hT x m hm]; exact hx⟩
theorem GR.subn (h : GR E E' up k q rm rv) (hT : TR E) (hu : up < eN E) {i : Nat} (hi : i < eN E) : subP (eP E') i (eN E) ↔ subP (eP E) i up := by
  rw [subP_par (by omega), h.2.2.1.2.1, h.sub hT hu]
theorem GR.tr (h : GR E E' up k q rm rv) (hT : TR E) (hX : TX E) (hu : up < eN E) (hN : eN E < 250) (hk : k ≤ 12) (ht : tkP E up) (h6 : k = 6 → rm = 2) (h8 : k = 8 ∨ k = 9 ∨ k = 10 → 1 ≤ rm) (h12 : k = 12 → q < eNp E) (hI : ∀ i, i < eN E → ¬ subP (eP E) i up → eI E' i = eI E i) (hIn : eI E' (eN E) = rowS rm rv 0) : TR E' := by
  obtain ⟨g1, g2, ⟨n1, n2, n3, n4, n5, n6, n7⟩, g4, g5, g6⟩ := id h
  refine ⟨by omega, g5, fun i hi => ?_⟩
  by_cases e : i = eN E
  · subst e
    rw [n1, n3, n4, n5, n6, n7]
    exact ⟨hk, by have := ht.2.1; omega, List.nodup_nil, fun p hp => absurd hp (by simp), h6, h8, fun z => by rw [show eNp E' = eNp E from congrArg (fun z => z.1) g6]; exact h12 z, fun _ => hIn⟩
  · have hi' : i < eN E := by omega
    obtain ⟨a1, a2, a3, a4, a5, a6, a7⟩ := g2 i hi'
    obtain ⟨t1, t2, t3, t4, t5, t6, t7, t8⟩ := hT.2.2 i hi'
    rw [a1, a3, a4, a5, a6]
    have kid : ∀ p ∈ eK E i, p < eN E' ∧ i < p ∧ eP E' p = i ∧ eD E' p = eD E i + 1 := by
      intro p hp
      obtain ⟨k1, k2, k3, k4⟩ := t4 p hp
      exact ⟨by omega, k2, (g2 p k1).2.1.trans k3, (g2 p k1).2.2.1.trans k4⟩
    refine ⟨t1, t2, ?_, ?_, t5, t6, fun z => by rw [show eNp E' = eNp E from congrArg (fun z => z.1) g6]; exact t7 z, fun z => ?_⟩
    · by_cases e2 : i = up
      · subst e2
        rw [g4]
        refine List.nodup_append.mpr ⟨t3, List.nodup_cons.mpr ⟨by simp, List.nodup_nil⟩, fun a ha b hb => ?_⟩
        have : b = eN E := by simpa using hb
        have := (t4 a ha).1
        omega
      · rw [a7 e2]; exact t3
    · by_cases e2 : i = up
      · subst e2
        rw [g4]
        intro p hp
        rcases List.mem_append.mp hp with hp | hp
        · exact kid p hp
        · have : p = eN E := by simpa using hp
          subst this
          exact ⟨by omega, hu, n2, n3⟩
      · rw [a7 e2]; exact kid
    · refine (hI i hi' (fun hs => ?_)).trans (t8 z)
      rcases below hX up up (Nat.le_refl _) hu hs with hb | ⟨p, hp, -⟩
      · subst hb
        have := ht.1
        omega
      · rw [(hX.2.2.2.2.2 i hi').2.2.1 z] at hp
        cases hp
theorem GR.tx (h : GR E E' up k q rm rv) (hX : TX E) (hu : up < eN E) (ht : tkP E up) (h0 : k < 6 → rm = 0) (h9 : k = 9 → rm = 1) : TX E' := by
  obtain ⟨g1, g2, ⟨n1, n2, n3, n4, n5, n6, n7⟩, g4, g5, g6⟩ := id h
  obtain ⟨x1, x2, x3, x4, x5, x6⟩ := hX
  obtain ⟨b1, b2, b3, b4, b5, b6, b7⟩ := g2 0 x1
  refine ⟨by omega, by rw [b1]; exact x2, by rw [b3]; exact x3, by rw [b2]; exact x4, fun m hm hN => ?_, fun i hi => ?_⟩
  · by_cases e : m = eN E
    · subst e
      rw [n2, g4]
      exact ⟨hu, by simp⟩
    · have hm' : m < eN E := by omega
      rw [(g2 m hm').2.1]
      obtain ⟨y1, y2⟩ := x5 m hm hm'
      refine ⟨y1, ?_⟩
      by_cases e2 : eP E m = up
      · rw [e2] at y2 ⊢
        rw [g4]
        exact List.mem_append_left _ y2
      · rw [(g2 _ (by omega)).2.2.2.2.2.2 e2]; exact y2
  · by_cases e : i = eN E
    · subst e
      rw [n1, n4, n7]
      exact ⟨fun _ => Nat.zero_le _, fun _ => Nat.zero_le _, fun _ => rfl, h0, h9⟩
    · have hi' : i < eN E := by omega
      obtain ⟨a1, a2, a3, a4, a5, a6, a7⟩ := g2 i hi'
      obtain ⟨y1, y2, y3, y4, y5⟩ := x6 i hi'
      rw [a1, a4]
      by_cases e2 : i = up
      · subst e2
        rw [g4]
        obtain ⟨t1, t2, t3, t4⟩ := ht
        refine ⟨fun z => ?_, fun z => ?_, fun z => absurd z (Nat.not_lt.mpr t1), y4, y5⟩
        · rw [List.length_append]; show (eK E i).length + 1 ≤ 1; omega
        · rw [List.length_append]; show (eK E i).length + 1 ≤ 3; omega
      · rw [a7 e2]
        exact ⟨y1, y2, y3, y4, y5⟩
theorem row_iff {v : Nat} (hr : ∀ j, j < rm → rv j < 60) : gB (rowS rm rv 0) v ↔ ∃ j, j < rm ∧ rv j = v := by
  unfold rowS
  rw [rsF_iff _ _ _ _ (fun j h1 h2 => hr j (by omega))]
  constructor
  · rintro (z | ⟨j, z1, z2, z3⟩)
    · simp [gB] at z
    · exact ⟨j, by omega, z3⟩
  · rintro ⟨j, z1, z2⟩
    exact Or.inr ⟨j, by omega, by omega, z2⟩
theorem GR.bi (h : GR E E' up k q rm rv) (hT : TR E) (hX : TX E) (hB : BI E st) (hu : up < eN E) (hr : ∀ j, j < rm → rv j < 60) (hs : ∀ i, i < eN E → (subP (eP E) i up → eI E' i = eI E i ||| rowS rm rv 0 ∧ s'.2.1 0 i 12 = st.2.1 0 i 12) ∧ (¬ subP (eP E) i up → eI E' i = eI E i ∧ s'.2.1 0 i 12 = st.2.1 0 i 12 ||| rowS rm rv 0)) (hn1 : eI E' (eN E) = rowS rm rv 0) (hn2 : s'.2.1 0 (eN E) 12 = eI E 0) : BI E' s' := by
  obtain ⟨g1, g2, ⟨n1, n2, n3, n4, n5, n6, n7⟩, g4, g5, g6⟩ := id h
  have row : ∀ m v, m < eN E → ((∃ j, j < eW E' m ∧ eV E' m j = v) ↔ ∃ j, j < eW E m ∧ eV E m j = v) := by
    intro m v hm
    rw [(g2 m hm).2.2.2.1, (g2 m hm).2.2.2.2.1]
  have rown : ∀ v, (∃ j, j < eW E' (eN E) ∧ eV E' (eN E) j = v) ↔ gB (rowS rm rv 0) v := by
    intro v
    rw [n4, n5, row_iff hr]
  intro i hi v hv
  by_cases e : i = eN E
  · subst e
    rw [hn1, hn2]
    constructor
    · rw [← rown]
      constructor
      · intro z; exact ⟨eN E, by omega, subP_self, z⟩
      · rintro ⟨m, m1, m2, m3⟩
        have := subP_gt g5 m2
        have : m = eN E := by omega
        subst this
        exact m3
    · rw [((hB 0 hX.1 v hv).1)]
      constructor
      · rintro ⟨m, m1, m2, m3⟩
        refine ⟨m, by omega, fun z => ?_, (row m v m1).mpr m3⟩
        have := subP_gt g5 z
        omega
      · rintro ⟨m, m1, m2, m3⟩
        have hm : m < eN E := by
          refine Nat.lt_of_not_le (fun z => m2 ?_)
          have : m = eN E := by omega
          subst this
          exact subP_self
        exact ⟨m, hm, sub_root hX m hm, (row m v hm).mp m3⟩
  · have hi' : i < eN E := by omega
    obtain ⟨s1, s2⟩ := hs i hi'
    obtain ⟨b1, b2⟩ := hB i hi' v hv
    by_cases z : subP (eP E) i up
    · obtain ⟨z1, z2⟩ := s1 z
      rw [z1, z2, gB_or, b1, b2]
      constructor
      · constructor
        · rintro (⟨m, m1, m2, m3⟩ | m3)
          · exact ⟨m, by omega, (h.sub hT m1).mpr m2, (row m v m1).mpr m3⟩
          · exact ⟨eN E, by omega, (h.subn hT hu hi').mpr z, (rown v).mpr m3⟩
        · rintro ⟨m, m1, m2, m3⟩
          by_cases e2 : m = eN E
          · subst e2; exact Or.inr ((rown v).mp m3)
          · exact Or.inl ⟨m, by omega, (h.sub hT (by omega)).mp m2, (row m v (by omega)).mp m3⟩
      · constructor
        · rintro ⟨m, m1, m2, m3⟩
          exact ⟨m, by omega, fun y => m2 ((h.sub hT m1).mp y), (row m v m1).mpr m3⟩
        · rintro ⟨m, m1, m2, m3⟩
          by_cases e2 : m = eN E
          · subst e2; exact absurd ((h.subn hT hu hi').mpr z) m2
          · exact ⟨m, by omega, fun y => m2 ((h.sub hT (by omega)).mpr y), (row m v (by omega)).mp m3⟩
    · obtain ⟨z1, z2⟩ := s2 z
      rw [z1, z2, gB_or, b1, b2]
      constructor
      · constructor
        · rintro ⟨m, m1, m2, m3⟩
          exact ⟨m, by omega, (h.sub hT m1).mpr m2, (row m v m1).mpr m3⟩
        · rintro ⟨m, m1, m2, m3⟩
          by_cases e2 : m = eN E
          · subst e2; exact absurd ((h.subn hT hu hi').mp m2) z
          · exact ⟨m, by omega, (h.sub hT (by omega)).mp m2, (row m v (by omega)).mp m3⟩
      · constructor
        · rintro (⟨m, m1, m2, m3⟩ | m3)
          · exact ⟨m, by omega, fun y => m2 ((h.sub hT m1).mp y), (row m v m1).mpr m3⟩
          · exact ⟨eN E, by omega, fun y => z ((h.subn hT hu hi').mp y), (rown v).mpr m3⟩
        · rintro ⟨m, m1, m2, m3⟩
          by_cases e2 : m = eN E
          · subst e2; exact Or.inr ((rown v).mp m3)
          · exact Or.inl ⟨m, by omega, fun y => m2 ((h.sub hT (by omega)).mpr y), (row m v (by omega)).mp m3⟩
/-- the list of parts, and what comes behind each -/
theorem app_next {K : List Nat} {n : Nat} (hK : K.Nodup) (hn : n ∉ K) {nx' : Nat → Option Nat} {old : Nat → Option Nat} (ho : ∀ j p, K[j]? = some p → old p = K[j + 1]?) (h1 : ∀ p, p ∈ K → nx' p = if K.getLast? = some p then some n else old p) (h2 : nx' n = none) : ∀ j p, (K ++ [n])[j]? = some p → nx' p = (K ++ [n])[j + 1]? := by
  intro j p hp
  by_cases hj : j < K.length
  · rw [List.getElem?_append_left hj] at hp
    have hm := List.mem_of_getElem? hp
    rw [h1 p hm]
    by_cases hl : j + 1 < K.length
    · rw [if_neg (fun z => ?_), List.getElem?_append_left hl]
      · exact ho j p hp
      · rw [List.getLast?_eq_getElem?] at z
        have a1 := (List.getElem?_eq_some_iff.mp hp)
        have a2 := (List.getElem?_eq_some_iff.mp z)
        have := (List.getElem_inj hK).mp (a1.2.trans a2.2.symm)
        omega
    · have e : j + 1 = K.length := by omega
      rw [if_pos (by rw [List.getLast?_eq_getElem?, ← e]; exact hp), e]
      simp
  · rw [List.getElem?_append_right (by omega)] at hp
    have e : j - K.length = 0 := by
      have := (List.getElem?_eq_some_iff.mp hp).1
      simp at this
      omega
    rw [e] at hp
    have : n = p := by simpa using hp
    subst this
    rw [h2, List.getElem?_append_right (by omega)]
    rw [show j + 1 - K.length = 0 + 1 by omega]
    rfl
end J8
