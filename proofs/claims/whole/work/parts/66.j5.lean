section J5
variable {l : Launch} {D : mD} {d : Nat} {st s' : aS}
def EqW (st s' : aS) : Prop := (∀ a b c, ¬ (a = 5 ∨ 12 ≤ a) → s'.1 a b c = st.1 a b c ∧ s'.2.1 a b c = st.2.1 a b c ∧ s'.2.2.1 a b c = st.2.2.1 a b c) ∧ s'.2.2.2 0 = st.2.2.2 0 ∧ s'.2.2.2 6 = st.2.2.2 6
theorem CG.w {E : EE} {rm : Nat} {rv : Nat → Nat} {g w : Int64} {od sk : Int32} (h : CG E rm rv g w od sk st) (q : EqW st s') : CG E rm rv g w od sk s' := by
  have q1 : ∀ {a b c : Nat}, ¬ (a = 5 ∨ 12 ≤ a) → s'.1 a b c = st.1 a b c := fun h => (q.1 _ _ _ h).1
  have q2 : ∀ {a b c : Nat}, ¬ (a = 5 ∨ 12 ≤ a) → s'.2.1 a b c = st.2.1 a b c := fun h => (q.1 _ _ _ h).2.1
  have q3 : ∀ {a b c : Nat}, ¬ (a = 5 ∨ 12 ≤ a) → s'.2.2.1 a b c = st.2.2.1 a b c := fun h => (q.1 _ _ _ h).2.2
  obtain ⟨h1, h2, h3, h4, h5, h6, h7, h8, h9, h10, h11⟩ := h
  obtain ⟨f1, f2, f3, f4, f5, f6, f7⟩ := h1
  obtain ⟨p1, p2, p3, p4, p5, p6, p7, p8⟩ := h4
  refine ⟨⟨(q3 (by omega)).trans f1, (q3 (by omega)).trans f2, (q3 (by omega)).trans f3, (q3 (by omega)).trans f4, (q3 (by omega)).trans f5, (q3 (by omega)).trans f6, (q3 (by omega)).trans f7⟩, ?_, fun i hi => ?_, ⟨(q3 (by omega)).trans p1, (q3 (by omega)).trans p2, (q3 (by omega)).trans p3, (q1 (by omega)).trans p4, p5, fun p hp => ⟨(q1 (by omega)).trans (p6 p hp).1, (p6 p hp).2.1, (q1 (by omega)).trans (p6 p hp).2.2.1, (p6 p hp).2.2.2⟩, fun p m hp hm => (q1 (by omega)).trans (p7 p m hp hm), fun p hp hq => (q1 (by omega)).trans (p8 p hp hq)⟩, (q1 (by omega)).trans h5, (q1 (by omega)).trans h6, fun k hk => (q1 (by omega)).trans (h7 k hk), (q2 (by omega)).trans h8, (q2 (by omega)).trans h9, (q1 (by omega)).trans h10, (q1 (by omega)).trans h11⟩
  · unfold CA
    rw [q.2.1, q.2.2]
    exact ⟨h2.1, h2.2.1, h2.2.2.1, fun i hi => (q3 (by omega)).trans (h2.2.2.2.1 i hi), fun i hi => ⟨(q1 (by omega)).trans (h2.2.2.2.2 i hi).1, (q3 (by omega)).trans (h2.2.2.2.2 i hi).2⟩⟩
  · obtain ⟨a1, a2, a3, a4, a5, a6, a7, a8, a9, a10, a11⟩ := h3 i hi
    exact ⟨(q1 (by omega)).trans a1, (q1 (by omega)).trans a2, (q1 (by omega)).trans a3, (q3 (by omega)).trans a4, (q3 (by omega)).trans a5, (q3 (by omega)).trans a6, fun k p hk => (q3 (by omega)).trans (a7 k p hk), (q2 (by omega)).trans a8, by rw [q2 (by omega)]; exact a9, ⟨(q1 (by omega)).trans a10.1, a10.2.1, (q3 (by omega)).trans a10.2.2.1, fun k hk => ⟨(q1 (by omega)).trans (a10.2.2.2 k hk).1, (a10.2.2.2 k hk).2⟩⟩, fun z => (q1 (by omega)).trans (a11 z)⟩
/-- nothing made yet -/
def s00 : aS := (fun _ _ _ => 0, fun _ _ _ => 0, fun _ _ _ => none, fun _ => 0)
theorem CG_init : CG (eNew 0 (fun _ => 0) (fun _ => 0) (fun _ _ => 0)) 0 (fun _ => 0) 0 0 0 (-1) (gIn (sNew s00 4)) := by
  refine CG_new ⟨rfl, rfl, rfl, rfl, rfl, rfl, rfl⟩ ⟨by show 1 ≤ 1; omega, by show 1 ≤ 250; omega, rfl, fun i hi => ?_, fun i hi => ?_⟩ ⟨rfl, rfl, rfl, rfl, rfl, rfl, rfl, rfl, rfl, rfl⟩ ⟨rfl, rfl, rfl, rfl, by omega, fun p hp => absurd hp (by omega), fun p m hp => absurd hp (by omega), fun p hp hq => ?_⟩ rfl rfl rfl rfl rfl rfl
  · show _ = if i < 1 then some i else none
    by_cases e : i = 0
    · subst e; rfl
    · rw [if_neg (by omega)]
      simp [gIn, tIn, pIn, bec, sNew, sI, sL, sR, u3, z3, s00, e]
  · have : i = 0 := by have : i < 1 := hi; omega
    subst this
    exact ⟨rfl, rfl⟩
  · rfl
theorem J_init (d2 : Nat) (hd : 5 ≤ d) (hd2 : 3 ≤ d2) : MC l D mG_init d 10 655 [vR (some (4, 0))] (sNew s00 4) (fun u s1 => u = none ∧ s1.2.2.2 5 = 0 ∧ MC l D mM_init d2 32 22147 [vR (some (5, 0))] (sNew s1 5) (fun u2 s2 => u2 = none ∧ JE s2)) := by
  refine MC.mono (c_G_init (fun k hk => by show (if k = 4 then 1 else 0) = 0; rw [if_neg hk]) hd) (fun u s1 h => ?_)
  obtain ⟨rfl, rfl⟩ := h
  have a12 : ∀ k, 12 ≤ k → (gIn (sNew s00 4)).2.2.2 k = 0 := by
    intro k hk
    simp [gIn, tIn, pIn, bec, sNew, sI, sL, sR, s00]
    repeat rw [if_neg (by omega)]
  have a5 : (gIn (sNew s00 4)).2.2.2 5 = 0 := rfl
  have hz : (gIn (sNew s00 4)).2.1 0 0 12 = 0 := rfl
  have hC := CG_init
  have i1 : (gIn (sNew s00 4)).1 5 0 1 = 0 := rfl
  generalize gIn (sNew s00 4) = s1 at *
  have b12 : ∀ k, 12 ≤ k → (sNew s1 5).2.2.2 k = 0 := fun k hk => (sNew_an (by omega)).trans (a12 k hk)
  refine ⟨rfl, a5, MC.mono (c_M_init b12 hd2) (fun u2 s2 h2 => ?_)⟩
  obtain ⟨rfl, rfl⟩ := h2
  have k0 : ∀ {a : Nat}, a < 12 → ∀ z ∈ mArr, z.1 ≠ a := fun h z hz => by have := mArr_k z hz; omega
  have w1 : EqW s1 (sNew s1 5) := ⟨fun a b c h => ⟨if_neg (by omega), if_neg (by omega), if_neg (by omega)⟩, sNew_an (by omega), sNew_an (by omega)⟩
  have w2 : EqW (sNew s1 5) (mkA mArr (sNew s1 5)) := ⟨fun a b c h => ⟨mkA_1 mArr _ (k0 (by omega)), mkA_2 mArr _ (k0 (by omega)), mkA_3 mArr _ (k0 (by omega)) (fun z => by omega)⟩, mkA_al mArr _ (k0 (by omega)), mkA_al mArr _ (k0 (by omega))⟩
  have hm : mF (mkA mArr (sNew s1 5)) := mF_mkA b12
  have i2 : (mkA mArr (sNew s1 5)).1 5 0 1 = 0 := (mkA_1 mArr _ (k0 (by omega))).trans (by simp [sNew, z3, a5])
  have z2 : (mkA mArr (sNew s1 5)).2.1 0 0 12 = 0 := ((w2.1 0 0 12 (by omega)).2.1.trans (w1.1 0 0 12 (by omega)).2.1).trans hz
  have hC2 := (hC.w w1).w w2
  generalize mkA mArr (sNew s1 5) = X at *
  refine ⟨rfl, _, _, _, _, _, _, _, JI_new (np := 0) (ar := fun _ => 0) (md := fun _ => 0) (ou := fun _ _ => 0) (hC2.eq ?_) (MG_new hm ⟨?_, by omega, fun p hp => absurd hp (by omega)⟩ ?_ ?_ ?_) ?_⟩
  · refine EqC.tr (b := mk0 (sL (sL (sI (sI (sI X 5 0 41 (-1)) 5 0 5 0) 5 0 17 0) 5 0 18 0) 5 0 19 0)) ?_ ((EqC.I (by omega)).tr (EqC.I (by omega)))
    unfold mk0 mk1
    exact (((((((((((((((EqC.I (by omega)).tr (EqC.I (by omega))).tr (EqC.I (by omega))).tr (EqC.L (by omega))).tr (EqC.L (by omega))).tr (EqC.I (by omega))).tr (EqC.I (by omega))).tr (EqC.I (by omega))).tr (EqC.I (by omega))).tr (EqC.I (by omega))).tr (EqC.I (by omega))).tr (EqC.I (by omega))).tr (EqC.I (by omega))).tr (EqC.I (by omega))).tr (EqC.I (by omega)))
  · exact (by simp [sI, sL, u3] : _ = X.1 5 0 1).trans i2
  · simp [sI, sL, u3]
  · simp [sI, sL, u3]
  · simp [sI, sL, u3]
  · exact (by simp [mfg, mk0, mk1, sI, sL, u3] : _ = X.2.1 0 0 12).trans z2
end J5
