section J11
variable {l : Launch} {D : mD} {d : Nat} {st : aS}
theorem mgrown {E E' : EE} {up k q rm : Nat} {rv : Nat → Nat} {g w : Int64} {od sk : Int32} {Y Z : aS} (hT : TR E) (hG : GR E E' up k q rm rv) (hM : MG E rm rv g w od sk Y) (hZ : ∀ a b c, ¬ (a = 22 ∧ b = 0 ∧ c = eN E) → Z.1 a b c = (mk3 (mk2 Y (eN E) up (nI k) rm rv (eD E up)) (eN E) up (eK E up).length (eK E up).getLast?).1 a b c) (hZ2 : Z.2 = Y.2) (h22 : k = 12 → Z.1 22 0 (eN E) = nI q) (hr7 : rm ≤ 7) (hrv : ∀ j, j < rm → rv j < 60) (hu : up < eN E) (hN : eN E < 250) : MG E' 0 (fun _ => 0) g w 0 (-1) (sI (mfg Z) 5 0 17 0) ∧ EqC Y (sI (mfg Z) 5 0 17 0) := by
  have r1 : ∀ {a b c : Nat}, ¬ (a = 5 ∧ b = 0 ∧ (c = 17 ∨ c = 40 ∨ c = 41)) → (sI (mfg Z) 5 0 17 0).1 a b c = Z.1 a b c := fun h => (sI_ne (by omega)).trans ((sI_ne (by omega)).trans (sI_ne (by omega)))
  have i17 : (sI (mfg Z) 5 0 17 0).1 5 0 17 = 0 := sI_eq
  have i40 : (sI (mfg Z) 5 0 17 0).1 5 0 40 = 0 := (sI_ne (by omega)).trans ((sI_ne (by omega)).trans sI_eq)
  have i41 : (sI (mfg Z) 5 0 17 0).1 5 0 41 = -1 := (sI_ne (by omega)).trans sI_eq
  have i2 : (sI (mfg Z) 5 0 17 0).2 = Y.2 := hZ2
  generalize sI (mfg Z) 5 0 17 0 = s2 at r1 i17 i40 i41 i2 ⊢
  obtain ⟨m1, m2, m3, m4, m5, m6, m7, m8, m9, m10⟩ := hM
  have r2 : ∀ {a b c : Nat}, ¬ (a = 5 ∧ b = 0 ∧ (c = 17 ∨ c = 40 ∨ c = 41)) → ¬ (a = 5 ∧ c = 5) → ¬ (15 ≤ a ∧ a ≤ 24) → s2.1 a b c = Y.1 a b c := by
    intro a b c h1 h2 h3
    rw [r1 h1, hZ a b c (by omega), mk3_I (by omega) (by omega) (by omega) (by omega), mk2_I h2 (by omega) (by omega)]
  have g6 := hG.2.2.2.2.2
  refine ⟨⟨fun j hj => by rw [i2]; exact m1 j hj, MN_grow hT hG m2 (fun a c h1 h2 h3 => ?_) (fun z => ?_) hr7 hrv hu hN, ?_, ?_, i17, fun k hk => absurd hk (by omega), by rw [i2]; exact m7, by rw [i2]; exact m8, i40, i41⟩, ⟨fun a b c h => r2 (by omega) (by omega) (by omega), fun a b c h => by rw [i2], by rw [i2]⟩⟩
  · rw [r1 (by omega), hZ a 0 c (by omega)]
  · rw [r1 (by omega)]; exact h22 z
  · rw [show eNp E' = eNp E from congrArg (fun z => z.1) g6, show eAr E' = eAr E from congrArg (fun z => z.2.1) g6, show eMd E' = eMd E from congrArg (fun z => z.2.2.1) g6, show eOu E' = eOu E from congrArg (fun z => z.2.2.2) g6]
    exact ⟨(r2 (by omega) (by omega) (by omega)).trans m3.1, m3.2.1, fun p hp => ⟨(r2 (by omega) (by omega) (by omega)).trans (m3.2.2 p hp).1, (m3.2.2 p hp).2.1, (r2 (by omega) (by omega) (by omega)).trans (m3.2.2 p hp).2.2.1, (m3.2.2 p hp).2.2.2.1, fun m hm => (r2 (by omega) (by omega) (by omega)).trans ((m3.2.2 p hp).2.2.2.2 m hm)⟩⟩
  · rw [r1 (by omega), hZ 5 0 5 (by omega), mk3_I (by omega) (by omega) (by omega) (by omega), mk2_n.2.2.2.2.2.2.2.2.2, hG.1]
/-- the class's add, with its state as little as need be -/
theorem G_add_s {E : EE} {up k rm : Nat} {rv : Nat → Nat} {g w : Int64} {od sk p : Int32} {Fp : Prop} [Decidable Fp] (hJ : JI E rm rv g w od sk st) (hu : up < eN E) (hN : eN E < 250) (ht : tkP E up) (hFp : Fp) (hf : MC l D mG_fits (d - 1) 0 0 [vR (some (4, 0)), vI (nI k), vI p, vI (nI rm)] (sI st 4 0 4 0) (fun v s' => (sI st 4 0 4 0) = s' ∧ v = some (vI (jb Fp)))) (hd : 3 ≤ d) : MC l D mG_add d 2 27 [vR (some (4, 0)), vI (nI up), vI (nI k), vI p] st (fun v s1 => v = some (vI (nI (eN E))) ∧ ∃ X base, EqK st X ∧ X.1 4 0 4 = 0 ∧ X.2.1 4 0 5 = g ∧ X.2.1 4 0 6 = w ∧ X.1 4 0 7 = 0 ∧ X.1 4 0 8 = -1 ∧ GB X base (eN E) ∧ SPQ (fun i => if i = eN E then up else eP E i) (eN E) (eN E) (rowS rm rv 0) (gq base (eN E) up (nI k) p rv rm (eD E up) (eK E up).length (eK E up).getLast? (eI E 0)) s1) := by
  obtain ⟨j1, j2, j3, j4, j5, j6, j7, j8, j9, j10⟩ := id hJ
  obtain ⟨c1, c2, c3, c4, c5, c6, c7, c8, c9, c10, c11⟩ := id j8
  have qK : EqK st (fgt (sI st 4 0 4 0)) := ((EqK.I (by omega)).tr (EqK.I (by omega))).tr (EqK.I (by omega))
  have x4 : (fgt (sI st 4 0 4 0)).1 4 0 4 = 0 := by simp [fgt, sI, u3]
  have x7 : (fgt (sI st 4 0 4 0)).1 4 0 7 = 0 := by simp [fgt, sI, u3]
  have x8 : (fgt (sI st 4 0 4 0)).1 4 0 8 = -1 := by simp [fgt, sI, u3]
  have x11 : ∀ j, (fgt (sI st 4 0 4 0)).1 11 0 j = st.1 11 0 j := fun j => by simp [fgt, sI, u3]
  have x5 : (fgt (sI st 4 0 4 0)).2.1 = st.2.1 := rfl
  obtain ⟨u1, u2, u3, -⟩ := c3 up hu
  have key : ∀ X, EqK st X → X.1 4 0 4 = 0 → X.1 4 0 7 = 0 → X.1 4 0 8 = -1 → (∀ j, X.1 11 0 j = st.1 11 0 j) → X.2.1 = st.2.1 → MC l D mT_grow (d - 1) 2 27 [vR (some (2, 0)), vR (some (0, up)), vI (nI k), vI p, vR (some (11, 0)), vI (nI rm)] X (fun v s1 => v = some (vI (nI (eN E))) ∧ ∃ X base, EqK st X ∧ X.1 4 0 4 = 0 ∧ X.2.1 4 0 5 = g ∧ X.2.1 4 0 6 = w ∧ X.1 4 0 7 = 0 ∧ X.1 4 0 8 = -1 ∧ GB X base (eN E) ∧ SPQ (fun i => if i = eN E then up else eP E i) (eN E) (eN E) (rowS rm rv 0) (gq base (eN E) up (nI k) p rv rm (eD E up) (eK E up).length (eK E up).getLast? (eI E 0)) s1) := by
    intro X qX y4 y7 y8 y11 y5
    obtain ⟨base, hB, hM⟩ := grow_base (l := l) (D := D) (d := d - 1) (s := nI k) (p := p) j1 j2 (eGrow_GR (k := k) (q := 0) (rm := rm) (rv := rv) (O := fun _ => 0) (I := fun _ => 0) j1 hu) (c1.k qX.2.2) (c2.k qX.2.2 (fun i => qX.1 0 i 0 (by omega) (by omega))) (c3.k qX) ((qX.1 2 0 2 (by omega) (by omega)).trans c5) (fun j hj => (y11 j).trans (c7 j hj)) j5 hu hN (by omega)
    exact MC.mono hM (fun v s1 h => ⟨h.1, X, base, qX, y4, by rw [y5]; exact c8, by rw [y5]; exact c9, y7, y8, hB, h.2⟩)
  exact c_G_add_s c1 c2 c5 c6 j1 hu ⟨u1, u2, u3⟩ hf ⟨hN, ht, hFp⟩ (key _ qK x4 x7 x8 x11 x5) (fun v s' h => ⟨_, h.1⟩) hd
theorem M_add_s {E E' : EE} {up k q rm : Nat} {rv : Nat → Nat} {g w : Int64} {od sk p : Int32} {Fp : Prop} [Decidable Fp] (hT : TR E) (hX : TX E) (hG : GR E E' up k q rm rv) (hM : MG E rm rv g w od sk st) (hu : up < eN E) (hN : eN E < 250) (ht : tkP E up) (hk : k ≤ 12) (hFp : Fp) (hr : MC l D mM_hasRow (d - 1) 0 0 [vR (some (5, 0)), vI (nI k), vI p] (sI st 5 0 0 0) (fun v s' => (sI st 5 0 0 0) = s' ∧ v = some (vI (jb Fp)))) (h12 : k = 12 → p = nI q) (hr7 : rm ≤ 7) (hrv : ∀ j, j < rm → rv j < 60) (hd : 3 ≤ d) : MC l D mM_add d 0 0 [vR (some (5, 0)), vI (nI up), vI (nI k), vI p] st (fun v s2 => v = some (vI (nI (eN E))) ∧ MG E' 0 (fun _ => 0) g w 0 (-1) s2 ∧ EqC st s2) := by
  have h31 : eN E < 2 ^ 31 := by omega
  have hMt := hM.th
  have hC : EqC st (sI st 5 0 0 0) := EqC.I (by omega)
  refine c_M_add_s (c_M_isParent hMt hu h31 hT hX (by omega)) (fun _ => hr) ⟨⟨hN, ht⟩, isN_nI (by omega) (by omega), hFp⟩ ?_ (by omega)
  generalize sI st 5 0 0 0 = Y at hMt hC ⊢
  have hmF : mF (mk3 (mk2 Y (eN E) up (nI k) rm rv (eD E up)) (eN E) up (eK E up).length (eK E up).getLast?) := fun j hj => by rw [mk3_2, mk2_2]; exact hMt.1 j hj
  by_cases e : k = 12
  · subst e
    refine MS.mono (ct_add_c (X := mk3 (mk2 Y (eN E) up (nI 12) rm rv (eD E up)) (eN E) up (eK E up).length (eK E up).getLast?) hmF hN (M_made hMt hT hu hN hr7) (by omega)) (fun v s2 h => ?_)
    obtain ⟨rfl, rfl⟩ := h
    obtain ⟨t1, t2⟩ := mgrown (Z := sI (mk3 (mk2 Y (eN E) up (nI 12) rm rv (eD E up)) (eN E) up (eK E up).length (eK E up).getLast?) 22 0 (eN E) p) hT hG hMt (fun a b c h => sI_ne (by omega)) (Eq.trans (mk3_2 (st := mk2 Y (eN E) up (nI 12) rm rv (eD E up)) (n := eN E) (up := up) (len := (eK E up).length) (la := (eK E up).getLast?)) mk2_2) (fun z => by rw [← h12 z]; exact sI_eq) hr7 hrv hu hN
    exact ⟨rfl, t1, hC.tr t2⟩
  · refine MS.mono (ct_add_o (X := mk3 (mk2 Y (eN E) up (nI k) rm rv (eD E up)) (eN E) up (eK E up).length (eK E up).getLast?) hmF hN (M_made hMt hT hu hN hr7) (fun z => e ((nI_eq (by omega) (by omega)).mp (show nI k = nI 12 from z))) (by omega)) (fun v s2 h => ?_)
    obtain ⟨rfl, rfl⟩ := h
    obtain ⟨t1, t2⟩ := mgrown (Z := mk3 (mk2 Y (eN E) up (nI k) rm rv (eD E up)) (eN E) up (eK E up).length (eK E up).getLast?) hT hG hMt (fun a b c h => rfl) (by rw [mk3_2, mk2_2]) (fun z => absurd z e) hr7 hrv hu hN
    exact ⟨rfl, t1, hC.tr t2⟩
theorem J_add_y {E : EE} {up k q rm : Nat} {rv : Nat → Nat} {g w : Int64} {od sk p : Int32} {Fp : Prop} [Decidable Fp] (hJ : JI E rm rv g w od sk st) (hu : up < eN E) (hN : eN E < 250) (ht : tkP E up) (hk : k ≤ 12) (hFp : Fp) (hf : MC l D mG_fits (d - 1) 0 0 [vR (some (4, 0)), vI (nI k), vI p, vI (nI rm)] (sI st 4 0 4 0) (fun v s' => (sI st 4 0 4 0) = s' ∧ v = some (vI (jb Fp)))) (hr : ∀ s1, MG E rm rv g w od sk s1 → MC l D mM_hasRow (d - 1) 0 0 [vR (some (5, 0)), vI (nI k), vI p] s1 (fun v s' => s1 = s' ∧ v = some (vI (jb Fp)))) (h6 : k = 6 → rm = 2) (h8 : k = 8 ∨ k = 9 ∨ k = 10 → 1 ≤ rm) (h12 : k = 12 → q < eNp E ∧ p = nI q) (h0 : k < 6 → rm = 0) (h9 : k = 9 → rm = 1) (hd : 3 ≤ d) : MC l D mG_add d 2 27 [vR (some (4, 0)), vI (nI up), vI (nI k), vI p] st (JQ l D mM_add d [vR (some (5, 0)), vI (nI up), vI (nI k), vI p]) := by
  obtain ⟨j1, j2, j3, j4, j5, j6, j7, j8, j9, j10⟩ := id hJ
  obtain ⟨c1, c2, c3, c4, c5, c6, c7, c8, c9, c10, c11⟩ := id j8
  refine MC.mono (G_add_s hJ hu hN ht hFp hf hd) (fun u s1 h => ?_)
  obtain ⟨rfl, X, base, qX, x4, x5, x6, x7, x8, hB, hS⟩ := h
  obtain ⟨E', hG, t1, t2, t3, t4, t5⟩ := grown (q := q) j1 j2 (j3.k qX) (c1.k qX.2.2) (c3.k qX) (c4.k qX) x4 x5 x6 x7 x8 hB hS hu hN ht hk j5 j6 h6 h8 h12 h0 h9
  have hM1 := (j9.eq qX.M).eq t5
  refine ⟨_, rfl, MC.mono (M_add_s j1 j2 hG hM1 hu hN ht hk hFp (hr _ hM1.th) (fun z => (h12 z).2) j5 j6 hd) (fun u2 s2 h2 => ?_)⟩
  obtain ⟨rfl, y1, y2⟩ := h2
  exact ⟨rfl, E', 0, fun _ => 0, g, w, 0, -1, t1, t2, t3.eq (fun i hi => y2.2.1 0 i 12 (by omega)), j4, by omega, fun k hk => absurd hk (by omega), Or.inl rfl, t4.eq y2, y1, fun z => absurd z (by decide)⟩
theorem J_add_n {E : EE} {rm : Nat} {rv : Nat → Nat} {g w : Int64} {od sk p x s : Int32} (hJ : JI E rm rv g w od sk st) (hc : MC l D mG_add d 2 27 [vR (some (4, 0)), vI x, vI s, vI p] st (fun v s' => v = some (vI (-1)) ∧ s' = sI st 4 0 4 0)) (hm : ∀ s1, MG E rm rv g w od sk s1 → MC l D mM_add d 0 0 [vR (some (5, 0)), vI x, vI s, vI p] s1 (fun v s' => v = some (vI (-1)) ∧ s' = sI (sI s1 5 0 0 0) 5 0 17 0)) : MC l D mG_add d 2 27 [vR (some (4, 0)), vI x, vI s, vI p] st (JQ l D mM_add d [vR (some (5, 0)), vI x, vI s, vI p]) := by
  obtain ⟨j1, j2, j3, j4, j5, j6, j7, j8, j9, j10⟩ := id hJ
  obtain ⟨c1, c2, c3, c4, c5, c6, c7, c8, c9, c10, c11⟩ := id j8
  obtain ⟨m1, m2, m3, m4, m5, m6, m7, m8, m9, m10⟩ := id j9
  refine MC.mono hc (fun u s1 h => ?_)
  obtain ⟨rfl, rfl⟩ := h
  have q : EqK st (sI st 4 0 4 0) := EqK.I (by omega)
  refine ⟨_, rfl, MC.mono (hm _ (j9.eq q.M)) (fun u2 s2 h2 => ?_)⟩
  obtain ⟨rfl, rfl⟩ := h2
  exact ⟨rfl, E, 0, fun _ => 0, g, w, od, sk, hJ.kn q ((EqN.I (by omega)).tr (EqN.I (by omega))) (by omega) (fun k hk => absurd hk (by omega)) (Or.inl ⟨rfl, rfl⟩) sI_eq (fun k hk => absurd hk (by omega)) c8 c9 ((sI_ne (by omega)).trans c10) ((sI_ne (by omega)).trans c11) sI_eq (fun k hk => absurd hk (by omega)) m7 m8 ((sI_ne (by omega)).trans ((sI_ne (by omega)).trans ((sI_ne (by omega)).trans m9))) ((sI_ne (by omega)).trans ((sI_ne (by omega)).trans ((sI_ne (by omega)).trans m10)))⟩
theorem J_add (hJ : JE st) (x s p : Int32) (hd : 4 ≤ d) : MC l D mG_add d 2 27 [vR (some (4, 0)), vI x, vI s, vI p] st (JQ l D mM_add d [vR (some (5, 0)), vI x, vI s, vI p]) := by
  obtain ⟨E, rm, rv, g, w, od, sk, hJ⟩ := hJ
  obtain ⟨j1, j2, j3, j4, j5, j6, j7, j8, j9, j10⟩ := id hJ
  obtain ⟨c1, c2, c3, c4, c5, c6, c7, c8, c9, c10, c11⟩ := id j8
  have h31 : eN E < 2 ^ 31 := by have := j1.1; omega
  have q : EqK st (sI st 4 0 4 0) := EqK.I (by omega)
  -- what the row must be, on both sides
  have fits : ∃ (Fp : Prop) (_ : Decidable Fp), MC l D mG_fits (d - 1) 0 0 [vR (some (4, 0)), vI s, vI p, vI (nI rm)] (sI st 4 0 4 0) (fun v s' => (sI st 4 0 4 0) = s' ∧ v = some (vI (jb Fp))) ∧ (isN 13 s → ∀ s1, MG E rm rv g w od sk s1 → MC l D mM_hasRow (d - 1) 0 0 [vR (some (5, 0)), vI s, vI p] s1 (fun v s' => s1 = s' ∧ v = some (vI (jb Fp)))) ∧ (Fp → ∃ k qq, k ≤ 12 ∧ s = nI k ∧ (k = 6 → rm = 2) ∧ (k = 8 ∨ k = 9 ∨ k = 10 → 1 ≤ rm) ∧ (k = 12 → qq < eNp E ∧ p = nI qq) ∧ (k < 6 → rm = 0) ∧ (k = 9 → rm = 1)) := by
    by_cases hs : isN 13 s
    · obtain ⟨k, hk, rfl⟩ := isN_of hs (by omega)
      by_cases e : k = 12
      · subst e
        refine ⟨_, inferInstance, c_G_fits_c p rm (c1.k q.2.2) (c4.k q) j5 (by omega), fun _ s1 h => c_M_hasRow_c (p := p) h j5, fun z => ?_⟩
        obtain ⟨i, hi, rfl⟩ := isN_of z.1 (by have := c4.2.2.2.2.1; omega)
        exact ⟨12, i, by omega, rfl, fun z => absurd z (by omega), fun z => absurd z (by omega), fun _ => ⟨hi, rfl⟩, fun z => absurd z (by omega), fun z => absurd z (by omega)⟩
      · refine ⟨_, inferInstance, c_G_fits_o p rm (by omega), fun _ s1 h => c_M_hasRow (p := p) h (by omega) j5, fun z => ⟨k, 0, by omega, rfl, ?_⟩⟩
        rw [fit_dec k (by omega) rm j5] at z
        refine ⟨fun y => ?_, fun y => ?_, fun y => absurd y e, fun y => ?_, fun y => ?_⟩
        · subst y; simpa using z
        · rcases y with rfl | rfl | rfl
          · have : 0 < rm ∧ rm < 6 := by simpa using z
            omega
          · have : rm = 1 := by simpa using z
            omega
          · have : 0 < rm := by simpa using z
            omega
        · rw [if_pos y] at z; exact z
        · subst y; simpa using z
    · exact ⟨False, inferInstance, c_G_fits_n s p rm hs, fun z => absurd z hs, fun z => z.elim⟩
  obtain ⟨Fp, iF, hf, hr, hF⟩ := fits
  by_cases hI : isN (eN E) x
  · obtain ⟨up, hu, rfl⟩ := isN_of hI h31
    obtain ⟨u1, u2, u3, -⟩ := c3 up hu
    by_cases hx : eN E < 250 ∧ tkP E up ∧ Fp
    · obtain ⟨k, qq, hk, rfl, t1, t2, t3, t4, t5⟩ := hF hx.2.2
      exact J_add_y (q := qq) hJ hu hx.1 hx.2.1 hk hx.2.2 hf (hr (isN_nI (by omega) (by omega))) t1 t2 t3 t4 t5 (by omega)
    · refine J_add_n hJ (c_G_add_f c1 c2 c5 c6 j1 hu ⟨u1, u2, u3⟩ hf hx (by omega)) (fun s1 h => c_M_add_f (c_M_isParent h.th hu h31 j1 j2 (by omega)) (fun z => hr z _ h.th) (fun z => hx ⟨z.1.1, z.1.2, z.2.2⟩) (by omega))
  · exact J_add_n hJ (c_G_add_x c1 c2 c5 c6 hI (by omega)) (fun s1 h => c_M_add_f (c_M_isParent_n h.th hI (by omega)) (fun z => hr z _ h.th) (fun z => z.1) (by omega))
end J11
