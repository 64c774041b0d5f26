section CM13
variable {l : Launch} {D : mD} {d : Nat} {st : aS} {E : EE}
theorem mlf_split {st : aS} : ∀ {L : List Nat} {q : Nat} {post : List Nat}, mlf st L = q :: post → ∃ i, L[i]? = some q ∧ mlf st (L.drop (i + 1)) = post ∧ st.1 32 0 q = 0
  | [], _, _, h => by cases h
  | a :: L, q, post, h => by
    by_cases ha : st.1 32 0 a = 0
    · rw [mlf_pos ha] at h
      cases h
      exact ⟨0, rfl, rfl, ha⟩
    · rw [mlf_neg ha] at h
      obtain ⟨i, h1, h2, h3⟩ := mlf_split h
      exact ⟨i + 1, h1, h2, h3⟩
theorem gm_flat {f : Nat} {s : aS} {od : List (Nat × Int64)} : gm E s (od.flatMap fun q => finF E f q.1 q.2) ↔ ∀ z ∈ od, gm E s (finF E f z.1 z.2) := by
  constructor
  · intro h z hz q hq
    exact h q (List.mem_flatMap.mpr ⟨z, hz, hq⟩)
  · intro h q hq
    obtain ⟨z, hz, hq⟩ := List.mem_flatMap.mp hq
    exact h z hz q hq
theorem rowF_nil {g : Nat → Int64 → RR} {S : Int64} : ∀ (m : Nat), rowF g m [] S = ((.inl S, 0), [])
  | 0 => rfl
  | _ + 1 => rfl
/-- where a row of the reference stands, before it goes on at place j of its parts -/
def RI (E : EE) (n f F t : Nat) (S : Int64) (s0 : aS) (od : List (Nat × Int64)) (S' : Int64) (t' j m : Nat) (s1 : aS) : Prop :=
  MT E n F s0 s1 ∧ s1.1 5 0 38 = nI (F + 1) ∧ s1.1 37 0 F = nI n ∧ s1.1 38 0 F = 1 ∧ s1.2.1 29 0 n = S ∧ s1.1 36 0 n = -1 ∧ s1.2.1 41 0 F = S' ∧ s1.1 40 0 F = nI od.length ∧ s1.1 5 0 39 = nI t' ∧ t' ≤ 20000 ∧
  (∀ z ∈ od, z.1 ∈ eK E n ∧ ¬ s1.1 32 0 z.1 = 0) ∧ (od.map Prod.fst).Nodup ∧ (∀ k p, (od.map Prod.fst)[k]? = some p → s1.1 33 0 p = nI k) ∧ (∀ z ∈ od, gm E s1 (finF E f z.1 z.2)) ∧ (mlf s1 (eK E n)).length ≤ m ∧
  ∃ tL, tL + (rowF (tryF E f) m (mlf s1 (eK E n)) S').1.2 = t + 1 + (rowF (tryF E f) (eK E n).length (eK E n) S).1.2 ∧ (rowF (tryF E f) m (mlf s1 (eK E n)) S').1.1 = (rowF (tryF E f) (eK E n).length (eK E n) S).1.1 ∧ od ++ (rowF (tryF E f) m (mlf s1 (eK E n)) S').2 = (rowF (tryF E f) (eK E n).length (eK E n) S).2 ∧
    (scanF (tryF E f) S' (mlf s1 (eK E n))).1 = (scanF (tryF E f) S' (mlf s1 ((eK E n).drop j))).1 ∧ t' + (scanF (tryF E f) S' (mlf s1 ((eK E n).drop j))).2 = tL + (scanF (tryF E f) S' (mlf s1 (eK E n))).2 ∧
    (mlf s1 ((eK E n).drop j) = mlf s1 (eK E n) ∨ ∃ q0 r0 kk, mlf s1 (eK E n) = q0 :: r0 ∧ (tryF E f q0 S').1 = .inr kk ∧ blF E s1 f q0 kk)
theorem row_end0 {Q : Option aV → aS → Prop} {f n t F : Nat} {S : Int64} {s0 : aS} (hT0 : TM E s0) (hn : n < eN E) (hs : eS E n = 0)
    (hN : ∀ s2, mQ E n S (f + 1) t F s0 s2 → LHd l D d Q 1 s2)
    (eT : tryF E (f + 1) n S = ((rowF (tryF E f) (eK E n).length (eK E n) S).1.1, 1 + (rowF (tryF E f) (eK E n).length (eK E n) S).1.2))
    (eF : finF E (f + 1) n S = (n, S, (rowF (tryF E f) (eK E n).length (eK E n) S).2.map Prod.fst) :: (rowF (tryF E f) (eK E n).length (eK E n) S).2.flatMap (fun q => finF E f q.1 q.2))
    {m j t' : Nat} {S' : Int64} {od : List (Nat × Int64)} {s1 s' : aS} {b : Int32} (hI : RI E n f F t S s0 od S' t' j m s1) (e1 : mlf s1 ((eK E n).drop j) = []) (e0 : mlf s1 (eK E n) = []) (hq : rowQ E n F t' S' s1 ((eK E n).drop j) (some (vI b)) s') : LHd l D d Q b s' := by
  obtain ⟨i1, i2, i3, i4, i5, i6, i7, i8, i9, i10, i11, i12, i13, i14, i15, tL, i16, i17, i18, i19, i20, i21⟩ := hI
  unfold rowQ at hq
  rw [e1] at hq
  obtain ⟨hv, hq⟩ := hq
  have e9 : mlf (sI s1 39 0 F (-1)) (eK E n) = [] := (mlf_congr (fun q _ => sI_ne (by omega))).trans e0
  rw [e9] at hq
  have eb : b = 1 := by simpa using hv
  subst eb
  subst hq
  rw [e0, rowF_nil] at i16 i17 i18
  rw [e0, e1] at i20
  have ec : t' = t + (1 + (rowF (tryF E f) (eK E n).length (eK E n) S).1.2) := by
    have a : tL + 0 = t + 1 + _ := i16
    have c : t' + 0 = tL + 0 := i20
    omega
  have eo : od = (rowF (tryF E f) (eK E n).length (eK E n) S).2 := by rw [← i18]; exact (List.append_nil od).symm
  refine hN _ ?_
  unfold mQ
  rw [eT, eF, ← i17, ← eo]
  have hA9 : (ends (sI s1 39 0 F (-1)) F n 1 S').2.1 29 0 n = S := ends_29.trans i5
  refine ⟨i1.tr ((MT.fI (by omega) (Nat.le_refl F)).tr ends_MT), ends_38, by show t + (1 + _) ≤ _; omega, ends_39.trans ((sI_ne (by omega)).trans (i9.trans (by rw [ec]))), ?_⟩
  exact ⟨ends_31, ends_30, hA9, gm.cons hA9 (fun w => by have w2 : 3 < eS E n := w; omega) (fun _ k p hk => (ends_I (by omega)).trans ((sI_ne (by omega)).trans (i13 k p hk))) ((gm_flat.mpr i14).keep (fun x hx => ⟨ends_29, (ends_I (by omega)).trans (sI_ne (by omega)), (ends_I (by omega)).trans (sI_ne (by omega))⟩) (fun x hx y hy => (ends_I (by omega)).trans (sI_ne (by omega))))⟩
theorem row_end {Q : Option aV → aS → Prop} {f n t F : Nat} {S : Int64} {s0 : aS} (hT0 : TM E s0) (hn : n < eN E) (hs : eS E n = 0)
    (hN : ∀ s2, mQ E n S (f + 1) t F s0 s2 → LHd l D d Q 1 s2)
    (eT : tryF E (f + 1) n S = ((rowF (tryF E f) (eK E n).length (eK E n) S).1.1, 1 + (rowF (tryF E f) (eK E n).length (eK E n) S).1.2))
    (eF : finF E (f + 1) n S = (n, S, (rowF (tryF E f) (eK E n).length (eK E n) S).2.map Prod.fst) :: (rowF (tryF E f) (eK E n).length (eK E n) S).2.flatMap (fun q => finF E f q.1 q.2))
    {m j t' : Nat} {S' : Int64} {od : List (Nat × Int64)} {s1 s' : aS} {b : Int32} (hI : RI E n f F t S s0 od S' t' j (m + 1) s1) (e1 : mlf s1 ((eK E n).drop j) = []) (hq : rowQ E n F t' S' s1 ((eK E n).drop j) (some (vI b)) s') : LHd l D d Q b s' := by
  cases e0 : mlf s1 (eK E n) with
  | nil => exact row_end0 hT0 hn hs hN eT eF hI e1 e0 hq
  | cons q0 r0 =>
    obtain ⟨i1, i2, i3, i4, i5, i6, i7, i8, i9, i10, i11, i12, i13, i14, i15, tL, i16, i17, i18, i19, i20, i21⟩ := hI
    unfold rowQ at hq
    rw [e1] at hq
    obtain ⟨hv, hq⟩ := hq
    have e9 : mlf (sI s1 39 0 F (-1)) (eK E n) = q0 :: r0 := (mlf_congr (fun q _ => sI_ne (by omega))).trans e0
    rw [e9] at hq
    have eb : b = 1 := by simpa using hv
    subst eb
    have hq : s' = ends (sI (sI s1 39 0 F (-1)) 36 0 n (nI q0)) F n 0 S' := hq
    subst hq
    rw [e1, e0] at i21
    rcases i21 with i21 | ⟨q1, r1, kk, z1, z2, z3⟩
    · cases i21
    cases z1
    rw [e1, e0] at i19 i20
    have hsc : (scanF (tryF E f) S' (q0 :: r0)).1 = none := i19
    have er : rowF (tryF E f) (m + 1) (q0 :: r0) S' = ((.inr kk, (scanF (tryF E f) S' (q0 :: r0)).2), []) := by
      conv => lhs; unfold rowF
      rw [hsc, z2]
      rfl
    rw [e0, er] at i16 i17
    have hqk : q0 ∈ eK E n := (mlf_mem.mp (by rw [e0]; exact List.mem_cons_self)).1
    have a : tL + (scanF (tryF E f) S' (q0 :: r0)).2 = t + 1 + _ := i16
    have c : t' + 0 = tL + (scanF (tryF E f) S' (q0 :: r0)).2 := i20
    exact hN _ (mQ_fail hT0.1 hn (by omega) hqk (i1.tr (MT.fI (by omega) (Nat.le_refl F))) (cost := 1 + (rowF (tryF E f) (eK E n).length (eK E n) S).1.2) (by rw [eT, ← i17]) (by omega) ((sI_ne (by omega)).trans (i9.trans (congrArg nI (by omega)))) (z3.keep hT0.1 (hT0.1.kid hn hqk).1 (fun m hm => sI_ne (by omega))))
theorem row_step {Q : Option aV → aS → Prop} {f n t F : Nat} {S : Int64} {s0 : aS} (hR : RUN l D d E Q f) (hT0 : TM E s0) (hn : n < eN E) (hs : eS E n = 0) (hdp : eD E n + (f + 1) = 21) (hFd : F = eD E n) (hd : 7 ≤ d)
    (hX : ∀ s2, SM s0 s2 → 20000 < t + (tryF E (f + 1) n S).2 → LHd l D d Q 0 s2)
    (eT : tryF E (f + 1) n S = ((rowF (tryF E f) (eK E n).length (eK E n) S).1.1, 1 + (rowF (tryF E f) (eK E n).length (eK E n) S).1.2))
    {m j t' q : Nat} {post : List Nat} {S' : Int64} {od : List (Nat × Int64)} {s1 s' : aS} {b : Int32} (hI : RI E n f F t S s0 od S' t' j (m + 1) s1) (hsf : mlf s1 ((eK E n).drop j) = q :: post) (hq : rowQ E n F t' S' s1 ((eK E n).drop j) (some (vI b)) s')
    (kF : ∀ (i : Nat) (b3 : Int32) (s3 : aS) (t3 : Nat) (s4 : aS), j < i → i ≤ (eK E n).length → RI E n f F t S s0 od S' t3 i (m + 1) s3 → rowQ E n F t3 S' s3 ((eK E n).drop i) (some (vI b3)) s4 → LHd l D d Q b3 s4)
    (kD : ∀ (b3 : Int32) (s3 : aS) (t3 : Nat) (S3 : Int64) (od3 : List (Nat × Int64)) (s4 : aS), RI E n f F t S s0 od3 S3 t3 0 m s3 → rowQ E n F t3 S3 s3 ((eK E n).drop 0) (some (vI b3)) s4 → LHd l D d Q b3 s4) : LHd l D d Q b s' := by
  obtain ⟨i1, i2, i3, i4, i5, i6, i7, i8, i9, i10, i11, i12, i13, i14, i15, tL, i16, i17, i18, i19, i20, i21⟩ := hI
  have hd20 := (hT0.1.2.2 n hn).2.1
  have hnd := (hT0.1.2.2 n hn).2.2.1
  have hT1 := hT0.mv i1.1
  obtain ⟨i, hi1, hi2, hi3⟩ := mlf_split hsf
  have hjq : (eK E n)[j + i]? = some q := by rw [← hi1, List.getElem?_drop]
  have hqk : q ∈ eK E n := List.mem_of_getElem? hjq
  have hqk' := hT0.1.kid hn hqk
  have hjl : j + i < (eK E n).length := (List.getElem?_eq_some_iff.mp hjq).1
  have hpost : mlf s1 ((eK E n).drop (j + i + 1)) = post := by rw [← hi2, List.drop_drop, Nat.add_assoc]
  rw [hsf] at i19 i20
  have hq1 : q ∈ mlf s1 (eK E n) := mlf_mem.mpr ⟨hqk, hi3⟩
  have hrow : (scanF (tryF E f) S' (mlf s1 (eK E n))).2 ≤ (rowF (tryF E f) (m + 1) (mlf s1 (eK E n)) S').1.2 := by
    cases hr : mlf s1 (eK E n) with
    | nil => exact Nat.zero_le _
    | cons a r =>
      conv => rhs; unfold rowF
      split
      · exact Nat.le_add_right _ _
      · exact Nat.le_refl _
  have hsq : (tryF E f q S').2 ≤ (scanF (tryF E f) S' (q :: post)).2 := by
    conv => rhs; unfold scanF
    split
    · exact Nat.le_refl _
    · exact Nat.le_add_right _ _
  unfold rowQ at hq
  rw [hsf] at hq
  have hq : tQ E q S' t' (F + 1) (sI s1 39 0 F (nI q)) (some (vI b)) s' := hq
  have h1 : MT E n F s1 (sI s1 39 0 F (nI q)) := MT.fI (by omega) (Nat.le_refl F)
  refine go_tried hR (hT1.mv h1.1) hqk'.1 (by rw [hqk'.2.2.2]; omega) (by rw [hqk'.2.2.2, hFd]) hq (fun s2 h2 => ?_) (fun s2 g2 hcx => hX s2 ((i1.1.tr h1.1).tr g2) (by rw [eT]; show 20000 < t + (1 + _); omega))
  obtain ⟨m1, m2, m3, m4, m5⟩ := h2
  have hat := m1.at hT0.1 hn hqk
  have hT2 := (hT1.mv h1.1).mv m1.1
  have fr := m1.2.2.1 F (by omega)
  have g1 : MT E n F s0 s2 := (i1.tr h1).tr (m1.up hT0.1 hn hqk (by omega))
  have k32 : ∀ p ∈ eK E n, s2.1 32 0 p = s1.1 32 0 p ∧ s2.1 33 0 p = s1.1 33 0 p := by
    intro p hp
    by_cases e : q = p
    · subst e
      exact ⟨m1.2.2.2.1.trans (sI_ne (by omega)), m1.2.2.2.2.trans (sI_ne (by omega))⟩
    · have h := m1.sib hT0.1 hn hqk hp e subP_self
      exact ⟨(h.1 32 (by omega) (by omega)).trans (sI_ne (by omega)), (h.1 33 (by omega) (by omega)).trans (sI_ne (by omega))⟩
  have l2 : ∀ L, (∀ x ∈ L, x ∈ eK E n) → mlf s2 L = mlf s1 L := fun L hL => mlf_congr (fun x hx => (k32 x (hL x hx)).1)
  have hod : ∀ z ∈ od, q ≠ z.1 := fun z hz e => (i11 z hz).2 (by rw [← e]; exact hi3)
  have gm2 : ∀ z ∈ od, gm E s2 (finF E f z.1 z.2) := fun z hz => gm.sib hT0.1 hn hqk (i11 z hz).1 (hod z hz) m1 ((i14 z hz).keep (fun x hx => ⟨rfl, sI_ne (by omega), sI_ne (by omega)⟩) (fun x hx y hy => sI_ne (by omega)))
  have c36 : s2.1 36 0 n = -1 := (hat.1 36 (by omega) (by omega)).trans ((sI_ne (by omega)).trans i6)
  have c29 : s2.2.1 29 0 n = S := hat.2.1.trans i5
  have c37 : s2.1 37 0 F = nI n := (fr.1 37 (by omega) (by omega)).trans ((sI_ne (by omega)).trans i3)
  have c38 : s2.1 38 0 F = 1 := (fr.1 38 (by omega) (by omega)).trans ((sI_ne (by omega)).trans i4)
  have c40 : s2.1 40 0 F = nI od.length := (fr.1 40 (by omega) (by omega)).trans ((sI_ne (by omega)).trans i8)
  have c41 : s2.2.1 41 0 F = S' := (fr.2 41 (by omega) (by omega)).trans i7
  have c39 : s2.1 39 0 F = nI q := (fr.1 39 (by omega) (by omega)).trans sI_eq
  refine LH_step m2 (by omega) (c_M_goesOn_0 hT2 hn hs m2 (by omega) c37 (c_M_row_1 (g := s2.1 31 0 q) (B := s2.2.1 30 0 q) hT2 hn (by omega) m2 c38 c41 c36 m4 m3 hjq c39 c40 rfl rfl (by omega)) (fun v s' h => h.elim (fun h => rowQ_v h.2) (fun h => rowQ_v h.2)) (by omega)) (fun v s' h => h.elim (fun h => rowQ_v h.2) (fun h => rowQ_v h.2)) (by omega) (fun b3 s4 h3 => ?_)
  cases hrq : (tryF E f q S').1 with
  | inr kk =>
    rw [hrq] at m5
    rcases h3 with ⟨-, h3⟩ | ⟨z, -⟩
    · have es : scanF (tryF E f) S' (q :: post) = ((scanF (tryF E f) S' post).1, (tryF E f q S').2 + (scanF (tryF E f) S' post).2) := by
        conv => lhs; unfold scanF
        rw [hrq]
      rw [es] at i19 i20
      have h5 : MT E n F s2 (sI s2 39 0 F (nx ((eK E n).drop (j + i + 1)).head?)) := MT.fI (by omega) (Nat.le_refl F)
      have l3 : ∀ L, (∀ x ∈ L, x ∈ eK E n) → mlf (sI s2 39 0 F (nx ((eK E n).drop (j + i + 1)).head?)) L = mlf s1 L := fun L hL => (mlf_congr (fun x hx => sI_ne (by omega))).trans (l2 L hL)
      refine kF (j + i + 1) b3 _ _ s4 (by omega) (by omega) ?_ h3
      unfold RI
      rw [l3 _ (fun _ h => h), l3 _ (fun _ h => List.mem_of_mem_drop h), hpost]
      refine ⟨g1.tr h5, (sI_ne (by omega)).trans m2, (sI_ne (by omega)).trans c37, (sI_ne (by omega)).trans c38, c29, (sI_ne (by omega)).trans c36, c41, (sI_ne (by omega)).trans c40, (sI_ne (by omega)).trans m4, m3, fun z hz => ⟨(i11 z hz).1, fun w => (i11 z hz).2 ?_⟩, i12, fun k p hk => ?_, fun z hz => (gm2 z hz).keep (fun x hx => ⟨rfl, sI_ne (by omega), sI_ne (by omega)⟩) (fun x hx y hy => sI_ne (by omega)), i15, tL, i16, i17, i18, i19, by rw [← i20]; show _ = t' + (_ + _); omega, Or.inr ?_⟩
      · rw [sI_ne (by omega), (k32 z.1 (i11 z hz).1).1] at w
        exact w
      · obtain ⟨z, hz, e⟩ := List.mem_map.mp (List.mem_of_getElem? hk)
        rw [sI_ne (by omega), (k32 p (by rw [← e]; exact (i11 z hz).1)).2]
        exact i13 k p hk
      · have hbq : blF E (sI s2 39 0 F (nx ((eK E n).drop (j + i + 1)).head?)) f q kk := m5.2.keep hT0.1 hqk'.1 (fun m hm => sI_ne (by omega))
        rcases i21 with i21 | ⟨q0, r0, k0, z1, z2, z3⟩
        · exact ⟨q, post, kk, by rw [← i21, hsf], hrq, hbq⟩
        · by_cases e : q = q0
          · subst e
            exact ⟨q, r0, kk, z1, hrq, hbq⟩
          · have hq0 : q0 ∈ eK E n := (mlf_mem.mp (by rw [z1]; exact List.mem_cons_self)).1
            exact ⟨q0, r0, k0, z1, z2, z3.keep hT0.1 (hT0.1.kid hn hq0).1 (fun m hm => (sI_ne (by omega)).trans (((m1.sib hT0.1 hn hqk hq0 e hm).1 36 (by omega) (by omega)).trans (sI_ne (by omega))))⟩
    · exact absurd m5.1 z
  | inl B =>
    rw [hrq] at m5
    obtain ⟨q1, q2, q3, q4⟩ := m5
    rcases h3 with ⟨z, -⟩ | ⟨-, h3⟩
    · rw [q1] at z; exact absurd z (by decide)
    rw [q2] at h3
    have es : scanF (tryF E f) S' (q :: post) = (some (q, B), (tryF E f q S').2) := by
      conv => lhs; unfold scanF
      rw [hrq]
    rw [es] at i19 i20
    have hsc : (scanF (tryF E f) S' (mlf s1 (eK E n))).1 = some (q, B) := i19
    have er : rowF (tryF E f) (m + 1) (mlf s1 (eK E n)) S' = (((rowF (tryF E f) m ((mlf s1 (eK E n)).erase q) B).1.1, (scanF (tryF E f) S' (mlf s1 (eK E n))).2 + (rowF (tryF E f) m ((mlf s1 (eK E n)).erase q) B).1.2), (q, S') :: (rowF (tryF E f) m ((mlf s1 (eK E n)).erase q) B).2) := by
      cases hr : mlf s1 (eK E n) with
      | nil => rw [hr] at hq1; cases hq1
      | cons a r =>
        rw [hr] at hsc
        conv => lhs; unfold rowF
        rw [hsc]
    rw [er] at i16 i17 i18
    have h5 : MT E n F s2 (sI (sL (sI (sI (sI s2 32 0 q 1) 33 0 q (nI od.length)) 40 0 F (nI (od.length + 1))) 41 0 F B) 39 0 F (nx (eK E n).head?)) := (((((MT.pI (by omega) (hT0.1.sub hn hqk subP_self) (fun _ => by omega)).tr (MT.pI (by omega) (hT0.1.sub hn hqk subP_self) (fun _ => by omega))).tr (MT.fI (by omega) (Nat.le_refl F))).tr (MT.fL (by omega) (Nat.le_refl F))).tr (MT.fI (by omega) (Nat.le_refl F)))
    have f32 : ∀ p, (sI (sL (sI (sI (sI s2 32 0 q 1) 33 0 q (nI od.length)) 40 0 F (nI (od.length + 1))) 41 0 F B) 39 0 F (nx (eK E n).head?)).1 32 0 p = if p = q then 1 else s2.1 32 0 p := by
      intro p; simp [sI, sL, u3]
    have f33 : ∀ p, (sI (sL (sI (sI (sI s2 32 0 q 1) 33 0 q (nI od.length)) 40 0 F (nI (od.length + 1))) 41 0 F B) 39 0 F (nx (eK E n).head?)).1 33 0 p = if p = q then nI od.length else s2.1 33 0 p := by
      intro p; simp [sI, sL, u3]
    have l3 : mlf (sI (sL (sI (sI (sI s2 32 0 q 1) 33 0 q (nI od.length)) 40 0 F (nI (od.length + 1))) 41 0 F B) 39 0 F (nx (eK E n).head?)) (eK E n) = (mlf s1 (eK E n)).erase q := by
      refine (erase_filter hnd (fun p hp hne => ?_) ?_).symm
      · rw [f32, if_neg hne, (k32 p hp).1]
      · rw [f32, if_pos rfl]; decide
    refine kD b3 _ _ B (od ++ [(q, S')]) s4 ?_ h3
    have gk : ∀ z S'', z ∈ eK E n → gm E s2 (finF E f z S'') → gm E (sI (sL (sI (sI (sI s2 32 0 q 1) 33 0 q (nI od.length)) 40 0 F (nI (od.length + 1))) 41 0 F B) 39 0 F (nx (eK E n).head?)) (finF E f z S'') := by
      intro z S'' hz h
      refine h.keep (fun x hx => ⟨by simp [sI, sL, u3], by simp [sI, sL, u3], by simp [sI, sL, u3]⟩) (fun x hx y hy => ?_)
      rw [f33, if_neg]
      intro e
      obtain ⟨h7, h8⟩ := (finF_sub hT0.1 f (hT0.1.kid hn hz).1 x hx).2 y hy
      subst e
      by_cases e2 : z = y
      · omega
      · exact hT0.1.apart hn hz hqk e2 h7 subP_self
    unfold RI
    rw [List.drop_zero, l3]
    refine ⟨g1.tr h5, by simpa [sI, sL, u3] using m2, by simpa [sI, sL, u3] using c37, by simpa [sI, sL, u3] using c38, by simpa [sI, sL, u3] using c29, by simpa [sI, sL, u3] using c36, by simp [sI, sL, u3], by simp [sI, sL, u3], by simpa [sI, sL, u3] using m4, m3, fun z hz => ?_, ?_, fun k p hk => ?_, fun z hz => ?_, ?_, t' + (tryF E f q S').2, ?_, i17, ?_, rfl, rfl, Or.inl rfl⟩
    · rcases List.mem_append.mp hz with hz | hz
      · refine ⟨(i11 z hz).1, fun w => (i11 z hz).2 ?_⟩
        rw [f32, if_neg (Ne.symm (hod z hz)), (k32 z.1 (i11 z hz).1).1] at w
        exact w
      · rw [List.mem_singleton] at hz
        subst hz
        exact ⟨hqk, by rw [f32, if_pos rfl]; decide⟩
    · rw [List.map_append, List.nodup_append]
      refine ⟨i12, by simp, fun x hx y hy e => ?_⟩
      obtain ⟨z, hz, ez⟩ := List.mem_map.mp hx
      have hy : y = q := by simpa using hy
      exact hod z hz (by rw [ez, e, hy])
    · rw [List.map_append] at hk
      by_cases hkl : k < (od.map Prod.fst).length
      · rw [List.getElem?_append_left hkl] at hk
        obtain ⟨z, hz, e⟩ := List.mem_map.mp (List.mem_of_getElem? hk)
        rw [f33, if_neg (by rw [← e]; exact Ne.symm (hod z hz)), (k32 p (by rw [← e]; exact (i11 z hz).1)).2]
        exact i13 k p hk
      · rw [List.getElem?_append_right (by omega)] at hk
        have hk2 : k - (od.map Prod.fst).length = 0 ∧ p = q := by
          have h9 := List.getElem?_eq_some_iff.mp hk
          obtain ⟨h9, h10⟩ := h9
          have h11 : k - (od.map Prod.fst).length = 0 := by
            have : k - (od.map Prod.fst).length < 1 := h9
            omega
          refine ⟨h11, ?_⟩
          rw [h11] at hk
          have : some q = some p := hk
          exact (Option.some.inj this).symm
        rw [List.length_map] at hk2 hkl
        rw [f33, if_pos hk2.2]
        exact congrArg nI (by omega)
    · rcases List.mem_append.mp hz with hz | hz
      · exact gk z.1 z.2 (i11 z hz).1 (gm2 z hz)
      · rw [List.mem_singleton] at hz
        subst hz
        exact gk q S' hqk q4
    · rw [List.length_erase_of_mem hq1]
      omega
    · have a : tL + ((scanF (tryF E f) S' (mlf s1 (eK E n))).2 + _) = _ := i16
      have c : t' + (tryF E f q S').2 = tL + (scanF (tryF E f) S' (mlf s1 (eK E n))).2 := i20
      rw [← a]
      omega
    · rw [← i18, List.append_assoc]
      rfl
theorem row_go {Q : Option aV → aS → Prop} {f n t F : Nat} {S : Int64} {s0 : aS} (hR : RUN l D d E Q f) (hT0 : TM E s0) (hn : n < eN E) (hs : eS E n = 0) (hdp : eD E n + (f + 1) = 21) (hFd : F = eD E n) (hd : 7 ≤ d)
    (hN : ∀ s2, mQ E n S (f + 1) t F s0 s2 → LHd l D d Q 1 s2) (hX : ∀ s2, SM s0 s2 → 20000 < t + (tryF E (f + 1) n S).2 → LHd l D d Q 0 s2) :
    ∀ (m w : Nat) (j t' : Nat) (S' : Int64) (od : List (Nat × Int64)) (s1 s' : aS) (b : Int32), (eK E n).length - j ≤ w → RI E n f F t S s0 od S' t' j m s1 → rowQ E n F t' S' s1 ((eK E n).drop j) (some (vI b)) s' → LHd l D d Q b s' := by
  have eT : tryF E (f + 1) n S = ((rowF (tryF E f) (eK E n).length (eK E n) S).1.1, 1 + (rowF (tryF E f) (eK E n).length (eK E n) S).1.2) := by
    conv => lhs; unfold tryF
    rw [if_pos hs]
  have eF : finF E (f + 1) n S = (n, S, (rowF (tryF E f) (eK E n).length (eK E n) S).2.map Prod.fst) :: (rowF (tryF E f) (eK E n).length (eK E n) S).2.flatMap (fun q => finF E f q.1 q.2) := by
    conv => lhs; unfold finF
    rw [if_pos hs]
  have hd20 := (hT0.1.2.2 n hn).2.1
  have hnd := (hT0.1.2.2 n hn).2.2.1
  intro m
  induction m with
  | zero =>
    intro w j t' S' od s1 s' b hw hI hq
    obtain ⟨i1, i2, i3, i4, i5, i6, i7, i8, i9, i10, i11, i12, i13, i14, i15, tL, i16, i17, i18, i19, i20, i21⟩ := hI
    have e0 : mlf s1 (eK E n) = [] := List.eq_nil_of_length_eq_zero (by omega)
    have e1 : mlf s1 ((eK E n).drop j) = [] := List.eq_nil_iff_forall_not_mem.mpr (fun x hx => by
      have := mlf_mem.mp hx
      have h2 : x ∈ mlf s1 (eK E n) := mlf_mem.mpr ⟨List.mem_of_mem_drop this.1, this.2⟩
      rw [e0] at h2
      cases h2)
    exact row_end0 hT0 hn hs hN eT eF ⟨i1, i2, i3, i4, i5, i6, i7, i8, i9, i10, i11, i12, i13, i14, i15, tL, i16, i17, i18, i19, i20, i21⟩ e1 e0 hq
  | succ m ihm =>
    intro w
    induction w with
    | zero =>
      intro j t' S' od s1 s' b hw hI hq
      have e1 : mlf s1 ((eK E n).drop j) = [] := by rw [List.drop_of_length_le (by omega)]; rfl
      exact row_end hT0 hn hs hN eT eF hI e1 hq
    | succ w ihw =>
      intro j t' S' od s1 s' b hw hI hq
      cases hsf : mlf s1 ((eK E n).drop j) with
      | nil => exact row_end hT0 hn hs hN eT eF hI hsf hq
      | cons q post =>
        refine row_step hR hT0 hn hs hdp hFd hd hX eT hI hsf hq (fun i b3 s3 t3 s4 hi hj3 hI3 hq3 => ihw i t3 S' od s3 s4 b3 (by omega) hI3 hq3) (fun b3 s3 t3 S3 od3 s4 hI3 hq3 => ihm (eK E n).length 0 t3 S3 od3 s3 s4 b3 (by omega) hI3 hq3)
theorem run_row {Q : Option aV → aS → Prop} {f n t F : Nat} {S : Int64} {s0 : aS} (hR : RUN l D d E Q f) (hT0 : TM E s0) (hn : n < eN E) (hs : eS E n = 0) (hdp : eD E n + (f + 1) = 21) (hFd : F = eD E n) (h0 : MT E n F s0 st) (hF : st.1 5 0 38 = nI (F + 1)) (htr : st.1 5 0 39 = nI (t + 1)) (ht : t + 1 ≤ 20000) (hfr : st.1 37 0 F = nI n) (hst : st.1 38 0 F = 0) (hA : st.2.1 29 0 n = S) (h31 : st.1 31 0 n = 0) (h36 : st.1 36 0 n = -1) (hd : 7 ≤ d)
    (hN : ∀ s2, mQ E n S (f + 1) t F s0 s2 → LHd l D d Q 1 s2) (hX : ∀ s2, SM s0 s2 → 20000 < t + (tryF E (f + 1) n S).2 → LHd l D d Q 0 s2) : LHd l D d Q 1 st := by
  have hT := hT0.mv h0.1
  have hd20 := (hT.1.2.2 n hn).2.1
  refine LH_step hF (by omega) (c_M_goesOn_0 hT hn hs hF (by omega) hfr (c_M_row_0 hT hn (by omega) hF hst hA h36 htr ht (by omega)) (fun v s' h => rowQ_v h) (by omega)) (fun v s' h => rowQ_v h) (by omega) (fun b s' h => ?_)
  have hC := clrF_MT (F := F) hT.1 hn (eK E n) st (fun _ h => h)
  have c2 := clrF_2 (eK E n) st
  have c1 : ∀ {a b c : Nat}, ¬ a = 32 → (clrF (eK E n) st).1 a b c = st.1 a b c := fun h => clrF_1 (eK E n) st h
  have c32 : ∀ {p : Nat}, p ∈ eK E n → (clrF (eK E n) st).1 32 0 p = 0 := fun h => clrF_32 (eK E n) st (Or.inl h)
  refine row_go hR hT0 hn hs hdp hFd hd hN hX (eK E n).length (eK E n).length 0 (t + 1) S [] _ s' b (by omega) ?_ h
  have g3 : MT E n F st (sI (sL (sI (sI (clrF (eK E n) st) 38 0 F 1) 39 0 F (nx (eK E n).head?)) 41 0 F S) 40 0 F 0) := (((hC.tr (MT.fI (by omega) (Nat.le_refl F))).tr (MT.fI (by omega) (Nat.le_refl F))).tr (MT.fL (by omega) (Nat.le_refl F))).tr (MT.fI (by omega) (Nat.le_refl F))
  have l0 : mlf (sI (sL (sI (sI (clrF (eK E n) st) 38 0 F 1) 39 0 F (nx (eK E n).head?)) 41 0 F S) 40 0 F 0) (eK E n) = eK E n := by
    refine List.filter_eq_self.mpr (fun p hp => ?_)
    rw [decide_eq_true_eq]
    exact (by simpa [sI, sL, u3] using c32 hp)
  unfold RI
  rw [List.drop_zero, l0]
  have x1 : (clrF (eK E n) st).1 5 0 38 = nI (F + 1) := (c1 (by omega)).trans hF
  have x2 : (clrF (eK E n) st).1 37 0 F = nI n := (c1 (by omega)).trans hfr
  have x3 : (clrF (eK E n) st).1 36 0 n = -1 := (c1 (by omega)).trans h36
  have x4 : (clrF (eK E n) st).1 5 0 39 = nI (t + 1) := (c1 (by omega)).trans htr
  have x5 : (clrF (eK E n) st).2.1 29 0 n = S := (congrArg (fun z => z.1 29 0 n) c2).trans hA
  exact ⟨h0.tr g3, by simpa [sI, sL, u3] using x1, by simpa [sI, sL, u3] using x2, by simp [sI, sL, u3], by simpa [sI, sL, u3] using x5, by simpa [sI, sL, u3] using x3, by simp [sI, sL, u3], sI_eq, by simpa [sI, sL, u3] using x4, ht, fun z hz => (by cases hz), List.nodup_nil, fun k p hk => (by cases hk), fun z hz => (by cases hz), Nat.le_refl _, t + 1, rfl, rfl, rfl, rfl, rfl, Or.inl rfl⟩
theorem run_all {Q : Option aV → aS → Prop} (hd : 7 ≤ d) : ∀ f, RUN l D d E Q f
  | 0 => fun n t F S s0 st hT hn _ hdp => by
    have := (hT.1.2.2 n hn).2.1
    omega
  | f + 1 => fun n t F S s0 st hT hn hs hdp hF h0 a1 a2 a3 a4 a5 a6 a7 a8 hN hX => by
    have hR : RUN l D d E Q f := run_all hd f
    have h4 : eS E n = 0 ∨ eS E n = 1 ∨ eS E n = 2 ∨ eS E n = 3 := by omega
    rcases h4 with h4 | h4 | h4 | h4
    · exact run_row hR hT hn h4 hdp hF h0 a1 a2 a3 a4 a5 a6 a7 a8 hd hN hX
    · exact run_choice hR hT hn h4 hdp hF h0 a1 a2 a3 a4 a5 a6 a7 a8 hd hN hX
    · exact run_not hR hT hn h4 hdp hF h0 a1 a2 a3 a4 a5 a6 a7 a8 hd hN hX
    · exact run_test hR hT hn h4 hdp hF h0 a1 a2 a3 a4 a5 a6 a7 a8 hd hN hX
end CM13
