section CM11
variable {l : Launch} {D : mD} {d : Nat} {st : aS} {E : EE}
theorem jo2 {o B C : Int64} : (B &&& C) &&& o = (B ||| C) &&& o ↔ B &&& o = C &&& o := by
  constructor
  · intro h
    refine i64_ext (fun v hv => ?_)
    have c := congrArg (fun z => z.toBitVec.getLsbD v) h
    simp only [i64_and, i64_or] at c ⊢
    cases h1 : B.toBitVec.getLsbD v <;> cases h2 : C.toBitVec.getLsbD v <;> cases h3 : o.toBitVec.getLsbD v <;> simp_all
  · intro h
    refine i64_ext (fun v hv => ?_)
    have c := congrArg (fun z => z.toBitVec.getLsbD v) h
    simp only [i64_and, i64_or] at c ⊢
    cases h1 : B.toBitVec.getLsbD v <;> cases h2 : C.toBitVec.getLsbD v <;> cases h3 : o.toBitVec.getLsbD v <;> simp_all
theorem bc_sub {B C : Int64} : (B &&& C) &&& nt (B ||| C) = 0 := by
  rw [sub_iff]
  intro v _ h
  unfold gB at h
  rw [i64_and] at h
  refine gB_or.mpr (Or.inr ?_)
  unfold gB
  cases hB : C.toBitVec.getLsbD v
  · rw [hB, Bool.and_false] at h; cases h
  · rfl
theorem mQ_fail {f n t F q kk cost : Nat} {S B : Int64} {s0 s2 : aS} (hT : TR E) (hn : n < eN E) (hs : eS E n ≤ 3) (hqk : q ∈ eK E n) (g1 : MT E n F s0 s2) (eT : tryF E (f + 1) n S = (.inr kk, cost)) (m3 : t + cost ≤ 20000) (m4 : s2.1 5 0 39 = nI (t + cost)) (hb : blF E s2 f q kk) : mQ E n S (f + 1) t F s0 (ends (sI s2 36 0 n (nI q)) F n 0 B) := by
  have hq := hT.kid hn hqk
  unfold mQ
  rw [eT]
  refine ⟨g1.tr ((MT.pI (by omega) subP_self (by omega)).tr ends_MT), ends_38, m3, ends_39.trans ((sI_ne (by omega)).trans m4), ends_31, Or.inr ⟨hs, Or.inr ⟨q, hqk, (ends_I (by omega)).trans sI_eq, ends_blF hT hq.1 (hb.keep hT hq.1 (fun m hm => sI_ne (fun w => ?_)))⟩⟩⟩
  have := subP_gt hT.2.1 hm
  omega
theorem mQ_self {f n t F cost : Nat} {S B : Int64} {s0 s2 : aS} (hs : eS E n ≤ 3) (g1 : MT E n F s0 s2) (eT : tryF E (f + 1) n S = (.inr n, cost)) (m3 : t + cost ≤ 20000) (m4 : s2.1 5 0 39 = nI (t + cost)) (h36 : s2.1 36 0 n = -1) : mQ E n S (f + 1) t F s0 (ends s2 F n 0 B) := by
  unfold mQ
  rw [eT]
  exact ⟨g1.tr ends_MT, ends_38, m3, ends_39.trans m4, ends_31, Or.inr ⟨hs, Or.inl ⟨(ends_I (by omega)).trans h36, rfl⟩⟩⟩
theorem run_test {Q : Option aV → aS → Prop} {f n t F : Nat} {S : Int64} {s0 : aS} (hR : RUN l D d E Q f) (hT0 : TM E s0) (hn : n < eN E) (hs : eS E n = 3) (hdp : eD E n + (f + 1) = 21) (hFd : F = eD E n) (h0 : MT E n F s0 st) (hF : st.1 5 0 38 = nI (F + 1)) (htr : st.1 5 0 39 = nI (t + 1)) (ht : t + 1 ≤ 20000) (hfr : st.1 37 0 F = nI n) (hst : st.1 38 0 F = 0) (hA : st.2.1 29 0 n = S) (h31 : st.1 31 0 n = 0) (h36 : st.1 36 0 n = -1) (hd : 7 ≤ d)
    (hN : ∀ s2, mQ E n S (f + 1) t F s0 s2 → LHd l D d Q 1 s2) (hX : ∀ s2, SM s0 s2 → 20000 < t + (tryF E (f + 1) n S).2 → LHd l D d Q 0 s2) : LHd l D d Q 1 st := by
  have hT := hT0.mv h0.1
  have hd20 := (hT.1.2.2 n hn).2.1
  by_cases hl : (eK E n).length < 3
  · refine LH_step hF (by omega) (c_M_goesOn_3 hT hn hs hF (by omega) hfr (c_M_test_few hT hn (by omega) hF hl (by omega)) (fun v s' h => ⟨1, h.2, Or.inr rfl⟩) (by omega)) (fun v s' h => ⟨1, h.2, Or.inr rfl⟩) (by omega) (fun b s' h => ?_)
    obtain ⟨rfl, hb⟩ := h
    have eb : b = 1 := by simpa using hb
    subst eb
    refine hN _ (mQ_self (cost := 1) (by omega) h0 ?_ ht htr h36)
    conv => lhs; unfold tryF
    rw [if_neg (by omega), if_neg (by omega), if_neg (by omega), if_pos hs]
    split
    · next a b c r hk =>
      rw [hk] at hl
      exact absurd hl (by simp)
    · rfl
  · obtain ⟨a, b, c, r, hk⟩ : ∃ a b c r, eK E n = a :: b :: c :: r := by
      match h : eK E n with
      | [] => rw [h] at hl; exact absurd (by decide) hl
      | [x] => rw [h] at hl; exact absurd (by simp) hl
      | [x, y] => rw [h] at hl; exact absurd (by simp) hl
      | x :: y :: z :: r => exact ⟨x, y, z, r, rfl⟩
    have hak : a ∈ eK E n := by rw [hk]; simp
    have hbk : b ∈ eK E n := by rw [hk]; simp
    have hck : c ∈ eK E n := by rw [hk]; simp
    have ha := hT.1.kid hn hak
    have hb := hT.1.kid hn hbk
    have hc := hT.1.kid hn hck
    have hnd := (hT.1.2.2 n hn).2.2.1
    rw [hk] at hnd
    have hab : a ≠ b := by rintro rfl; simp at hnd
    have hac : a ≠ c := by rintro rfl; simp at hnd
    have hbc : b ≠ c := by rintro rfl; simp at hnd
    have eT : tryF E (f + 1) n S = ((testF (tryF E f) n S (eO E n) (eI E c) a b c).1, 1 + (testF (tryF E f) n S (eO E n) (eI E c) a b c).2) := by
      conv => lhs; unfold tryF
      rw [if_neg (by omega), if_neg (by omega), if_neg (by omega), if_pos hs, hk]
    have eF : ∀ A, (tryF E f a S).1 = .inl A → finF E (f + 1) n S = (n, S, []) :: (finF E f a S ++ finF E f b A ++ finF E f c S) := by
      intro A h
      conv => lhs; unfold finF
      rw [if_neg (by omega), if_neg (by omega), if_neg (by omega), if_pos hs, hk]
      show (n, S, []) :: (match (tryF E f a S).1 with | .inl A => finF E f a S ++ finF E f b A ++ finF E f c S | .inr _ => []) = _
      rw [h]
    have q0 : (tryF E f a S).2 ≤ (testF (tryF E f) n S (eO E n) (eI E c) a b c).2 := by
      unfold testF
      split
      · exact Nat.le_refl _
      · split
        · split
          · exact Nat.le_add_right _ _
          · split
            · show _ ≤ _ + _ + _; omega
            · show _ ≤ _ + _ + _; omega
        · exact Nat.le_refl _
    have qa : ∀ k, (tryF E f a S).1 = .inr k → testF (tryF E f) n S (eO E n) (eI E c) a b c = (.inr k, (tryF E f a S).2) := by
      intro k h
      unfold testF
      rw [h]
    have qa2 : ∀ A, (tryF E f a S).1 = .inl A → ¬ (A &&& nt S) &&& (eO E n ||| eI E c) = 0 → testF (tryF E f) n S (eO E n) (eI E c) a b c = (.inr n, (tryF E f a S).2) := by
      intro A h h2
      unfold testF
      rw [h]
      show (if _ then _ else _) = _
      rw [if_neg h2]
    have qb0 : ∀ A, (tryF E f a S).1 = .inl A → (A &&& nt S) &&& (eO E n ||| eI E c) = 0 → (tryF E f a S).2 + (tryF E f b A).2 ≤ (testF (tryF E f) n S (eO E n) (eI E c) a b c).2 := by
      intro A h h2
      unfold testF
      rw [h]
      show _ ≤ (ite _ _ _ : RR).2
      rw [if_pos h2]
      split
      · exact Nat.le_refl _
      · split
        · show _ ≤ _ + _ + _; omega
        · show _ ≤ _ + _ + _; omega
    have qb : ∀ A k, (tryF E f a S).1 = .inl A → (A &&& nt S) &&& (eO E n ||| eI E c) = 0 → (tryF E f b A).1 = .inr k → testF (tryF E f) n S (eO E n) (eI E c) a b c = (.inr k, (tryF E f a S).2 + (tryF E f b A).2) := by
      intro A k h h2 h3
      unfold testF
      rw [h]
      show (if _ then _ else _) = _
      rw [if_pos h2, h3]
    have qc : ∀ A B, (tryF E f a S).1 = .inl A → (A &&& nt S) &&& (eO E n ||| eI E c) = 0 → (tryF E f b A).1 = .inl B → testF (tryF E f) n S (eO E n) (eI E c) a b c = (match (tryF E f c S).1 with | .inr t => .inr t | .inl C => joinF n S (eO E n) (B &&& C) (B ||| C), (tryF E f a S).2 + (tryF E f b A).2 + (tryF E f c S).2) := by
      intro A B h h2 h3
      unfold testF
      rw [h]
      show (if _ then _ else _) = _
      rw [if_pos h2, h3]
      cases (tryF E f c S).1 <;> rfl
    have h1 : MT E n F st (sI st 38 0 F 1) := MT.fI (by omega) (Nat.le_refl F)
    refine LH_step hF (by omega) (c_M_goesOn_3 hT hn hs hF (by omega) hfr (c_M_test_0 hT hn (by omega) hF hk hA htr ht (by omega) hst) (fun v s' h => tQ_v h) (by omega)) (fun v s' h => tQ_v h) (by omega) (fun b1 s1 h => ?_)
    refine go_tried hR (hT.mv h1.1) ha.1 (by rw [ha.2.2.2]; omega) (by rw [ha.2.2.2, hFd]) h (fun s2 h2 => ?_) (fun s2 g2 hcx => hX s2 ((h0.1.tr h1.1).tr g2) (by rw [eT]; show 20000 < t + (1 + _); omega))
    obtain ⟨m1, m2, m3, m4, m5⟩ := h2
    have hat := m1.at hT.1 hn hak
    have hT2 := (hT.mv h1.1).mv m1.1
    have fr := m1.2.2.1 F (by omega)
    have g1 : MT E n F s0 s2 := (h0.tr h1).tr (m1.up hT.1 hn hak (by omega))
    have hA2 : s2.2.1 29 0 n = S := hat.2.1.trans hA
    have h36b : s2.1 36 0 n = -1 := (hat.1 36 (by omega) (by omega)).trans ((sI_ne (by omega)).trans h36)
    have hfr2 : s2.1 37 0 F = nI n := (fr.1 37 (by omega) (by omega)).trans ((sI_ne (by omega)).trans hfr)
    refine LH_step m2 (by omega) (c_M_goesOn_3 hT2 hn hs m2 (by omega) hfr2 (c_M_test_1 (g := s2.1 31 0 a) (A := s2.2.1 30 0 a) hT2 hn (by omega) m2 hk hA2 m4 m3 (by omega) ((fr.1 38 (by omega) (by omega)).trans sI_eq) rfl rfl) (fun v s' h => ?_) (by omega)) (fun v s' h => ?_) (by omega) (fun b3 s3 h3 => ?_)
    · rcases h with ⟨-, h, -⟩ | ⟨-, ⟨-, h⟩ | ⟨-, h, -⟩⟩
      · exact ⟨1, h, Or.inr rfl⟩
      · exact tQ_v h
      · exact ⟨1, h, Or.inr rfl⟩
    · rcases h with ⟨-, h, -⟩ | ⟨-, ⟨-, h⟩ | ⟨-, h, -⟩⟩
      · exact ⟨1, h, Or.inr rfl⟩
      · exact tQ_v h
      · exact ⟨1, h, Or.inr rfl⟩
    cases hra : (tryF E f a S).1 with
    | inr k =>
      rw [hra] at m5
      rcases h3 with ⟨-, hv, rfl⟩ | ⟨z, -⟩
      · have eb : b3 = 1 := by simpa using hv
        subst eb
        exact hN _ (mQ_fail hT.1 hn (by omega) hak g1 (cost := 1 + (tryF E f a S).2) (by rw [eT, qa k hra]) (by omega) (m4.trans (by rw [Nat.add_assoc])) m5.2)
      · exact absurd m5.1 z
    | inl A =>
      rw [hra] at m5
      obtain ⟨q1, q2, q3, q4⟩ := m5
      rw [q2] at h3
      rcases h3 with ⟨z, -⟩ | ⟨-, ⟨hz, h3⟩ | ⟨hz, hv, rfl⟩⟩
      · rw [q1] at z; exact absurd z (by decide)
      rotate_left
      · have eb : b3 = 1 := by simpa using hv
        subst eb
        exact hN _ (mQ_self (by omega) g1 (cost := 1 + (tryF E f a S).2) (by rw [eT, qa2 A hra hz]) (by omega) (m4.trans (by rw [Nat.add_assoc])) h36b)
      have h4 : MT E n F s2 (sI s2 38 0 F 2) := MT.fI (by omega) (Nat.le_refl F)
      have cb := qb0 A hra hz
      refine go_tried hR (hT2.mv h4.1) hb.1 (by rw [hb.2.2.2]; omega) (by rw [hb.2.2.2, hFd]) h3 (fun s5 h5 => ?_) (fun s5 g5 hcx => hX s5 ((g1.1.tr h4.1).tr g5) (by rw [eT]; show 20000 < t + (1 + _); omega))
      obtain ⟨n1, n2, n3, n4, n5⟩ := h5
      have hbt := n1.at hT.1 hn hbk
      have hT5 := (hT2.mv h4.1).mv n1.1
      have fr5 := n1.2.2.1 F (by omega)
      have g5 : MT E n F s0 s5 := (g1.tr h4).tr (n1.up hT.1 hn hbk (by omega))
      have hA5 : s5.2.1 29 0 n = S := hbt.2.1.trans hA2
      have h36c : s5.1 36 0 n = -1 := (hbt.1 36 (by omega) (by omega)).trans ((sI_ne (by omega)).trans h36b)
      have hfr5 : s5.1 37 0 F = nI n := (fr5.1 37 (by omega) (by omega)).trans ((sI_ne (by omega)).trans hfr2)
      have gma : gm E s5 (finF E f a S) := gm.sib hT.1 hn hbk hak hab.symm n1 (q4.keep (fun x hx => ⟨rfl, sI_ne (by omega), sI_ne (by omega)⟩) (fun x hx y hy => sI_ne (by omega)))
      refine LH_step n2 (by omega) (c_M_goesOn_3 hT5 hn hs n2 (by omega) hfr5 (c_M_test_2 (g := s5.1 31 0 b) hT5 hn (by omega) n2 hk hA5 n4 n3 (by omega) ((fr5.1 38 (by omega) (by omega)).trans sI_eq) rfl) (fun v s' h => ?_) (by omega)) (fun v s' h => ?_) (by omega) (fun b6 s6 h6 => ?_)
      · rcases h with ⟨-, h, -⟩ | ⟨-, h⟩
        · exact ⟨1, h, Or.inr rfl⟩
        · exact tQ_v h
      · rcases h with ⟨-, h, -⟩ | ⟨-, h⟩
        · exact ⟨1, h, Or.inr rfl⟩
        · exact tQ_v h
      cases hrb : (tryF E f b A).1 with
      | inr k =>
        rw [hrb] at n5
        rcases h6 with ⟨-, hv, rfl⟩ | ⟨z, -⟩
        · have eb : b6 = 1 := by simpa using hv
          subst eb
          exact hN _ (mQ_fail hT.1 hn (by omega) hbk g5 (cost := 1 + ((tryF E f a S).2 + (tryF E f b A).2)) (by rw [eT, qb A k hra hz hrb]) (by omega) (n4.trans (congrArg nI (by omega))) n5.2)
        · exact absurd n5.1 z
      | inl B =>
        rw [hrb] at n5
        obtain ⟨r1, r2, r3, r4⟩ := n5
        rcases h6 with ⟨z, -⟩ | ⟨-, h6⟩
        · rw [r1] at z; exact absurd z (by decide)
        have h7 : MT E n F s5 (sI s5 38 0 F 3) := MT.fI (by omega) (Nat.le_refl F)
        have eC := qc A B hra hz hrb
        refine go_tried hR (hT5.mv h7.1) hc.1 (by rw [hc.2.2.2]; omega) (by rw [hc.2.2.2, hFd]) h6 (fun s8 h8 => ?_) (fun s8 g8 hcx => hX s8 ((g5.1.tr h7.1).tr g8) (by rw [eT, eC]; show 20000 < t + (1 + (_ + _ + _)); omega))
        obtain ⟨p1, p2, p3, p4, p5⟩ := h8
        have hct := p1.at hT.1 hn hck
        have hT8 := (hT5.mv h7.1).mv p1.1
        have fr8 := p1.2.2.1 F (by omega)
        have g8 : MT E n F s0 s8 := (g5.tr h7).tr (p1.up hT.1 hn hck (by omega))
        have hA8 : s8.2.1 29 0 n = S := hct.2.1.trans hA5
        have h36d : s8.1 36 0 n = -1 := (hct.1 36 (by omega) (by omega)).trans ((sI_ne (by omega)).trans h36c)
        have hfr8 : s8.1 37 0 F = nI n := (fr8.1 37 (by omega) (by omega)).trans ((sI_ne (by omega)).trans hfr5)
        have gma8 : gm E s8 (finF E f a S) := gm.sib hT.1 hn hck hak hac.symm p1 (gma.keep (fun x hx => ⟨rfl, sI_ne (by omega), sI_ne (by omega)⟩) (fun x hx y hy => sI_ne (by omega)))
        have gmb8 : gm E s8 (finF E f b A) := gm.sib hT.1 hn hck hbk hbc.symm p1 (r4.keep (fun x hx => ⟨rfl, sI_ne (by omega), sI_ne (by omega)⟩) (fun x hx y hy => sI_ne (by omega)))
        have hB8 : s8.2.1 30 0 b = B := (p1.sib hT.1 hn hck hbk hbc.symm subP_self).2.2.trans r2
        refine LH_step p2 (by omega) (c_M_goesOn_3 hT8 hn hs p2 (by omega) hfr8 (c_M_test_3 (g := s8.1 31 0 c) (C := s8.2.1 30 0 c) hT8 hn (by omega) p2 hk hA8 p4 p3 (by omega) ((fr8.1 38 (by omega) (by omega)).trans sI_eq) rfl hB8 rfl) (fun v s' h => ?_) (by omega)) (fun v s' h => ?_) (by omega) (fun b9 s9 h9 => ?_)
        · rcases h with ⟨-, h, -⟩ | ⟨-, h, -⟩ <;> exact ⟨1, h, Or.inr rfl⟩
        · rcases h with ⟨-, h, -⟩ | ⟨-, h, -⟩ <;> exact ⟨1, h, Or.inr rfl⟩
        have ct : t + 1 + (tryF E f a S).2 + (tryF E f b A).2 + (tryF E f c S).2 = t + (1 + ((tryF E f a S).2 + (tryF E f b A).2 + (tryF E f c S).2)) := by omega
        cases hrc : (tryF E f c S).1 with
        | inr k =>
          rw [hrc] at p5
          rcases h9 with ⟨-, hv, rfl⟩ | ⟨z, -⟩
          · have eb : b9 = 1 := by simpa using hv
            subst eb
            exact hN _ (mQ_fail hT.1 hn (by omega) hck g8 (cost := 1 + ((tryF E f a S).2 + (tryF E f b A).2 + (tryF E f c S).2)) (by rw [eT, eC, hrc]) (by omega) (p4.trans (congrArg nI ct)) p5.2)
          · exact absurd p5.1 z
        | inl C =>
          rw [hrc] at p5
          obtain ⟨u1, u2, u3', u4⟩ := p5
          rcases h9 with ⟨z, -⟩ | ⟨-, hv, h9⟩
          · rw [u1] at z; exact absurd z (by decide)
          rw [u2] at h9
          subst h9
          have eb : b9 = 1 := by simpa using hv
          subst eb
          refine hN _ ?_
          unfold mQ
          rw [eT, eF A hra, eC, hrc]
          have hA9 : (ends (sI s8 38 0 F 4) F n (jb (B &&& (eO E n &&& nt S) = C &&& (eO E n &&& nt S))) (S ||| (B &&& C &&& (eO E n &&& nt S)))).2.1 29 0 n = S := ends_29.trans hA8
          refine ⟨g8.tr ((MT.fI (by omega) (Nat.le_refl F)).tr ends_MT), ends_38, by show t + (1 + (_ + _ + _)) ≤ _; omega, ends_39.trans ((sI_ne (by omega)).trans (p4.trans (congrArg nI ct))), ?_⟩
          show match joinF n S (eO E n) (B &&& C) (B ||| C) with | .inl B => _ | .inr k => _
          by_cases hj : (eO E n &&& nt S) &&& (B ||| C) &&& nt (B &&& C) = 0
          · have hz2 := (join_iff bc_sub).mp hj
            rw [show joinF n S (eO E n) (B &&& C) (B ||| C) = .inl (S ||| ((eO E n &&& nt S) &&& (B ||| C))) from if_pos hj]
            refine ⟨ends_31.trans (jb_t (jo2.mp hz2)), ends_30.trans (join_B hz2).symm, hA9, gm.cons hA9 (fun w => by have w2 : 3 < eS E n := w; omega) (fun w => by have w2 : eS E n = 0 := w; omega) (((gma8.app gmb8).app u4).keep (fun x hx => ⟨ends_29, (ends_I (by omega)).trans (sI_ne (by omega)), (ends_I (by omega)).trans (sI_ne (by omega))⟩) (fun x hx y hy => (ends_I (by omega)).trans (sI_ne (by omega))))⟩
          · rw [show joinF n S (eO E n) (B &&& C) (B ||| C) = .inr n from if_neg hj]
            exact ⟨ends_31.trans (jb_f (fun w => hj ((join_iff bc_sub).mpr (jo2.mpr w)))), Or.inr ⟨by omega, Or.inl ⟨(ends_I (by omega)).trans ((sI_ne (by omega)).trans h36d), rfl⟩⟩⟩
end CM11
