section CM9
variable {l : Launch} {D : mD} {d : Nat} {st : aS} {E : EE}
theorem run_chs {Q : Option aV → aS → Prop} {f n t F : Nat} {S : Int64} {s0 : aS} (hR : RUN l D d E Q f) (hT0 : TM E s0) (hn : n < eN E) (hs : eS E n = 1) (hdp : eD E n + (f + 1) = 21) (hFd : F = eD E n) (hd : 7 ≤ d)
    (hN : ∀ s2, mQ E n S (f + 1) t F s0 s2 → LHd l D d Q 1 s2) (hX : ∀ s2, SM s0 s2 → 20000 < t + (tryF E (f + 1) n S).2 → LHd l D d Q 0 s2)
    (eT : tryF E (f + 1) n S = ((match (chF (tryF E f) S (eK E n) (-1) 0).1 with | .inr t => .inr t | .inl z => joinF n S (eO E n) z.1 z.2), 1 + (chF (tryF E f) S (eK E n) (-1) 0).2)) (eF : finF E (f + 1) n S = (n, S, []) :: (eK E n).flatMap (fun p => finF E f p S))
    {ps : List Nat} {q k t' : Nat} {e s : Int64} {s1 s2 : aS} (hk : q :: ps = (eK E n).drop k) (h0 : MT E n F s0 s1) (hfr : s1.1 37 0 F = nI n) (hst : s1.1 38 0 F = 1) (hat : s1.1 39 0 F = nI q) (he : s1.2.1 42 0 F = e) (hsm : s1.2.1 43 0 F = s) (hA : s1.2.1 29 0 n = S) (h36 : s1.1 36 0 n = -1) (hg : gm E s1 (((eK E n).take k).flatMap fun p => finF E f p S)) (hc : t' + (chF (tryF E f) S (q :: ps) e s).2 = t + (1 + (chF (tryF E f) S (eK E n) (-1) 0).2)) (hr : (chF (tryF E f) S (q :: ps) e s).1 = (chF (tryF E f) S (eK E n) (-1) 0).1) (hm : mQ E q S f t' (F + 1) s1 s2)
    (ih : ∀ q' ps', ps = q' :: ps' → ∀ (t' : Nat) (e s : Int64) (s1 s2 : aS), q' :: ps' = (eK E n).drop (k + 1) → MT E n F s0 s1 → s1.1 37 0 F = nI n → s1.1 38 0 F = 1 → s1.1 39 0 F = nI q' → s1.2.1 42 0 F = e → s1.2.1 43 0 F = s → s1.2.1 29 0 n = S → s1.1 36 0 n = -1 → gm E s1 (((eK E n).take (k + 1)).flatMap fun p => finF E f p S) → t' + (chF (tryF E f) S (q' :: ps') e s).2 = t + (1 + (chF (tryF E f) S (eK E n) (-1) 0).2) → (chF (tryF E f) S (q' :: ps') e s).1 = (chF (tryF E f) S (eK E n) (-1) 0).1 → mQ E q' S f t' (F + 1) s1 s2 → LHd l D d Q 1 s2) : LHd l D d Q 1 s2 := by
  have hd20 := (hT0.1.2.2 n hn).2.1
  have hT1 := hT0.mv h0.1
  have hkp : (eK E n)[k]? = some q := by
    have := congrArg List.head? hk
    rw [List.head?_drop] at this
    exact this.symm
  have hps : ps = (eK E n).drop (k + 1) := by
    have := congrArg List.tail hk
    rw [List.tail_drop] at this
    exact this
  have hqk : q ∈ eK E n := List.mem_of_getElem? hkp
  have hq := hT0.1.kid hn hqk
  have hpsK : ∀ x ∈ ps, x ∈ eK E n := fun x hx => List.mem_of_mem_drop (by rw [← hps]; exact hx)
  have hne0 : ¬ (eK E n).length = 0 := fun z => by rw [List.eq_nil_of_length_eq_zero z] at hqk; cases hqk
  obtain ⟨m1, m2, m3, m4, m5⟩ := hm
  have hat2 := m1.at hT0.1 hn hqk
  have hT2 := hT1.mv m1.1
  have fr := m1.2.2.1 F (by omega)
  have g1 : MT E n F s0 s2 := h0.tr (m1.up hT0.1 hn hqk (by omega))
  have hA2 : s2.2.1 29 0 n = S := hat2.2.1.trans hA
  have h36b : s2.1 36 0 n = -1 := (hat2.1 36 (by omega) (by omega)).trans h36
  have hnx : s2.1 21 0 q = nx ps.head? := by rw [(hT2.2.2.2.2 n hn).2.2.2.1 k q hkp, hps, List.head?_drop]
  have hfr2 : s2.1 37 0 F = nI n := (fr.1 37 (by omega) (by omega)).trans hfr
  have hst2 : s2.1 38 0 F = 1 := (fr.1 38 (by omega) (by omega)).trans hst
  have he2 : s2.2.1 42 0 F = e := (fr.2 42 (by omega) (by omega)).trans he
  have hs2 : s2.2.1 43 0 F = s := (fr.2 43 (by omega) (by omega)).trans hsm
  refine LH_step m2 (by omega) (c_M_goesOn_1 hT2 hn hs m2 (by omega) hfr2 (c_M_choice_1 (b := s2.1 31 0 q) (B := s2.2.1 30 0 q) (ps := ps) hT2 hn (by omega) m2 hA2 m4 m3 (by omega) hst2 hqk hpsK ((fr.1 39 (by omega) (by omega)).trans hat) hnx he2 hs2 rfl rfl) (fun v s' h => by
    rcases h with ⟨-, h, -⟩ | ⟨-, h⟩
    · exact ⟨1, h, Or.inr rfl⟩
    · exact chQ_v h) (by omega)) (fun v s' h => by
    rcases h with ⟨-, h, -⟩ | ⟨-, h⟩
    · exact ⟨1, h, Or.inr rfl⟩
    · exact chQ_v h) (by omega) (fun b' s3 h3 => ?_)
  rcases h3 with ⟨z, hb, rfl⟩ | ⟨z, h3⟩
  · have eb : b' = 1 := by simpa using hb
    subst eb
    cases hq5 : (tryF E f q S).1 with
    | inl B =>
      rw [hq5] at m5
      rw [m5.1] at z
      exact absurd z (by decide)
    | inr kk =>
      rw [hq5] at m5
      have ec : chF (tryF E f) S (q :: ps) e s = (.inr kk, (tryF E f q S).2) := by
        conv => lhs; unfold chF
        rw [hq5]
      rw [ec] at hc hr
      refine hN _ ?_
      unfold mQ
      rw [eT, ← hr]
      refine ⟨g1.tr ((MT.pI (by omega) subP_self (by omega)).tr ends_MT), ends_38, by show t + (1 + _) ≤ _; rw [← hc]; exact m3, ends_39.trans ((sI_ne (by omega)).trans (m4.trans (by rw [← hc]))), ends_31, Or.inr ⟨by omega, Or.inr ⟨q, hqk, (ends_I (by omega)).trans sI_eq, ends_blF hT0.1 hq.1 (m5.2.keep hT0.1 hq.1 (fun m hm => sI_ne (fun w => ?_)))⟩⟩⟩
      have := subP_gt hT0.1.2.1 hm
      omega
  · cases hq5 : (tryF E f q S).1 with
    | inr kk =>
      rw [hq5] at m5
      exact absurd m5.1 z
    | inl B =>
      rw [hq5] at m5
      obtain ⟨q1, q2, q3, q4⟩ := m5
      rw [q2] at h3
      have ec : chF (tryF E f) S (q :: ps) e s = ((chF (tryF E f) S ps (e &&& B) (s ||| B)).1, (tryF E f q S).2 + (chF (tryF E f) S ps (e &&& B) (s ||| B)).2) := by
        conv => lhs; unfold chF
        rw [hq5]
      rw [ec] at hc hr
      have hg2 : gm E s2 (((eK E n).take (k + 1)).flatMap fun p => finF E f p S) := by
        rw [List.take_add_one, hkp, List.flatMap_append]
        refine gm.app (fun y hy => ?_) (by simpa using q4)
        obtain ⟨x, hx, hy⟩ := List.mem_flatMap.mp hy
        have hxk := List.mem_of_mem_take hx
        have hne : q ≠ x := fun w => by
          have h1 := (hT0.1.2.2 n hn).2.2.1
          rw [← List.take_append_drop k (eK E n)] at h1
          exact (List.nodup_append.mp h1).2.2 x hx q (by rw [← hk]; exact List.mem_cons_self) w.symm
        exact gm.sib hT0.1 hn hqk hxk hne m1 (fun y hy => hg y (List.mem_flatMap.mpr ⟨x, hx, hy⟩)) y hy
      cases ps with
      | nil =>
        obtain ⟨hb, rfl⟩ := h3
        have eb : b' = 1 := by simpa using hb
        subst eb
        have hall : (eK E n).take (k + 1) = eK E n := by
          have h1 := List.take_append_drop (k + 1) (eK E n)
          rw [← hps, List.append_nil] at h1
          exact h1
        rw [hall] at hg2
        have e0 : chF (tryF E f) S [] (e &&& B) (s ||| B) = (.inl (e &&& B, s ||| B), 0) := rfl
        rw [e0] at hc hr
        refine hN _ ?_
        unfold mQ
        rw [eT, eF, ← hr, if_neg hne0]
        have hsub := acc_sub (e := e) (s := s) (B := B)
        have gmE : gm E (ends (sI (sL (sL s2 42 0 F (e &&& B)) 43 0 F (s ||| B)) 39 0 F (nx ([] : List Nat).head?)) F n (jb ((eK E n).length = 0 ∨ e &&& B &&& (eO E n &&& nt S) = (s ||| B) &&& (eO E n &&& nt S))) (S ||| e &&& B &&& (eO E n &&& nt S))) ((eK E n).flatMap fun p => finF E f p S) := hg2.keep (fun x hx => ⟨ends_29.trans (by simp [sI, sL, u3]), (ends_I (by omega)).trans (by simp [sI, sL, u3]), (ends_I (by omega)).trans (by simp [sI, sL, u3])⟩) (fun x hx y hy => (ends_I (by omega)).trans (by simp [sI, sL, u3]))
        have hA9 : (ends (sI (sL (sL s2 42 0 F (e &&& B)) 43 0 F (s ||| B)) 39 0 F (nx ([] : List Nat).head?)) F n (jb ((eK E n).length = 0 ∨ e &&& B &&& (eO E n &&& nt S) = (s ||| B) &&& (eO E n &&& nt S))) (S ||| e &&& B &&& (eO E n &&& nt S))).2.1 29 0 n = S := ends_29.trans (by simpa [sI, sL, u3] using hA2)
        refine ⟨g1.tr ((((MT.fL (by omega) (Nat.le_refl F)).tr (MT.fL (by omega) (Nat.le_refl F))).tr (MT.fI (by omega) (Nat.le_refl F))).tr ends_MT), ends_38, by show t + (1 + _) ≤ _; rw [← hc]; exact m3, ends_39.trans (by rw [← hc]; simpa [sI, sL, u3] using m4), ?_⟩
        show match joinF n S (eO E n) (e &&& B) (s ||| B) with | .inl B => _ | .inr k => _
        by_cases hz : (eO E n &&& nt S) &&& (s ||| B) &&& nt (e &&& B) = 0
        · have hz2 := (join_iff hsub).mp hz
          rw [show joinF n S (eO E n) (e &&& B) (s ||| B) = .inl (S ||| ((eO E n &&& nt S) &&& (s ||| B))) from if_pos hz]
          exact ⟨ends_31.trans (jb_t (Or.inr hz2)), ends_30.trans (join_B hz2).symm, hA9, gm.cons hA9 (fun w => by have w2 : 3 < eS E n := w; omega) (fun w => by have w2 : eS E n = 0 := w; omega) gmE⟩
        · rw [show joinF n S (eO E n) (e &&& B) (s ||| B) = .inr n from if_neg hz]
          exact ⟨ends_31.trans (jb_f (fun w => w.elim hne0 (fun w => hz ((join_iff hsub).mpr w)))), Or.inr ⟨by omega, Or.inl ⟨(ends_I (by omega)).trans (by simpa [sI, sL, u3] using h36b), rfl⟩⟩⟩
      | cons q' ps' =>
        have hq'k := hpsK q' List.mem_cons_self
        have hq' := hT0.1.kid hn hq'k
        have g3 : MT E n F s2 (sI (sL (sL s2 42 0 F (e &&& B)) 43 0 F (s ||| B)) 39 0 F (nx (q' :: ps').head?)) := ((MT.fL (by omega) (Nat.le_refl F)).tr (MT.fL (by omega) (Nat.le_refl F))).tr (MT.fI (by omega) (Nat.le_refl F))
        refine go_tried hR (hT2.mv g3.1) hq'.1 (by rw [hq'.2.2.2]; omega) (by rw [hq'.2.2.2, hFd]) h3 (fun s4 h4 => ?_) (fun s4 g4 hcx => hX s4 ((g1.1.tr g3.1).tr g4) ?_)
        · refine ih q' ps' rfl (t' + (tryF E f q S).2) (e &&& B) (s ||| B) _ s4 hps (g1.tr g3) ((sI_ne (by omega)).trans hfr2) ((sI_ne (by omega)).trans hst2) sI_eq (by simp [sI, sL, u3]) (by simp [sI, sL, u3]) (by simpa [sI, sL, u3] using hA2) (by simpa [sI, sL, u3] using h36b) (hg2.keep (fun x hx => ⟨by simp [sI, sL, u3], by simp [sI, sL, u3], by simp [sI, sL, u3]⟩) (fun x hx y hy => by simp [sI, sL, u3])) (by rw [← hc]; show _ = t' + (_ + _); omega) hr h4
        · rw [eT]
          show 20000 < t + (1 + _)
          rw [← hc]
          show 20000 < t' + (_ + _)
          have : (tryF E f q' S).2 ≤ (chF (tryF E f) S (q' :: ps') (e &&& B) (s ||| B)).2 := by
            conv => rhs; unfold chF
            split
            · exact Nat.le_refl _
            · exact Nat.le_add_right _ _
          omega
theorem run_chl {Q : Option aV → aS → Prop} {f n t F : Nat} {S : Int64} {s0 : aS} (hR : RUN l D d E Q f) (hT0 : TM E s0) (hn : n < eN E) (hs : eS E n = 1) (hdp : eD E n + (f + 1) = 21) (hFd : F = eD E n) (hd : 7 ≤ d)
    (hN : ∀ s2, mQ E n S (f + 1) t F s0 s2 → LHd l D d Q 1 s2) (hX : ∀ s2, SM s0 s2 → 20000 < t + (tryF E (f + 1) n S).2 → LHd l D d Q 0 s2) : ∀ (ps : List Nat) (q k t' : Nat) (e s : Int64) (s1 s2 : aS), q :: ps = (eK E n).drop k → MT E n F s0 s1 → s1.1 37 0 F = nI n → s1.1 38 0 F = 1 → s1.1 39 0 F = nI q → s1.2.1 42 0 F = e → s1.2.1 43 0 F = s → s1.2.1 29 0 n = S → s1.1 36 0 n = -1 → gm E s1 (((eK E n).take k).flatMap fun p => finF E f p S) → t' + (chF (tryF E f) S (q :: ps) e s).2 = t + (1 + (chF (tryF E f) S (eK E n) (-1) 0).2) → (chF (tryF E f) S (q :: ps) e s).1 = (chF (tryF E f) S (eK E n) (-1) 0).1 → mQ E q S f t' (F + 1) s1 s2 → LHd l D d Q 1 s2 := by
  have eT : tryF E (f + 1) n S = ((match (chF (tryF E f) S (eK E n) (-1) 0).1 with | .inr t => .inr t | .inl z => joinF n S (eO E n) z.1 z.2), 1 + (chF (tryF E f) S (eK E n) (-1) 0).2) := by
    conv => lhs; unfold tryF
    rw [if_neg (by omega), if_pos hs]
    rfl
  have eF : finF E (f + 1) n S = (n, S, []) :: (eK E n).flatMap (fun p => finF E f p S) := by
    conv => lhs; unfold finF
    rw [if_neg (by omega), if_pos hs]
  have hd20 := (hT0.1.2.2 n hn).2.1
  intro ps
  induction ps with
  | nil =>
    intro q k t' e s s1 s2 hk h0 hfr hst hat he hsm hA h36 hg hc hr hm
    exact run_chs hR hT0 hn hs hdp hFd hd hN hX eT eF hk h0 hfr hst hat he hsm hA h36 hg hc hr hm (fun q' ps' h => by cases h)
  | cons q' ps ih =>
    intro q k t' e s s1 s2 hk h0 hfr hst hat he hsm hA h36 hg hc hr hm
    refine run_chs hR hT0 hn hs hdp hFd hd hN hX eT eF hk h0 hfr hst hat he hsm hA h36 hg hc hr hm (fun q2 ps2 h => ?_)
    cases h
    exact ih q' (k + 1)
theorem run_choice {Q : Option aV → aS → Prop} {f n t F : Nat} {S : Int64} {s0 : aS} (hR : RUN l D d E Q f) (hT0 : TM E s0) (hn : n < eN E) (hs : eS E n = 1) (hdp : eD E n + (f + 1) = 21) (hFd : F = eD E n) (h0 : MT E n F s0 st) (hF : st.1 5 0 38 = nI (F + 1)) (htr : st.1 5 0 39 = nI (t + 1)) (ht : t + 1 ≤ 20000) (hfr : st.1 37 0 F = nI n) (hst : st.1 38 0 F = 0) (hA : st.2.1 29 0 n = S) (h31 : st.1 31 0 n = 0) (h36 : st.1 36 0 n = -1) (hd : 7 ≤ d)
    (hN : ∀ s2, mQ E n S (f + 1) t F s0 s2 → LHd l D d Q 1 s2) (hX : ∀ s2, SM s0 s2 → 20000 < t + (tryF E (f + 1) n S).2 → LHd l D d Q 0 s2) : LHd l D d Q 1 st := by
  have hT := hT0.mv h0.1
  have hd20 := (hT.1.2.2 n hn).2.1
  have eT : tryF E (f + 1) n S = ((match (chF (tryF E f) S (eK E n) (-1) 0).1 with | .inr t => .inr t | .inl z => joinF n S (eO E n) z.1 z.2), 1 + (chF (tryF E f) S (eK E n) (-1) 0).2) := by
    conv => lhs; unfold tryF
    rw [if_neg (by omega), if_pos hs]
    rfl
  have eF : finF E (f + 1) n S = (n, S, []) :: (eK E n).flatMap (fun p => finF E f p S) := by
    conv => lhs; unfold finF
    rw [if_neg (by omega), if_pos hs]
  have g3 : MT E n F st (sL (sL (sI (sI st 38 0 F 1) 39 0 F (nx (eK E n).head?)) 42 0 F (-1)) 43 0 F 0) := (((MT.fI (by omega) (Nat.le_refl F)).tr (MT.fI (by omega) (Nat.le_refl F))).tr (MT.fL (by omega) (Nat.le_refl F))).tr (MT.fL (by omega) (Nat.le_refl F))
  refine LH_step hF (by omega) (c_M_goesOn_1 hT hn hs hF (by omega) hfr (c_M_choice_0 hT hn (by omega) hF hA htr ht (by omega) hst) (fun v s' h => chQ_v h) (by omega)) (fun v s' h => chQ_v h) (by omega) (fun b s' h => ?_)
  cases hk : eK E n with
  | nil =>
    rw [hk] at h
    obtain ⟨hb, rfl⟩ := h
    have eb : b = 1 := by simpa using hb
    subst eb
    refine hN _ ?_
    unfold mQ
    rw [eT, eF, hk]
    have hA9 : ∀ g B, (ends (sL (sL (sI (sI st 38 0 F 1) 39 0 F (nx ([] : List Nat).head?)) 42 0 F (-1)) 43 0 F 0) F n g B).2.1 29 0 n = S := fun g B => ends_29.trans (by simpa [sI, sL, u3] using hA)
    rw [hk] at g3
    refine ⟨(h0.tr g3).tr ends_MT, ends_38, by show t + (1 + 0) ≤ _; omega, ends_39.trans (by simpa [sI, sL, u3, chF] using htr), ?_⟩
    show match joinF n S (eO E n) (-1) 0 with | .inl B => _ | .inr k => _
    have hz : (eO E n &&& nt S) &&& 0 &&& nt (-1) = 0 := by
      rw [sub_iff]
      intro v _ q
      unfold gB at q
      rw [i64_and, i64_0, Bool.and_false] at q
      cases q
    have hz0 : (eO E n &&& nt S) &&& 0 = 0 := i64_ext (fun v _ => by rw [i64_and, i64_0, Bool.and_false])
    rw [show joinF n S (eO E n) (-1) 0 = .inl (S ||| ((eO E n &&& nt S) &&& 0)) from if_pos hz, hz0]
    refine ⟨ends_31.trans (jb_t (Or.inl rfl)), ends_30.trans (by rw [if_pos (show ([] : List Nat).length = 0 from rfl)]), hA9 _ _, gm.cons (hA9 _ _) (fun w => by have w2 : 3 < eS E n := w; omega) (fun w => by have w2 : eS E n = 0 := w; omega) (fun _ h => by cases h)⟩
  | cons q ps =>
    rw [hk] at h
    have hqk : q ∈ eK E n := by rw [hk]; exact List.mem_cons_self
    have hq := hT.1.kid hn hqk
    rw [hk] at g3
    refine go_tried hR (hT.mv g3.1) hq.1 (by rw [hq.2.2.2]; omega) (by rw [hq.2.2.2, hFd]) h (fun s4 h4 => ?_) (fun s4 g4 hcx => hX s4 ((h0.1.tr g3.1).tr g4) ?_)
    · exact run_chl hR hT0 hn hs hdp hFd hd hN hX ps q 0 (t + 1) (-1) 0 _ s4 hk.symm (h0.tr g3) (by simpa [sI, sL, u3] using hfr) (by simp [sI, sL, u3]) (by simp [sI, sL, u3, nx]) (by simp [sI, sL, u3]) (by simp [sI, sL, u3]) (by simpa [sI, sL, u3] using hA) (by simpa [sI, sL, u3] using h36) (fun _ h => by cases h) (by rw [hk]; omega) (by rw [hk]) h4
    · rw [eT, hk]
      show 20000 < t + (1 + _)
      have : (tryF E f q S).2 ≤ (chF (tryF E f) S (q :: ps) (-1) 0).2 := by
        conv => rhs; unfold chF
        split
        · exact Nat.le_refl _
        · exact Nat.le_add_right _ _
      omega
end CM9
