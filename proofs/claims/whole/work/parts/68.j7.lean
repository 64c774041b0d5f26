section J7
variable {l : Launch} {D : mD} {d : Nat} {st s' : aS}
theorem rowF_all {f : Nat → Int64 → RR} {B : Int64} : ∀ (n : Nat) (rem : List Nat) (S : Int64), rem.length ≤ n → (rowF f n rem S).1.1 = .inl B → ((rowF f n rem S).2.map Prod.fst).Perm rem
  | 0, [], S, _, _ => List.Perm.refl _
  | 0, q :: qs, S, h, _ => absurd h (by simp)
  | n + 1, [], S, _, _ => List.Perm.refl _
  | n + 1, q :: qs, S, h, hB => by
    unfold rowF at hB ⊢
    cases hz : (scanF f S (q :: qs)).1 with
    | none => rw [hz] at hB; cases hB
    | some z =>
      rw [hz] at hB
      have hm := (scanF_mem hz).1
      have hl : ((q :: qs).erase z.1).length ≤ n := by
        rw [List.length_erase_of_mem hm]
        simp at h ⊢
        exact h
      exact ((rowF_all n _ z.2 hl hB).cons z.1).trans (List.perm_cons_erase hm).symm
theorem chF_all {f : Nat → Int64 → RR} {S : Int64} {z : Int64 × Int64} : ∀ (L : List Nat) (e s : Int64), (chF f S L e s).1 = .inl z → ∀ p ∈ L, ∃ B, (f p S).1 = .inl B
  | [], _, _, _, p, hp => absurd hp (by simp)
  | q :: qs, e, s, h, p, hp => by
    unfold chF at h
    cases hq : (f q S).1 with
    | inr t => rw [hq] at h; cases h
    | inl B =>
      rw [hq] at h
      rcases List.mem_cons.mp hp with rfl | hp
      · exact ⟨B, hq⟩
      · exact chF_all qs _ _ h p hp
theorem below {E : EE} (hX : TX E) {i : Nat} : ∀ (n m : Nat), m ≤ n → m < eN E → subP (eP E) i m → m = i ∨ ∃ p ∈ eK E i, subP (eP E) p m := by
  intro n
  induction n with
  | zero =>
    intro m hm hN ⟨k, hk⟩
    have : m = 0 := by omega
    subst this
    refine Or.inl ?_
    rw [← hk]
    clear hk hN hm
    induction k with
    | zero => rfl
    | succ k ih => show 0 = itP (eP E) k (eP E 0); rw [hX.2.2.2.1]; exact ih
  | succ n ih =>
    intro m hm hN hs
    by_cases e : m = i
    · exact Or.inl e
    · refine Or.inr ?_
      have hs2 := (subP_par (fun z => e z.symm)).mp hs
      by_cases h0 : m = 0
      · subst h0
        rcases ih 0 (by omega) hN hs with q | q
        · exact absurd q e
        · exact q
      · obtain ⟨x1, x2⟩ := hX.2.2.2.2.1 m (by omega) hN
        rcases ih (eP E m) (by omega) (by omega) hs2 with q | ⟨p, q1, ⟨k, q2⟩⟩
        · exact ⟨m, by rw [← q]; exact x2, subP_self⟩
        · exact ⟨p, q1, k + 1, q2⟩
/-- a try that could be done reaches every node below -/
theorem finF_cov {E : EE} (hT : TR E) (hX : TX E) : ∀ (f i : Nat) (S B : Int64), i < eN E → (tryF E f i S).1 = .inl B → ∀ m, m < eN E → subP (eP E) i m → ∃ q ∈ finF E f i S, q.1 = m ∧ (eS E m = 0 → q.2.2.Perm (eK E m)) := by
  intro f
  induction f with
  | zero => intro i S B hi hB; cases hB
  | succ f ih =>
    intro i S B hi hB m hm hs
    obtain ⟨x1, x2, x3, -⟩ := hX.2.2.2.2.2 i hi
    unfold tryF at hB
    unfold finF
    by_cases h0 : eS E i = 0
    · rw [if_pos h0] at hB ⊢
      have hP := rowF_all _ _ _ (Nat.le_refl _) hB
      rcases below hX m m (Nat.le_refl _) hm hs with rfl | ⟨p, hp, hps⟩
      · exact ⟨_, List.mem_cons_self, rfl, fun _ => hP⟩
      · obtain ⟨z, hz, rfl⟩ := List.mem_map.mp (hP.mem_iff.mpr hp)
        obtain ⟨-, B2, hB2⟩ := rowF_mem hz
        obtain ⟨q, q1, q2⟩ := ih z.1 z.2 B2 (hT.kid hi hp).1 hB2 m hm hps
        exact ⟨q, List.mem_cons_of_mem _ (List.mem_flatMap.mpr ⟨z, hz, q1⟩), q2⟩
    rw [if_neg h0] at hB ⊢
    by_cases h1 : eS E i = 1
    · rw [if_pos h1] at hB ⊢
      rcases below hX m m (Nat.le_refl _) hm hs with rfl | ⟨p, hp, hps⟩
      · exact ⟨_, List.mem_cons_self, rfl, fun z => absurd z h0⟩
      · cases hc : (chF (tryF E f) S (eK E i) (-1) 0).1 with
        | inr t => rw [hc] at hB; cases hB
        | inl z =>
          obtain ⟨B2, hB2⟩ := chF_all _ _ _ hc p hp
          obtain ⟨q, q1, q2⟩ := ih p S B2 (hT.kid hi hp).1 hB2 m hm hps
          exact ⟨q, List.mem_cons_of_mem _ (List.mem_flatMap.mpr ⟨p, hp, q1⟩), q2⟩
    rw [if_neg h1] at hB ⊢
    by_cases h2 : eS E i = 2
    · rw [if_pos h2] at hB ⊢
      rcases below hX m m (Nat.le_refl _) hm hs with rfl | ⟨p, hp, hps⟩
      · exact ⟨_, List.mem_cons_self, rfl, fun z => absurd z h0⟩
      · have hl := x1 h2
        cases hK : eK E i with
        | nil => rw [hK] at hp; cases hp
        | cons a r =>
          rw [hK] at hB hl hp
          have hr : r = [] := by
            cases r with
            | nil => rfl
            | cons b r => simp at hl
          subst hr
          have : p = a := by simpa using hp
          subst this
          cases hc : (tryF E f p S).1 with
          | inr t => simp only [hc, notF] at hB; cases hB
          | inl B2 =>
            obtain ⟨q, q1, q2⟩ := ih p S B2 (hT.kid hi (by rw [hK]; simp)).1 hc m hm hps
            exact ⟨q, List.mem_cons_of_mem _ q1, q2⟩
    rw [if_neg h2] at hB ⊢
    by_cases h3 : eS E i = 3
    · rw [if_pos h3] at hB ⊢
      rcases below hX m m (Nat.le_refl _) hm hs with rfl | ⟨p, hp, hps⟩
      · exact ⟨_, List.mem_cons_self, rfl, fun z => absurd z h0⟩
      · have hl := x2 h3
        rcases hK : eK E i with _ | ⟨a, _ | ⟨b, _ | ⟨c, r⟩⟩⟩
        · rw [hK] at hp; cases hp
        · rw [hK] at hB; cases hB
        · rw [hK] at hB; cases hB
        · rw [hK] at hB hl hp
          have hr : r = [] := by
            cases r with
            | nil => rfl
            | cons b r => simp at hl
          subst hr
          have ka := (hT.kid hi (p := a) (by rw [hK]; simp)).1
          have kb := (hT.kid hi (p := b) (by rw [hK]; simp)).1
          have kc := (hT.kid hi (p := c) (by rw [hK]; simp)).1
          simp only at hB ⊢
          unfold testF at hB
          cases hA : (tryF E f a S).1 with
          | inr t => rw [hA] at hB; cases hB
          | inl A =>
            rw [hA] at hB
            simp only at hB
            by_cases e : (A &&& nt S) &&& (eO E i ||| eI E c) = 0
            · rw [if_pos e] at hB
              cases hb : (tryF E f b A).1 with
              | inr t => rw [hb] at hB; cases hB
              | inl B2 =>
                rw [hb] at hB
                simp only at hB
                cases hc : (tryF E f c S).1 with
                | inr t => rw [hc] at hB; cases hB
                | inl C =>
                  simp only
                  have hp' : p = a ∨ p = b ∨ p = c := by simpa using hp
                  rcases hp' with rfl | rfl | rfl
                  · obtain ⟨q, q1, q2⟩ := ih p S A ka hA m hm hps
                    exact ⟨q, List.mem_cons_of_mem _ (List.mem_append_left _ (List.mem_append_left _ q1)), q2⟩
                  · obtain ⟨q, q1, q2⟩ := ih p A B2 kb hb m hm hps
                    exact ⟨q, List.mem_cons_of_mem _ (List.mem_append_left _ (List.mem_append_right _ q1)), q2⟩
                  · obtain ⟨q, q1, q2⟩ := ih p S C kc hc m hm hps
                    exact ⟨q, List.mem_cons_of_mem _ (List.mem_append_right _ q1), q2⟩
            · rw [if_neg e] at hB
              cases hB
    rw [if_neg h3]
    rcases below hX m m (Nat.le_refl _) hm hs with rfl | ⟨p, hp, hps⟩
    · exact ⟨_, List.mem_cons_self, rfl, fun z => absurd z h0⟩
    · rw [x3 (by omega)] at hp; cases hp
theorem OD_of {E : EE} {g B : Int64} (hT : TR E) (hX : TX E) (hB : (tryF E 21 0 g).1 = .inl B) (h1 : gd E st (finF E 21 0 g)) (h2 : gm E st (finF E 21 0 g)) : OD E st := by
  intro i hi
  obtain ⟨q, q1, rfl, q3⟩ := finF_cov hT hX 21 0 g B hX.1 hB i hi (sub_root hX i hi)
  obtain ⟨a1, a2, a3⟩ := h1 q q1
  obtain ⟨b1, b2, b3⟩ := h2 q q1
  refine ⟨a1.trans b1.symm, fun z => ?_, fun z => ?_⟩
  · obtain ⟨w, m, e1, e2⟩ := a2 z
    obtain ⟨w', m', f1, f2, f3⟩ := b2 z
    rw [e1] at f1
    have : (w, m) = (w', m') := Option.some.inj f1
    have hw : w = w' := congrArg Prod.fst this
    subst hw
    rw [b1, e2, f2]
    exact ⟨⟨m, e1⟩, rfl, f3⟩
  · exact ⟨q.2.2, q3 z, a3 z, b3 z⟩
/-- what an order changes of the class -/
def EqO (st s' : aS) : Prop := s'.2.2.2 = st.2.2.2 ∧ (∀ k i j, ¬ (k = 0 ∧ (j = 15 ∨ j = 16 ∨ j = 17)) → ¬ k = 3 → ¬ (k = 4 ∧ (j = 7 ∨ j = 8)) → s'.1 k i j = st.1 k i j) ∧ (∀ k i j, ¬ (k = 0 ∧ (j = 13 ∨ j = 14)) → ¬ k = 3 → s'.2.1 k i j = st.2.1 k i j) ∧ ∀ k i j, ¬ (k = 0 ∧ (j = 18 ∨ j = 19)) → s'.2.2.1 k i j = st.2.2.1 k i j
theorem EqO.tr {a b c : aS} (h : EqO a b) (q : EqO b c) : EqO a c := ⟨q.1.trans h.1, fun k i j p r s => (q.2.1 k i j p r s).trans (h.2.1 k i j p r s), fun k i j p r => (q.2.2.1 k i j p r).trans (h.2.2.1 k i j p r), fun k i j p => (q.2.2.2 k i j p).trans (h.2.2.2 k i j p)⟩
theorem EqO.M (h : EqO st s') : EqM st s' := ⟨fun a b c q => h.2.1 a b c (by omega) (by omega) (by omega), fun a b c q => h.2.2.1 a b c (by omega) (by omega), fun b c => h.2.2.2 5 b c (by omega)⟩
theorem pR.o {np : Nat} {ar md : Nat → Nat} {ou : Nat → Nat → Int32} (h : pR st np ar md ou) (q : EqO st s') : pR s' np ar md ou := by
  have q1 : ∀ {a b c : Nat}, ¬ (a = 0 ∨ a = 3 ∨ a = 4) → s'.1 a b c = st.1 a b c := fun h => q.2.1 _ _ _ (by omega) (by omega) (by omega)
  have q3 : ∀ {b c : Nat}, s'.2.2.1 1 b c = st.2.2.1 1 b c := q.2.2.2 _ _ _ (by omega)
  obtain ⟨p1, p2, p3, p4, p5, p6, p7, p8⟩ := h
  exact ⟨q3.trans p1, q3.trans p2, q3.trans p3, (q1 (by omega)).trans p4, p5, fun p hp => ⟨(q1 (by omega)).trans (p6 p hp).1, (p6 p hp).2.1, (q1 (by omega)).trans (p6 p hp).2.2.1, (p6 p hp).2.2.2⟩, fun p m hp hm => (q1 (by omega)).trans (p7 p m hp hm), fun p hp hq => (q1 (by omega)).trans (p8 p hp hq)⟩
theorem nV.o {i W : Nat} {V : Nat → Nat} (h : nV st i W V) (q : EqO st s') : nV s' i W V := ⟨(q.2.1 _ _ _ (by omega) (by omega) (by omega)).trans h.1, h.2.1, (q.2.2.2 _ _ _ (by omega)).trans h.2.2.1, fun k hk => ⟨(q.2.1 _ _ _ (by omega) (by omega) (by omega)).trans (h.2.2.2 k hk).1, (h.2.2.2 k hk).2⟩⟩
theorem CG.o {E : EE} {rm : Nat} {rv : Nat → Nat} {g w : Int64} {od sk od' sk' : Int32} (h : CG E rm rv g w od sk st) (q : EqO st s') (h7 : s'.1 4 0 7 = od') (h8 : s'.1 4 0 8 = sk') : CG E rm rv g w od' sk' s' := by
  have q1 : ∀ {a b c : Nat}, ¬ (a = 0 ∧ (c = 15 ∨ c = 16 ∨ c = 17)) → ¬ a = 3 → ¬ (a = 4 ∧ (c = 7 ∨ c = 8)) → s'.1 a b c = st.1 a b c := fun h1 h2 h3 => q.2.1 _ _ _ h1 h2 h3
  have q2 : ∀ {a b c : Nat}, ¬ (a = 0 ∧ (c = 13 ∨ c = 14)) → ¬ a = 3 → s'.2.1 a b c = st.2.1 a b c := fun h1 h2 => q.2.2.1 _ _ _ h1 h2
  have q3 : ∀ {a b c : Nat}, ¬ (a = 0 ∧ (c = 18 ∨ c = 19)) → s'.2.2.1 a b c = st.2.2.1 a b c := fun h1 => q.2.2.2 _ _ _ h1
  obtain ⟨k1, k2, k3, k4, k5, k6, k7, k8, k9, k10, k11⟩ := h
  obtain ⟨f1, f2, f3, f4, f5, f6, f7⟩ := k1
  refine ⟨⟨(q3 (by omega)).trans f1, (q3 (by omega)).trans f2, (q3 (by omega)).trans f3, (q3 (by omega)).trans f4, (q3 (by omega)).trans f5, (q3 (by omega)).trans f6, (q3 (by omega)).trans f7⟩, ?_, fun i hi => ?_, k4.o q, (q1 (by omega) (by omega) (by omega)).trans k5, (q1 (by omega) (by omega) (by omega)).trans k6, fun k hk => (q1 (by omega) (by omega) (by omega)).trans (k7 k hk), (q2 (by omega) (by omega)).trans k8, (q2 (by omega) (by omega)).trans k9, h7, h8⟩
  · unfold CA
    rw [q.1]
    exact ⟨k2.1, k2.2.1, k2.2.2.1, fun i hi => (q3 (by omega)).trans (k2.2.2.2.1 i hi), fun i hi => ⟨(q1 (by omega) (by omega) (by omega)).trans (k2.2.2.2.2 i hi).1, (q3 (by omega)).trans (k2.2.2.2.2 i hi).2⟩⟩
  · obtain ⟨a1, a2, a3, a4, a5, a6, a7, a8, a9, a10, a11⟩ := k3 i hi
    exact ⟨(q1 (by omega) (by omega) (by omega)).trans a1, (q1 (by omega) (by omega) (by omega)).trans a2, (q1 (by omega) (by omega) (by omega)).trans a3, (q3 (by omega)).trans a4, (q3 (by omega)).trans a5, (q3 (by omega)).trans a6, fun k p hk => (q3 (by omega)).trans (a7 k p hk), (q2 (by omega) (by omega)).trans a8, by rw [q2 (by omega) (by omega)]; exact a9, a10.o q, fun z => (q1 (by omega) (by omega) (by omega)).trans (a11 z)⟩
theorem lsF_none {S : Int64} : ∀ (n k : Nat), lsF S n k = none ↔ ∀ j, k ≤ j → j < k + n → hB S (nI j) = 0
  | 0, k => ⟨fun _ j h1 h2 => by omega, fun _ => rfl⟩
  | n + 1, k => by
    unfold lsF
    by_cases e : hB S (nI k) = 0
    · rw [if_neg (fun z => z e), lsF_none n (k + 1)]
      constructor
      · intro h j h1 h2
        by_cases q : j = k
        · subst q; exact e
        · exact h j (by omega) (by omega)
      · intro h j h1 h2
        exact h j (by omega) (by omega)
    · rw [if_pos e]
      exact ⟨fun h => (by cases h), fun h => absurd (h k (Nat.le_refl _) (by omega)) e⟩
theorem gB_ext0 {S : Int64} (h : ∀ v, v < 64 → ¬ gB S v) : S = 0 := by
  apply Int64.toBitVec_inj.mp
  apply BitVec.eq_of_getLsbD_eq
  intro i hi
  cases hb : S.toBitVec.getLsbD i with
  | true => exact absurd hb (h i hi)
  | false => simp
theorem ls0 {w B : Int64} (h : ∀ v, 60 ≤ v → v < 64 → ¬ gB w v) : lsF (w &&& nt B) 60 0 = none ↔ w &&& nt B = 0 := by
  rw [lsF_none]
  constructor
  · intro q
    refine gB_ext0 (fun v hv z => ?_)
    by_cases e : v < 60
    · exact (hB_iff (by omega)).mpr z (q v (by omega) (by omega))
    · refine h v (by omega) hv ?_
      unfold gB at z ⊢
      rw [Int64.toBitVec_and, BitVec.getLsbD_and] at z
      exact ((Bool.and_eq_true _ _).mp z).1
  · intro q j h1 h2
    refine Classical.byContradiction (fun z => ?_)
    have := (hB_iff (by omega)).mp z
    rw [q] at this
    simp [gB] at this
theorem J_order (hJ : JE st) (hd : 71 ≤ d) : MC l D mG_order d 0 0 [vR (some (4, 0))] st (JQ l D mM_order d [vR (some (5, 0))]) := by
  obtain ⟨E, rm, rv, g, w, od, sk, hJ⟩ := hJ
  obtain ⟨j1, j2, j3, j4, j5, j6, j7, j8, j9, j10⟩ := id hJ
  obtain ⟨c1, c2, c3, c4, c5, c6, c7, c8, c9, c10, c11⟩ := id j8
  have q0 : EqO st (sI (sI (sL (fgt st) 3 0 1 w) 3 0 2 0) 3 0 3 0) := ⟨rfl, fun k i j h1 h2 h3 => (sI_ne (by omega)).trans ((sI_ne (by omega)).trans ((sI_ne (by omega)).trans (sI_ne (by omega)))), fun k i j h1 h2 => sL_ne (by omega), fun k i j h1 => rfl⟩
  have hw0 : (sI (sI (sL (fgt st) 3 0 1 w) 3 0 2 0) 3 0 3 0).2.1 3 0 1 = w := sL_eq
  have i7 : (sI (sI (sL (fgt st) 3 0 1 w) 3 0 2 0) 3 0 3 0).1 4 0 7 = 0 := by simp [fgt, sI, sL, u3]
  have i8 : (sI (sI (sL (fgt st) 3 0 1 w) 3 0 2 0) 3 0 3 0).1 4 0 8 = -1 := by simp [fgt, sI, sL, u3]
  have hTC : TC E (sI (sI (sL (fgt st) 3 0 1 w) 3 0 2 0) 3 0 3 0) := by
    refine ⟨j1, c4.o q0, c1.2.2.2.2.1, fun i hi => ?_⟩
    obtain ⟨a1, a2, a3, a4, a5, a6, a7, a8, a9, a10, a11⟩ := c3 i hi
    have q1 : ∀ {a b c : Nat}, ¬ (a = 0 ∧ (c = 15 ∨ c = 16 ∨ c = 17)) → ¬ a = 3 → ¬ (a = 4 ∧ (c = 7 ∨ c = 8)) → (sI (sI (sL (fgt st) 3 0 1 w) 3 0 2 0) 3 0 3 0).1 a b c = st.1 a b c := fun h1 h2 h3 => q0.2.1 _ _ _ h1 h2 h3
    exact ⟨(q1 (by omega) (by omega) (by omega)).trans (c2.2.2.2.2 i (Nat.lt_of_lt_of_le hi c2.1)).1, (q1 (by omega) (by omega) (by omega)).trans a1, (q1 (by omega) (by omega) (by omega)).trans a3, a5, a7, (q0.2.2.1 _ _ _ (by omega) (by omega)).trans a8, by rw [q0.2.2.1 _ _ _ (by omega) (by omega), hw0]; exact a9, a10.o q0, fun z => (q1 (by omega) (by omega) (by omega)).trans (a11 z)⟩
  refine MC.mono (c_G_order c1 c8 c9 hTC j2.1 j2.2.2.1 hd) (fun u s1 h => ?_)
  obtain ⟨s0, hF, hh⟩ := h
  generalize sI (sI (sL (fgt st) 3 0 1 w) 3 0 2 0) 3 0 3 0 = sx at *
  have q1 : EqO st s0 := q0.tr ⟨hF.1.1, fun k i j h1 h2 h3 => hF.1.2.1 k i j (by omega) (by omega), fun k i j h1 h2 => hF.1.2.2.1 k i j h1, fun k i j h1 => hF.1.2.2.2 k i j h1⟩
  have k7 : s0.1 4 0 7 = 0 := (hF.1.2.1 4 0 7 (by omega) (by omega)).trans i7
  have k8 : s0.1 4 0 8 = -1 := (hF.1.2.1 4 0 8 (by omega) (by omega)).trans i8
  have hC0 : CG E rm rv g w 0 (-1) s0 := j8.o q1 k7 k8
  -- behind the class
  have step : ∀ (v : Int32) (s1 : aS) (od' sk' : Int32), EqO s0 s1 → s1.1 4 0 7 = od' → s1.1 4 0 8 = sk' → (od' = 0 ∨ od' = 1) → (∀ u2 s2, moQ E rm rv g w (sI s1 5 0 0 0) u2 s2 → u2 = some (vI v) ∧ EqC s1 s2 ∧ MG E rm rv g w od' sk' s2 ∧ (od' = 1 → OD E s2)) → JQ l D mM_order d [vR (some (5, 0))] (some (vI v)) s1 := by
    intro v s1 od' sk' r1 r2 r3 r4 r5
    refine ⟨v, rfl, MC.mono (c_M_order (j9.eq (q1.tr r1).M) j1 j2 (fun i hi v hv => ⟨(j3 i hi v hv).1, ?_⟩) (by omega)) (fun u2 s2 h2 => ?_)⟩
    · rw [← (c3 i hi).2.2.2.2.2.2.2.2.1, gB_or, (j3 i hi v hv).2]
      exact Or.comm
    · obtain ⟨t1, t2, t3, t4⟩ := r5 u2 s2 h2
      exact ⟨t1, E, rm, rv, g, w, od', sk', j1, j2, (j3.eq (fun i hi => (q1.tr r1).2.2.1 0 i 12 (by omega) (by omega))).eq (fun i hi => t2.2.1 0 i 12 (by omega)), j4, j5, j6, r4, CG.eq (hC0.o r1 r2 r3) t2, t3, t4⟩
  have eqc : ∀ {s1 s2 : aS}, EqC (sI s1 5 0 0 0) s2 → EqC s1 s2 := fun h => (EqC.I (by omega)).tr h
  have up40 : ∀ {s2 : aS} {v : Int32}, MG E rm rv g w 0 (-1) s2 → MG E rm rv g w v (-1) (sI s2 5 0 40 v) := fun {s2 v} h => MG.n h (EqN.I (by omega)) ((sI_ne (by omega)).trans h.2.2.2.2.1) (fun k hk => (sI_ne (by omega)).trans (h.2.2.2.2.2.1 k hk)) h.2.2.2.2.2.2.1 h.2.2.2.2.2.2.2.1 sI_eq ((sI_ne (by omega)).trans h.2.2.2.2.2.2.2.2.2)
  have up41 : ∀ {s2 : aS} {v : Int32}, MG E rm rv g w 0 (-1) s2 → MG E rm rv g w 0 v (sI s2 5 0 41 v) := fun {s2 v} h => MG.n h (EqN.I (by omega)) ((sI_ne (by omega)).trans h.2.2.2.2.1) (fun k hk => (sI_ne (by omega)).trans (h.2.2.2.2.2.1 k hk)) h.2.2.2.2.2.2.1 h.2.2.2.2.2.2.2.1 ((sI_ne (by omega)).trans h.2.2.2.2.2.2.2.2.1) sI_eq
  rcases hh with ⟨h1, rfl, rfl⟩ | ⟨h1, ⟨k, h2, rfl, rfl⟩ | ⟨B, h2, h3, ⟨h4, rfl, rfl⟩ | ⟨h4, rfl, rfl⟩⟩⟩
  · refine step 3 s1 0 (-1) ⟨rfl, fun _ _ _ _ _ _ => rfl, fun _ _ _ _ _ => rfl, fun _ _ _ _ => rfl⟩ k7 k8 (Or.inl rfl) (fun u2 s2 hm => ?_)
    obtain ⟨sm, m1, m2, m3⟩ := hm
    rcases m3 with ⟨n1, rfl, rfl⟩ | ⟨n1, -⟩
    · exact ⟨rfl, eqc m2, m1, fun z => absurd z (by decide)⟩
    · omega
  · refine step 1 _ 0 (nI k) ⟨rfl, fun _ _ _ _ _ _ => sI_ne (by omega), fun _ _ _ _ _ => rfl, fun _ _ _ _ => rfl⟩ ((sI_ne (by omega)).trans k7) sI_eq (Or.inl rfl) (fun u2 s2 hm => ?_)
    obtain ⟨sm, m1, m2, m3⟩ := hm
    rcases m3 with ⟨n1, rfl, rfl⟩ | ⟨n1, ⟨k', n2, rfl, rfl⟩ | ⟨B, n2, -⟩⟩
    · omega
    · rw [h2] at n2
      have : k = k' := Sum.inr.inj n2
      subst this
      exact ⟨rfl, (eqc m2).tr (EqC.I (by omega)), up41 m1, fun z => absurd z (by decide)⟩
    · rw [h2] at n2; cases n2
  · cases hx : lsF (w &&& nt B) 60 0 with
    | none => exact absurd ((ls0 j4).mp hx) h4
    | some x =>
      refine step 2 _ 0 (nI x) ⟨rfl, fun _ _ _ _ _ _ => sI_ne (by omega), fun _ _ _ _ _ => rfl, fun _ _ _ _ => rfl⟩ ((sI_ne (by omega)).trans k7) sI_eq (Or.inl rfl) (fun u2 s2 hm => ?_)
      obtain ⟨sm, m1, m2, m3⟩ := hm
      rcases m3 with ⟨n1, rfl, rfl⟩ | ⟨n1, ⟨k', n2, rfl, rfl⟩ | ⟨B', n2, n3, n4⟩⟩
      · omega
      · rw [h2] at n2; cases n2
      · rw [h2] at n2
        have : B = B' := Sum.inl.inj n2
        subst this
        rw [hx] at n4
        obtain ⟨rfl, rfl⟩ := n4
        exact ⟨rfl, (eqc m2).tr (EqC.I (by omega)), up41 m1, fun z => absurd z (by decide)⟩
  · refine step 0 _ 1 (-1) ⟨rfl, fun _ _ _ _ _ _ => sI_ne (by omega), fun _ _ _ _ _ => rfl, fun _ _ _ _ => rfl⟩ sI_eq ((sI_ne (by omega)).trans k8) (Or.inr rfl) (fun u2 s2 hm => ?_)
    obtain ⟨sm, m1, m2, m3⟩ := hm
    rcases m3 with ⟨n1, rfl, rfl⟩ | ⟨n1, ⟨k', n2, rfl, rfl⟩ | ⟨B', n2, n3, n4⟩⟩
    · omega
    · rw [h2] at n2; cases n2
    · rw [h2] at n2
      have : B = B' := Sum.inl.inj n2
      subst this
      rw [(ls0 j4).mpr h4] at n4
      obtain ⟨rfl, rfl⟩ := n4
      have mc := (eqc m2).tr (EqC.I (k := 5) (i := 0) (j := 40) (v := 1) (by omega))
      refine ⟨rfl, mc, up40 m1, fun _ => OD_of j1 j2 h2 ?_ ?_⟩
      · refine gd.keep h3 (fun q hq => ⟨mc.2.1 _ _ _ (by omega), (mc.1 _ _ _ (by omega)).trans (sI_ne (by omega)), ?_⟩) (fun q hq p hp => ?_)
        · rw [mc.2.2]; rfl
        · rw [mc.2.2]; rfl
      · exact gm.keep n3 (fun q hq => ⟨rfl, sI_ne (by omega), sI_ne (by omega)⟩) (fun q hq p hp => sI_ne (by omega))
end J7
