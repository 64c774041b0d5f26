/-! states read back -/
theorem sI_eq {st : aS} {k i j : Nat} {v : Int32} : (sI st k i j v).1 k i j = v := if_pos ⟨rfl, rfl, rfl⟩
theorem sI_ne {st : aS} {k i j a b c : Nat} {v : Int32} (h : ¬ (a = k ∧ b = i ∧ c = j)) : (sI st k i j v).1 a b c = st.1 a b c := if_neg h
theorem sL_eq {st : aS} {k i j : Nat} {v : Int64} : (sL st k i j v).2.1 k i j = v := if_pos ⟨rfl, rfl, rfl⟩
theorem sL_ne {st : aS} {k i j a b c : Nat} {v : Int64} (h : ¬ (a = k ∧ b = i ∧ c = j)) : (sL st k i j v).2.1 a b c = st.2.1 a b c := if_neg h
theorem sR_eq {st : aS} {k i j : Nat} {v : Option Nat} : (sR st k i j v).2.2.1 k i j = v := if_pos ⟨rfl, rfl, rfl⟩
theorem sR_ne {st : aS} {k i j a b c : Nat} {v : Option Nat} (h : ¬ (a = k ∧ b = i ∧ c = j)) : (sR st k i j v).2.2.1 a b c = st.2.2.1 a b c := if_neg h
/-! what canDo answers -/
def rQ (E : EE) (i : Nat) (S : Int64) (f : Nat) (v : Option aV) (s' : aS) : Prop := match (tryF E f i S).1 with
  | .inl B => v = some (vI 1) ∧ s'.2.1 0 i 14 = B ∧ s'.2.1 0 i 13 = S ∧ gd E s' (finF E f i S)
  | .inr k => v = some (vI 0) ∧ s'.1 0 i 16 = nI k
def over (t c : Nat) (v : Option aV) (s' : aS) : Prop := 20000 < t + c ∧ s'.1 3 0 2 = nI 20000 ∧ s'.1 3 0 3 = 1 ∧ v = some (vI 0)
def norm (t c : Nat) (st s' : aS) : Prop := t + c ≤ 20000 ∧ s'.1 3 0 2 = nI (t + c) ∧ s'.1 3 0 3 = st.1 3 0 3
def cQ (E : EE) (i : Nat) (S : Int64) (f t : Nat) (st : aS) (v : Option aV) (s' : aS) : Prop := TF E i st s' ∧ ((norm t (tryF E f i S).2 st s' ∧ rQ E i S f v s') ∨ over t (tryF E f i S).2 v s')
def CD (l : Launch) (D : mD) (E : EE) (f dd : Nat) : Prop := ∀ (st : aS) (i : Nat) (S : Int64) (t : Nat), TC E st → i < eN E → eD E i + f = 21 → st.1 3 0 2 = nI t → t ≤ 20000 → MC l D mR_canDo dd 0 0 [vR (some (3, 0)), vR (some (0, i)), vL S] st (cQ E i S f t st)
theorem cQ_v {E : EE} {i : Nat} {S : Int64} {f t : Nat} {st s' : aS} {v : Option aV} (h : cQ E i S f t st v s') : ∃ b : Int32, v = some (vI b) ∧ (b = 0 ∨ b = 1) := by
  rcases h.2 with ⟨-, h⟩ | h
  · unfold rQ at h
    split at h
    · exact ⟨1, h.1, Or.inr rfl⟩
    · exact ⟨0, h.1, Or.inl rfl⟩
  · exact ⟨0, h.2.2.2, Or.inl rfl⟩
/-- it could be done -/
theorem cQ_1 {E : EE} {i : Nat} {S : Int64} {f t : Nat} {st s' : aS} {b : Int32} (h : cQ E i S f t st (some (vI b)) s') (hb : ¬ b = 0) : ∃ B, (tryF E f i S).1 = .inl B ∧ TF E i st s' ∧ norm t (tryF E f i S).2 st s' ∧ b = 1 ∧ s'.2.1 0 i 14 = B ∧ s'.2.1 0 i 13 = S ∧ gd E s' (finF E f i S) := by
  rcases h.2 with ⟨hn, hr⟩ | ho
  · unfold rQ at hr
    split at hr
    · next B hB =>
      have e : b = 1 := by have := hr.1; simpa using this
      exact ⟨B, hB, h.1, hn, e, hr.2⟩
    · exact absurd (by have := hr.1; simpa using this) hb
  · exact absurd (by have := ho.2.2.2; simpa using this) hb
/-- it couldn't -/
theorem cQ_0 {E : EE} {i : Nat} {S : Int64} {f t : Nat} {st s' : aS} {b : Int32} (h : cQ E i S f t st (some (vI b)) s') (hb : b = 0) : TF E i st s' ∧ ((∃ k, (tryF E f i S).1 = .inr k ∧ norm t (tryF E f i S).2 st s' ∧ s'.1 0 i 16 = nI k) ∨ (20000 < t + (tryF E f i S).2 ∧ s'.1 3 0 2 = nI 20000 ∧ s'.1 3 0 3 = 1)) := by
  subst hb
  refine ⟨h.1, ?_⟩
  rcases h.2 with ⟨hn, hr⟩ | ho
  · unfold rQ at hr
    split at hr
    · exact absurd hr.1 (by simp)
    · next k hk => exact Or.inl ⟨k, hk, hn, hr.2⟩
  · exact Or.inr ⟨ho.1, ho.2.1, ho.2.2.1⟩
def pQ (E : EE) (i p : Nat) (S : Int64) (f t : Nat) (st : aS) (v : Option aV) (s' : aS) : Prop := (∃ B, (tryF E f p S).1 = .inl B ∧ v = some (vI 1) ∧ norm t (tryF E f p S).2 st s' ∧ TF E p st s' ∧ s'.2.1 0 p 14 = B ∧ s'.2.1 0 p 13 = S ∧ gd E s' (finF E f p S)) ∨ (v = some (vI 0) ∧ TF E i st s' ∧ ((∃ k, (tryF E f p S).1 = .inr k ∧ norm t (tryF E f p S).2 st s' ∧ s'.1 0 i 16 = nI k) ∨ (20000 < t + (tryF E f p S).2 ∧ s'.1 3 0 2 = nI 20000 ∧ s'.1 3 0 3 = 1)))
def jQ (st : aS) (i : Nat) (r : Int64 ⊕ Nat) (v : Option aV) (s' : aS) : Prop := match r with
  | .inl B => s' = sL st 0 i 14 B ∧ v = some (vI 1)
  | .inr _ => st = s' ∧ v = some (vI 0)
theorem jQ_v {st s' : aS} {i : Nat} {r : Int64 ⊕ Nat} {v : Option aV} (h : jQ st i r v s') : ∃ b : Int32, v = some (vI b) ∧ (b = 0 ∨ b = 1) := by
  cases r with
  | inl B => exact ⟨1, h.2, Or.inr rfl⟩
  | inr k => exact ⟨0, h.2, Or.inl rfl⟩
theorem tryF_pos (E : EE) : ∀ (f i : Nat) (S : Int64), 1 ≤ (tryF E f i S).2
  | 0, i, S => Nat.le_refl _
  | f + 1, i, S => by
    unfold tryF
    split
    · exact Nat.le_add_right _ _
    · split
      · exact Nat.le_add_right _ _
      · split
        · split
          · exact Nat.le_refl _
          · exact Nat.le_add_right _ _
        · split
          · split
            · exact Nat.le_add_right _ _
            · exact Nat.le_refl _
          · exact Nat.le_refl _
theorem TC.tr {E : EE} {st : aS} (h : TC E st) : TR E := h.1
/-- the parts that are left -/
def lf (st : aS) (ps : List Nat) : List Nat := ps.filter (fun p => decide (st.1 0 p 17 = 0))
theorem lf_cons0 {st : aS} {p : Nat} {ps : List Nat} (h : st.1 0 p 17 = 0) : lf st (p :: ps) = p :: lf st ps := List.filter_cons_of_pos (by simpa using h)
theorem lf_cons1 {st : aS} {p : Nat} {ps : List Nat} (h : ¬ st.1 0 p 17 = 0) : lf st (p :: ps) = lf st ps := List.filter_cons_of_neg (by simpa using h)
theorem lf_mem {st : aS} {p : Nat} {ps : List Nat} : p ∈ lf st ps ↔ p ∈ ps ∧ st.1 0 p 17 = 0 := by
  unfold lf
  rw [List.mem_filter]
  simp
theorem lf_congr {st s' : aS} {ps : List Nat} (h : ∀ p ∈ ps, s'.1 0 p 17 = st.1 0 p 17) : lf s' ps = lf st ps := by
  unfold lf
  refine List.filter_congr (fun p hp => ?_)
  rw [h p hp]
def dX (E : EE) (i : Nat) (rem : List Nat) : Nat → Prop := fun m => m = i ∨ ∃ q ∈ rem, subP (eP E) q m
/-- what doLeftmost answers -/
def dQ (E : EE) (i : Nat) (S : Int64) (f t : Nat) (sc : aS) (ps : List Nat) (v : Option aV) (s' : aS) : Prop :=
  (norm t (scanF (tryF E f) S (lf sc ps)).2 sc s' ∧ SE sc s' ∧ NF (dX E i (lf sc ps)) sc s' ∧ (∀ q ∈ eK E i, s'.2.2.1 0 q 19 = sc.2.2.1 0 q 19) ∧ (∀ j, s'.1 0 i j = sc.1 0 i j ∧ s'.2.2.1 0 i j = sc.2.2.1 0 i j ∧ (j ≠ 14 → s'.2.1 0 i j = sc.2.1 0 i j)) ∧
    ((∃ z, (scanF (tryF E f) S (lf sc ps)).1 = some z ∧ v = some (vR (some (0, z.1))) ∧ s'.1 0 z.1 17 = 1 ∧ s'.2.1 0 i 14 = z.2 ∧ gd E s' (finF E f z.1 S) ∧ ∀ q ∈ eK E i, q ≠ z.1 → s'.1 0 q 17 = sc.1 0 q 17) ∨
     ((scanF (tryF E f) S (lf sc ps)).1 = none ∧ v = some (vR none) ∧ s'.2.1 0 i 14 = sc.2.1 0 i 14 ∧ (∀ q ∈ eK E i, s'.1 0 q 17 = sc.1 0 q 17) ∧ ∀ q r, lf sc ps = q :: r → s'.1 0 q 16 = nI (stk (tryF E f q S).1 q))))
  ∨ (20000 < t + (scanF (tryF E f) S (lf sc ps)).2 ∧ s'.1 3 0 2 = nI 20000 ∧ s'.1 3 0 3 = 1 ∧ v = some (vR none) ∧ TF E i sc s')
theorem dQ_hit {E : EE} (hT : TR E) {i p f t : Nat} {S : Int64} {sc s2 : aS} {ps : List Nat} {b : Int32} (hi : i < eN E) (hp : p ∈ eK E i) (h0 : sc.1 0 p 17 = 0) (hq : cQ E p S f t sc (some (vI b)) s2) (hb : ¬ b = 0) : dQ E i S f t sc (p :: ps) (some (vR (some (0, p)))) (sL (sI s2 0 p 17 1) 0 i 14 ((sI s2 0 p 17 1).2.1 0 p 14)) := by
  obtain ⟨B, e1, e2, e3, -, e5, e6, e7⟩ := cQ_1 hq hb
  have hs : scanF (tryF E f) S (lf sc (p :: ps)) = (some (p, B), (tryF E f p S).2) := by
    rw [lf_cons0 h0]
    unfold scanF
    rw [e1]
  have hip := (hT.kid hi hp).2.1
  have hat := e2.at hT hi hp
  refine Or.inl ⟨?_, ?_, ?_, ?_, ?_, Or.inl ⟨(p, B), by rw [hs], rfl, ?_, ?_, ?_, ?_⟩⟩
  · rw [hs]
    exact ⟨e3.1, show (sI s2 0 p 17 1).1 3 0 2 = _ from (sI_ne (by omega)).trans e3.2.1, show (sI s2 0 p 17 1).1 3 0 3 = _ from (sI_ne (by omega)).trans e3.2.2⟩
  · exact (e2.1.tr (TF.pI (E := E) (i := i) (a := p) (j := 17) (hT.sub hi hp subP_self) (Or.inr (Or.inr ⟨rfl, by omega⟩))).1).tr (TF.pL (E := E) (i := i) (a := i) subP_self (Or.inr rfl)).1
  · intro m hm j
    have hmi : m ≠ i := fun q => hm (Or.inl q)
    have hmp : ¬ subP (eP E) p m := fun q => hm (Or.inr ⟨p, by rw [lf_cons0 h0]; exact List.mem_cons_self, q⟩)
    have hmp2 : m ≠ p := fun q => hmp (by rw [q]; exact subP_self)
    obtain ⟨a1, a2, a3⟩ := e2.2.1 m hmp j
    exact ⟨(sI_ne (fun q => hmp2 q.2.1)).trans a1, (sL_ne (fun q => hmi q.2.1)).trans a2, a3⟩
  · intro q hq2
    by_cases e : q = p
    · rw [e]; exact e2.2.2.2
    · exact (e2.sib hT hi hp hq2 (Ne.symm e) subP_self 19).2.2
  · intro j
    exact ⟨(sI_ne (by omega)).trans (hat j).1, (hat j).2.2, fun hj => (sL_ne (by omega)).trans (hat j).2.1⟩
  · exact sI_eq
  · exact sL_eq.trans e5
  · refine e7.keep (fun z hz => ?_) (fun z hz r hr => rfl)
    have h1 := subP_gt hT.2.1 (finF_sub hT f (hT.kid hi hp).1 z hz).1
    exact ⟨sL_ne (by omega), sI_ne (by omega), rfl⟩
  · intro q hq2 hne
    exact (sI_ne (fun z => hne z.2.1)).trans (e2.sib hT hi hp hq2 (Ne.symm hne) subP_self 17).1
theorem dQ_miss {E : EE} (hT : TR E) {i p f t : Nat} {S : Int64} {sc s2 : aS} {ps : List Nat} {b : Int32} (hi : i < eN E) (hp : p ∈ eK E i) (hps : ∀ q ∈ ps, q ∈ eK E i) (hnd : p ∉ ps) (h0 : sc.1 0 p 17 = 0) (hq : cQ E p S f t sc (some (vI b)) s2) (hb : b = 0) : ∃ t2, t2 ≤ 20000 ∧ s2.1 3 0 2 = nI t2 ∧ ∀ v s', dQ E i S f t2 s2 ps v s' → dQ E i S f t sc (p :: ps) v s' := by
  obtain ⟨e1, e2⟩ := cQ_0 hq hb
  have hip := (hT.kid hi hp).2.1
  have hat := e1.at hT hi hp
  have hl : lf s2 ps = lf sc ps := lf_congr (fun q hq2 => (e1.sib hT hi hp (hps q hq2) (fun z => hnd (by rw [z]; exact hq2)) subP_self 17).1)
  have f17 : ∀ q ∈ eK E i, s2.1 0 q 17 = sc.1 0 q 17 := by
    intro q hq2
    by_cases e : q = p
    · rw [e]; exact e1.2.2.1
    · exact (e1.sib hT hi hp hq2 (Ne.symm e) subP_self 17).1
  have f19 : ∀ q ∈ eK E i, s2.2.2.1 0 q 19 = sc.2.2.1 0 q 19 := by
    intro q hq2
    by_cases e : q = p
    · rw [e]; exact e1.2.2.2
    · exact (e1.sib hT hi hp hq2 (Ne.symm e) subP_self 19).2.2
  have nf1 : NF (dX E i (lf sc (p :: ps))) sc s2 := e1.2.1.up (fun m q => Or.inr ⟨p, by rw [lf_cons0 h0]; exact List.mem_cons_self, q⟩)
  have nf2 : ∀ {s' : aS}, NF (dX E i (lf sc ps)) s2 s' → NF (dX E i (lf sc (p :: ps))) s2 s' := fun h => h.up (fun m q => by
    rcases q with q | ⟨r, hr, q⟩
    · exact Or.inl q
    · exact Or.inr ⟨r, by rw [lf_cons0 h0]; exact List.mem_cons_of_mem _ hr, q⟩)
  rcases e2 with ⟨k, a1, a2, a3⟩ | ⟨a1, a2, a3⟩
  · refine ⟨_, a2.1, a2.2.1, fun v s' h => ?_⟩
    have hs : scanF (tryF E f) S (lf sc (p :: ps)) = ((scanF (tryF E f) S (lf sc ps)).1, (tryF E f p S).2 + (scanF (tryF E f) S (lf sc ps)).2) := by
      rw [lf_cons0 h0]
      conv => lhs; unfold scanF
      rw [a1]
    rcases h with ⟨b1, b2, b3, b4, b5, b6⟩ | ⟨b1, b2, b3, b4, b5⟩
    · rw [hl] at b1 b3 b6
      refine Or.inl ⟨?_, e1.1.tr b2, nf1.tr (nf2 b3), fun q hq2 => (b4 q hq2).trans (f19 q hq2), fun j => ⟨(b5 j).1.trans (hat j).1, (b5 j).2.1.trans (hat j).2.2, fun hj => ((b5 j).2.2 hj).trans (hat j).2.1⟩, ?_⟩
      · rw [hs]
        exact ⟨by rw [← Nat.add_assoc]; exact b1.1, by rw [← Nat.add_assoc]; exact b1.2.1, b1.2.2.trans a2.2.2⟩
      · rw [hs]
        rcases b6 with ⟨z, c1, c2, c3, c4, c5, c6⟩ | ⟨c1, c2, c3, c4, c5⟩
        · exact Or.inl ⟨z, c1, c2, c3, c4, c5, fun q hq2 hne => (c6 q hq2 hne).trans (f17 q hq2)⟩
        · refine Or.inr ⟨c1, c2, c3.trans (hat 14).2.1, fun q hq2 => (c4 q hq2).trans (f17 q hq2), fun q r hr => ?_⟩
          rw [lf_cons0 h0] at hr
          cases hr
          have hn : ¬ dX E i (lf sc ps) p := by
            intro q
            rcases q with q | ⟨r, hr, q⟩
            · omega
            · have hrk := hps r (lf_mem.mp hr).1
              exact hT.apart hi hp hrk (fun z => hnd (by rw [z]; exact (lf_mem.mp hr).1)) subP_self q
          rw [(b3 p hn 16).1, a3, a1]
          rfl
    · rw [hl] at b1
      exact Or.inr ⟨by rw [hs]; omega, b2, b3, b4, (e1.up hT hi hp).tr b5⟩
  · refine ⟨20000, Nat.le_refl _, a2, fun v s' h => ?_⟩
    have hs : (tryF E f p S).2 ≤ (scanF (tryF E f) S (lf sc (p :: ps))).2 := by
      rw [lf_cons0 h0]
      conv => rhs; unfold scanF
      split
      · exact Nat.le_refl _
      · exact Nat.le_add_right _ _
    rcases h with ⟨b1, b2, b3, b4, b5, b6⟩ | ⟨b1, b2, b3, b4, b5⟩
    · have hc0 : (scanF (tryF E f) S (lf s2 ps)).2 = 0 := by have := b1.1; omega
      have hnone : (scanF (tryF E f) S (lf s2 ps)).1 = none := by
        cases hL : lf s2 ps with
        | nil => rfl
        | cons q r =>
          rw [hL] at hc0
          unfold scanF at hc0
          have := tryF_pos E f q S
          split at hc0
          · omega
          · simp only at hc0; omega
      have e9 : TF E i s2 s' := ⟨b2, b3.up (fun m q => by
        rcases q with q | ⟨r, hr, q⟩
        · rw [q]; exact subP_self
        · exact hT.sub hi (hps r (lf_mem.mp hr).1) q), (b5 17).1, (b5 19).2.1⟩
      rcases b6 with ⟨z, c1, -⟩ | ⟨c1, c2, -⟩
      · rw [hnone] at c1; cases c1
      · exact Or.inr ⟨by omega, by rw [b1.2.1, hc0], b1.2.2.trans a3, c2, (e1.up hT hi hp).tr e9⟩
    · exact Or.inr ⟨by omega, b2, b3, b4, (e1.up hT hi hp).tr b5⟩
