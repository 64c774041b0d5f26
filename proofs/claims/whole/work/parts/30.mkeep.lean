/-! what a try of the reference may change -/
def SM (st s' : aS) : Prop := s'.2.2 = st.2.2 ∧ (∀ a b c, ¬ (31 ≤ a ∧ a ≤ 40) → ¬ (a = 5 ∧ b = 0 ∧ (c = 38 ∨ c = 39)) → s'.1 a b c = st.1 a b c) ∧ ∀ a b c, ¬ (a = 29 ∨ a = 30 ∨ (41 ≤ a ∧ a ≤ 43)) → s'.2.1 a b c = st.2.1 a b c
def NM (X : Nat → Prop) (st s' : aS) : Prop := ∀ m, ¬ X m → (∀ a, 31 ≤ a → a ≤ 36 → s'.1 a 0 m = st.1 a 0 m) ∧ s'.2.1 29 0 m = st.2.1 29 0 m ∧ s'.2.1 30 0 m = st.2.1 30 0 m
def FM (F : Nat) (st s' : aS) : Prop := ∀ g, g < F → (∀ a, 37 ≤ a → a ≤ 40 → s'.1 a 0 g = st.1 a 0 g) ∧ ∀ a, 41 ≤ a → a ≤ 43 → s'.2.1 a 0 g = st.2.1 a 0 g
def MT (E : EE) (i F : Nat) (st s' : aS) : Prop := SM st s' ∧ NM (subP (eP E) i) st s' ∧ FM F st s' ∧ s'.1 32 0 i = st.1 32 0 i ∧ s'.1 33 0 i = st.1 33 0 i
theorem SM.rf {st : aS} : SM st st := ⟨rfl, fun _ _ _ _ _ => rfl, fun _ _ _ _ => rfl⟩
theorem SM.tr {a b c : aS} (h : SM a b) (g : SM b c) : SM a c := ⟨g.1.trans h.1, fun x y z p q => (g.2.1 x y z p q).trans (h.2.1 x y z p q), fun x y z p => (g.2.2 x y z p).trans (h.2.2 x y z p)⟩
theorem NM.rf {X : Nat → Prop} {st : aS} : NM X st st := fun _ _ => ⟨fun _ _ _ => rfl, rfl, rfl⟩
theorem NM.tr {X : Nat → Prop} {a b c : aS} (h : NM X a b) (g : NM X b c) : NM X a c := fun m hm => ⟨fun x h1 h2 => ((g m hm).1 x h1 h2).trans ((h m hm).1 x h1 h2), (g m hm).2.1.trans (h m hm).2.1, (g m hm).2.2.trans (h m hm).2.2⟩
theorem NM.up {X Y : Nat → Prop} {a b : aS} (h : NM X a b) (hxy : ∀ m, X m → Y m) : NM Y a b := fun m hm => h m (fun q => hm (hxy m q))
theorem FM.rf {F : Nat} {st : aS} : FM F st st := fun _ _ => ⟨fun _ _ _ => rfl, fun _ _ _ => rfl⟩
theorem FM.tr {F : Nat} {a b c : aS} (h : FM F a b) (g : FM F b c) : FM F a c := fun m hm => ⟨fun x h1 h2 => ((g m hm).1 x h1 h2).trans ((h m hm).1 x h1 h2), fun x h1 h2 => ((g m hm).2 x h1 h2).trans ((h m hm).2 x h1 h2)⟩
theorem FM.less {F G : Nat} {a b : aS} (h : FM F a b) (hg : G ≤ F) : FM G a b := fun m hm => h m (by omega)
theorem MT.rf {E : EE} {i F : Nat} {st : aS} : MT E i F st st := ⟨SM.rf, NM.rf, FM.rf, rfl, rfl⟩
theorem MT.tr {E : EE} {i F : Nat} {a b c : aS} (h : MT E i F a b) (g : MT E i F b c) : MT E i F a c := ⟨h.1.tr g.1, h.2.1.tr g.2.1, h.2.2.1.tr g.2.2.1, g.2.2.2.1.trans h.2.2.2.1, g.2.2.2.2.trans h.2.2.2.2⟩
/-- an array of ints by node is written at a node below -/
theorem MT.pI {E : EE} {i F k a : Nat} {st : aS} {v : Int32} (hk : 31 ≤ k ∧ k ≤ 36) (ha : subP (eP E) i a) (h2 : (k = 32 ∨ k = 33) → a ≠ i) : MT E i F st (sI st k 0 a v) := by
  refine ⟨⟨rfl, fun x y z p q => sI_ne (by omega), fun _ _ _ _ => rfl⟩, fun m hm => ⟨fun x h1 h2 => ?_, rfl, rfl⟩, fun g hg => ⟨fun x h1 h2 => ?_, fun _ _ _ => rfl⟩, ?_, ?_⟩
  · exact sI_ne (fun w => hm (by rw [w.2.2]; exact ha))
  · exact sI_ne (by omega)
  · exact sI_ne (fun w => h2 (by omega) w.2.2.symm)
  · exact sI_ne (fun w => h2 (by omega) w.2.2.symm)
theorem MT.pL {E : EE} {i F k a : Nat} {st : aS} {v : Int64} (hk : k = 29 ∨ k = 30) (ha : subP (eP E) i a) : MT E i F st (sL st k 0 a v) := by
  refine ⟨⟨rfl, fun _ _ _ _ _ => rfl, fun x y z p => sL_ne (by omega)⟩, fun m hm => ⟨fun _ _ _ => rfl, ?_, ?_⟩, fun g hg => ⟨fun _ _ _ => rfl, fun x h1 h2 => ?_⟩, rfl, rfl⟩
  · exact sL_ne (fun w => hm (by rw [w.2.2]; exact ha))
  · exact sL_ne (fun w => hm (by rw [w.2.2]; exact ha))
  · exact sL_ne (by omega)
/-- a frame's ints and longs, at F or above -/
theorem MT.fI {E : EE} {i F k g : Nat} {st : aS} {v : Int32} (hk : 37 ≤ k ∧ k ≤ 40) (hg : F ≤ g) : MT E i F st (sI st k 0 g v) := by
  refine ⟨⟨rfl, fun x y z p q => sI_ne (by omega), fun _ _ _ _ => rfl⟩, fun m hm => ⟨fun x h1 h2 => sI_ne (by omega), rfl, rfl⟩, fun g' hg' => ⟨fun x h1 h2 => sI_ne (by omega), fun _ _ _ => rfl⟩, sI_ne (by omega), sI_ne (by omega)⟩
theorem MT.fL {E : EE} {i F k g : Nat} {st : aS} {v : Int64} (hk : 41 ≤ k ∧ k ≤ 43) (hg : F ≤ g) : MT E i F st (sL st k 0 g v) := by
  refine ⟨⟨rfl, fun _ _ _ _ _ => rfl, fun x y z p => sL_ne (by omega)⟩, fun m hm => ⟨fun _ _ _ => rfl, sL_ne (by omega), sL_ne (by omega)⟩, fun g' hg' => ⟨fun _ _ _ => rfl, fun x h1 h2 => sL_ne (by omega)⟩, rfl, rfl⟩
/-- frames, tries -/
theorem MT.pT {E : EE} {i F j : Nat} {st : aS} {v : Int32} (hj : j = 38 ∨ j = 39) : MT E i F st (sI st 5 0 j v) := by
  refine ⟨⟨rfl, fun x y z p q => sI_ne (by omega), fun _ _ _ _ => rfl⟩, fun m hm => ⟨fun x h1 h2 => sI_ne (by omega), rfl, rfl⟩, fun g' hg' => ⟨fun x h1 h2 => sI_ne (by omega), fun _ _ _ => rfl⟩, sI_ne (by omega), sI_ne (by omega)⟩
theorem MT.of {E : EE} {i F : Nat} {st s' : aS} (h : MEq i st s') : MT E i F st s' := by
  refine ⟨⟨h.1, fun x y z p q => h.2.1 x y z (by omega), fun x y z p => h.2.2 x y z (by omega)⟩, fun m hm => ⟨fun x h1 h2 => h.2.1 x 0 m (fun w => hm (by rw [w.2.1]; exact subP_self)), h.2.2 29 0 m (by omega), h.2.2 30 0 m (fun w => hm (by rw [w.2.2]; exact subP_self))⟩, fun g hg => ⟨fun x h1 h2 => h.2.1 x 0 g (by omega), fun x h1 h2 => h.2.2 x 0 g (by omega)⟩, h.2.1 32 0 i (by omega), h.2.1 33 0 i (by omega)⟩
theorem mV.mv {st s' : aS} {i w : Nat} {vr : Nat → Nat} (h : mV st i w vr) (g : SM st s') : mV s' i w vr := ⟨(g.2.1 23 0 i (by omega) (by omega)).trans h.1, h.2.1, h.2.2.1, fun k hk => ⟨(g.2.1 24 0 _ (by omega) (by omega)).trans (h.2.2.2 k hk).1, (h.2.2.2 k hk).2⟩⟩
theorem TM.mv {E : EE} {st s' : aS} (h : TM E st) (g : SM st s') : TM E s' := by
  obtain ⟨h1, h2, h3, h4, h5⟩ := h
  refine ⟨h1, h2, fun j hj => by rw [g.1]; exact h3 j hj, ⟨(g.2.1 5 0 1 (by omega) (by omega)).trans h4.1, h4.2.1, fun p hp => ⟨(g.2.1 12 0 p (by omega) (by omega)).trans (h4.2.2 p hp).1, (h4.2.2 p hp).2.1, (g.2.1 13 0 p (by omega) (by omega)).trans (h4.2.2 p hp).2.2.1, (h4.2.2 p hp).2.2.2.1, fun m hm => (g.2.1 14 0 _ (by omega) (by omega)).trans ((h4.2.2 p hp).2.2.2.2 m hm)⟩⟩, fun i hi => ?_⟩
  obtain ⟨a1, a2, a3, a4, a5, a6, a7, a8⟩ := h5 i hi
  exact ⟨(g.2.1 15 0 i (by omega) (by omega)).trans a1, (g.2.1 18 0 i (by omega) (by omega)).trans a2, (g.2.1 19 0 i (by omega) (by omega)).trans a3, fun k p hk => (g.2.1 21 0 p (by omega) (by omega)).trans (a4 k p hk), a5.mv g, fun q => (g.2.1 22 0 i (by omega) (by omega)).trans (a6 q), (g.2.2 27 0 i (by omega)).trans a7, (g.2.2 28 0 i (by omega)).trans a8⟩
theorem MT.at {E : EE} (h : TR E) {i p F : Nat} {st s' : aS} (hi : i < eN E) (hp : p ∈ eK E i) (g : MT E p F st s') : (∀ a, 31 ≤ a → a ≤ 36 → s'.1 a 0 i = st.1 a 0 i) ∧ s'.2.1 29 0 i = st.2.1 29 0 i ∧ s'.2.1 30 0 i = st.2.1 30 0 i := g.2.1 i (h.nself hi hp)
theorem MT.up {E : EE} (h : TR E) {i p F G : Nat} {st s' : aS} (hi : i < eN E) (hp : p ∈ eK E i) (hFG : F ≤ G) (g : MT E p G st s') : MT E i F st s' := ⟨g.1, g.2.1.up (fun m q => h.sub hi hp q), g.2.2.1.less hFG, (g.at h hi hp).1 32 (by omega) (by omega), (g.at h hi hp).1 33 (by omega) (by omega)⟩
theorem MT.sib {E : EE} (h : TR E) {i p q m F : Nat} {st s' : aS} (hi : i < eN E) (hp : p ∈ eK E i) (hq : q ∈ eK E i) (hne : p ≠ q) (hm : subP (eP E) q m) (g : MT E p F st s') : (∀ a, 31 ≤ a → a ≤ 36 → s'.1 a 0 m = st.1 a 0 m) ∧ s'.2.1 29 0 m = st.2.1 29 0 m ∧ s'.2.1 30 0 m = st.2.1 30 0 m := g.2.1 m (fun z => h.apart hi hp hq hne z hm)
/-! what a try of the reference leaves -/
def gm (E : EE) (s' : aS) (L : List (Nat × Int64 × List Nat)) : Prop := ∀ q ∈ L, s'.2.1 29 0 q.1 = q.2.1 ∧ (3 < eS E q.1 → ∃ w m, eA E q.1 q.2.1 = some (w, m) ∧ s'.1 34 0 q.1 = w ∧ alk E q.1 q.2.1 w (s'.1 35 0 q.1)) ∧ (eS E q.1 = 0 → ∀ k p, q.2.2[k]? = some p → s'.1 33 0 p = nI k)
theorem gm.app {E : EE} {s' : aS} {A B : List (Nat × Int64 × List Nat)} (h : gm E s' A) (g : gm E s' B) : gm E s' (A ++ B) := fun q hq => (List.mem_append.mp hq).elim (h q) (g q)
theorem gm.cons {E : EE} {s' : aS} {q : Nat × Int64 × List Nat} {B : List (Nat × Int64 × List Nat)} (h1 : s'.2.1 29 0 q.1 = q.2.1) (h2 : 3 < eS E q.1 → ∃ w m, eA E q.1 q.2.1 = some (w, m) ∧ s'.1 34 0 q.1 = w ∧ alk E q.1 q.2.1 w (s'.1 35 0 q.1)) (h3 : eS E q.1 = 0 → ∀ k p, q.2.2[k]? = some p → s'.1 33 0 p = nI k) (g : gm E s' B) : gm E s' (q :: B) := fun z hz => (List.mem_cons.mp hz).elim (fun e => by rw [e]; exact ⟨h1, h2, h3⟩) (g z)
theorem gm.keep {E : EE} {st s' : aS} {L : List (Nat × Int64 × List Nat)} (h : gm E st L) (h1 : ∀ q ∈ L, s'.2.1 29 0 q.1 = st.2.1 29 0 q.1 ∧ s'.1 34 0 q.1 = st.1 34 0 q.1 ∧ s'.1 35 0 q.1 = st.1 35 0 q.1) (h2 : ∀ q ∈ L, ∀ p ∈ q.2.2, s'.1 33 0 p = st.1 33 0 p) : gm E s' L := by
  intro q hq
  obtain ⟨a, b, c⟩ := h q hq
  obtain ⟨e1, e2, e3⟩ := h1 q hq
  refine ⟨by rw [e1]; exact a, fun z => ?_, fun z k p hk => ?_⟩
  · obtain ⟨w, m, r1, r2, r3⟩ := b z
    exact ⟨w, m, r1, by rw [e2]; exact r2, by rw [e3]; exact r3⟩
  · rw [h2 q hq p (List.mem_of_getElem? hk)]
    exact c z k p hk
theorem gm.sib {E : EE} (hT : TR E) {i p q F : Nat} {S : Int64} {f : Nat} {st s' : aS} (hi : i < eN E) (hp : p ∈ eK E i) (hq : q ∈ eK E i) (hne : p ≠ q) (g : MT E p F st s') (h : gm E st (finF E f q S)) : gm E s' (finF E f q S) := by
  refine h.keep (fun z hz => ?_) (fun z hz r hr => ?_)
  · have h1 := g.sib hT hi hp hq hne (finF_sub hT f (hT.kid hi hq).1 z hz).1
    exact ⟨h1.2.1, h1.1 34 (by omega) (by omega), h1.1 35 (by omega) (by omega)⟩
  · exact (g.sib hT hi hp hq hne ((finF_sub hT f (hT.kid hi hq).1 z hz).2 r hr).1).1 33 (by omega) (by omega)
/-- following the blame from i leads to k -/
def blF (E : EE) (s' : aS) : Nat → Nat → Nat → Prop
  | 0, _, _ => False
  | f + 1, i, k => (3 < eS E i ∧ k = i) ∨ (eS E i ≤ 3 ∧ ((s'.1 36 0 i = -1 ∧ k = i) ∨ ∃ p, p ∈ eK E i ∧ s'.1 36 0 i = nI p ∧ blF E s' f p k))
theorem blF.keep {E : EE} (hT : TR E) {st s' : aS} : ∀ {f i k : Nat}, i < eN E → (∀ m, subP (eP E) i m → s'.1 36 0 m = st.1 36 0 m) → blF E st f i k → blF E s' f i k
  | 0, _, _, _, _, h => h
  | f + 1, i, k, hi, hk, h => by
    rcases h with h | ⟨h0, h | ⟨p, hp, h1, h2⟩⟩
    · exact Or.inl h
    · exact Or.inr ⟨h0, Or.inl ⟨(hk i subP_self).trans h.1, h.2⟩⟩
    · exact Or.inr ⟨h0, Or.inr ⟨p, hp, (hk i subP_self).trans h1, blF.keep hT (hT.kid hi hp).1 (fun m hm => hk m (hT.sub hi hp hm)) h2⟩⟩
/-- a try of the reference is through: back at F frames -/
def mQ (E : EE) (i : Nat) (S : Int64) (f t F : Nat) (st s' : aS) : Prop := MT E i F st s' ∧ s'.1 5 0 38 = nI F ∧ t + (tryF E f i S).2 ≤ 20000 ∧ s'.1 5 0 39 = nI (t + (tryF E f i S).2) ∧ (match (tryF E f i S).1 with
  | .inl B => s'.1 31 0 i = 1 ∧ s'.2.1 30 0 i = B ∧ s'.2.1 29 0 i = S ∧ gm E s' (finF E f i S)
  | .inr k => s'.1 31 0 i = 0 ∧ blF E s' f i k)
/-- tried: nothing more can be tried; an atom is through; another one has its frame -/
def tQ (E : EE) (i : Nat) (S : Int64) (t F : Nat) (st : aS) (v : Option aV) (s' : aS) : Prop := (t = 20000 ∧ v = some (vI 0) ∧ st = s') ∨ (t + 1 ≤ 20000 ∧ v = some (vI 1) ∧ ((3 < eS E i ∧ ∀ f, mQ E i S (f + 1) t F st s') ∨ (eS E i ≤ 3 ∧ MT E i F st s' ∧ s'.1 5 0 38 = nI (F + 1) ∧ s'.1 5 0 39 = nI (t + 1) ∧ s'.1 37 0 F = nI i ∧ s'.1 38 0 F = 0 ∧ s'.2.1 29 0 i = S ∧ s'.1 31 0 i = 0 ∧ s'.1 36 0 i = -1)))
theorem tQ_v {E : EE} {i t F : Nat} {S : Int64} {st s' : aS} {v : Option aV} (h : tQ E i S t F st v s') : ∃ b : Int32, v = some (vI b) ∧ (b = 0 ∨ b = 1) := by
  rcases h with ⟨-, h, -⟩ | ⟨-, h, -⟩
  · exact ⟨0, h, Or.inl rfl⟩
  · exact ⟨1, h, Or.inr rfl⟩
theorem tQ_atom {E : EE} {i t F : Nat} {S : Int64} {st s1 s' : aS} (h3 : 3 < eS E i) (h0 : MT E i F st s1) (hF : s1.1 5 0 38 = nI F) (ht : t + 1 ≤ 20000) (htr : s1.1 5 0 39 = nI (t + 1)) (hA : s1.2.1 29 0 i = S) (h : mAQ E i S s1 none s') : ∀ f, mQ E i S (f + 1) t F st s' := by
  intro f
  obtain ⟨-, h1, h2⟩ := h
  have e1 : tryF E (f + 1) i S = (match eA E i S with | some z => .inl (S ||| z.2) | none => .inr i, 1) := by
    conv => lhs; unfold tryF
    rw [if_neg (by omega), if_neg (by omega), if_neg (by omega), if_neg (by omega)]
    rfl
  have e2 : finF E (f + 1) i S = [(i, S, [])] := by
    conv => lhs; unfold finF
    rw [if_neg (by omega), if_neg (by omega), if_neg (by omega), if_neg (by omega)]
  unfold mQ
  rw [e1, e2]
  refine ⟨h0.tr (MT.of h1), (h1.2.1 5 0 38 (by omega)).trans hF, ht, (h1.2.1 5 0 39 (by omega)).trans htr, ?_⟩
  have hA' : s'.2.1 29 0 i = S := (h1.2.2 29 0 i (by omega)).trans hA
  cases hr : eA E i S with
  | none =>
    rw [hr] at h2
    exact ⟨h2, Or.inl ⟨h3, rfl⟩⟩
  | some z =>
    rw [hr] at h2
    exact ⟨h2.1, h2.2.2.1, hA', gm.cons hA' (fun _ => ⟨z.1, z.2, hr, h2.2.1, h2.2.2.2⟩) (fun q => by have q2 : eS E i = 0 := q; omega) (fun _ h => by cases h)⟩
