/-! what stays over a try -/
theorem nV.mv {st s' : aS} {i w : Nat} {vr : Nat → Nat} (h : nV st i w vr) (g : SE st s') : nV s' i w vr := ⟨(g.2.1 0 i 2 (by decide) (by decide)).trans h.1, h.2.1, (g.2.2.2 0 i 1 (by decide)).trans h.2.2.1, fun k hk => ⟨(g.2.1 6 i k (by omega) (by omega)).trans (h.2.2.2 k hk).1, (h.2.2.2 k hk).2⟩⟩
theorem pR.mv {st s' : aS} {np : Nat} {ar md : Nat → Nat} {ou : Nat → Nat → Int32} (h : pR st np ar md ou) (g : SE st s') : pR s' np ar md ou := by
  obtain ⟨h1, h2, h3, h4, h5, h6, h7, h8⟩ := h
  refine ⟨(g.2.2.2 1 0 0 (by decide)).trans h1, (g.2.2.2 1 0 1 (by decide)).trans h2, (g.2.2.2 1 0 2 (by decide)).trans h3, (g.2.1 1 0 3 (by decide) (by decide)).trans h4, h5, fun p hp => ⟨(g.2.1 7 0 p (by omega) (by omega)).trans (h6 p hp).1, (h6 p hp).2.1, (g.2.1 8 0 p (by omega) (by omega)).trans (h6 p hp).2.2.1, (h6 p hp).2.2.2⟩, fun p m hp hm => (g.2.1 9 0 _ (by omega) (by omega)).trans (h7 p m hp hm), fun p hp hq => (g.2.1 8 0 p (by omega) (by omega)).trans (h8 p hp hq)⟩
theorem TC.mv {E : EE} {st s' : aS} (h : TC E st) (g : SE st s') : TC E s' := by
  obtain ⟨h1, h2, h3, h4⟩ := h
  refine ⟨h1, h2.mv g, (g.2.2.2 3 0 0 (by decide)).trans h3, fun i hi => ?_⟩
  obtain ⟨a1, a2, a3, a4, a5, a6, a7, a8, a9⟩ := h4 i hi
  refine ⟨(g.2.1 0 i 0 (by decide) (by decide)).trans a1, (g.2.1 0 i 3 (by decide) (by decide)).trans a2, (g.2.1 0 i 6 (by decide) (by decide)).trans a3, (g.2.2.2 0 i 8 (by decide)).trans a4, fun k p hk => (g.2.2.2 0 p 10 (by decide)).trans (a5 k p hk), (g.2.2.1 0 i 11 (by decide)).trans a6, ?_, a8.mv g, fun q => (g.2.1 0 i 4 (by decide) (by decide)).trans (a9 q)⟩
  rw [g.2.2.1 0 i 12 (by decide), g.2.2.1 3 0 1 (by decide)]
  exact a7
theorem TF.pI {E : EE} {i a j : Nat} {st : aS} {v : Int32} (ha : subP (eP E) i a) (hj : j = 15 ∨ j = 16 ∨ (j = 17 ∧ a ≠ i)) : TF E i st (sI st 0 a j v) := by
  refine ⟨⟨rfl, fun k b c x y => ?_, fun _ _ _ _ => rfl, fun _ _ _ _ => rfl⟩, fun m hm c => ⟨?_, rfl, rfl⟩, ?_, rfl⟩
  · show u3 _ _ _ _ _ k b c = _
    unfold u3
    rw [if_neg (fun q => x ⟨q.1, by omega⟩)]
  · show u3 _ _ _ _ _ 0 m c = _
    unfold u3
    rw [if_neg (fun q => hm (by rw [q.2.1]; exact ha))]
  · show u3 _ _ _ _ _ 0 i 17 = _
    unfold u3
    rw [if_neg (fun q => by omega)]
theorem TF.pT {E : EE} {i j : Nat} {st : aS} {v : Int32} (hj : j = 2 ∨ j = 3) : TF E i st (sI st 3 0 j v) := by
  refine ⟨⟨rfl, fun k b c x y => ?_, fun _ _ _ _ => rfl, fun _ _ _ _ => rfl⟩, fun m hm c => ⟨?_, rfl, rfl⟩, ?_, rfl⟩
  · show u3 st.1 3 0 j v k b c = _
    unfold u3
    rw [if_neg (fun q => y ⟨q.1, by omega⟩)]
  · show u3 st.1 3 0 j v 0 m c = _
    unfold u3
    rw [if_neg (fun q => by omega)]
  · show u3 st.1 3 0 j v 0 i 17 = _
    unfold u3
    rw [if_neg (fun q => by omega)]
theorem TF.pL {E : EE} {i a j : Nat} {st : aS} {v : Int64} (ha : subP (eP E) i a) (hj : j = 13 ∨ j = 14) : TF E i st (sL st 0 a j v) := by
  refine ⟨⟨rfl, fun _ _ _ _ _ => rfl, fun k b c x => ?_, fun _ _ _ _ => rfl⟩, fun m hm c => ⟨rfl, ?_, rfl⟩, rfl, rfl⟩
  · show u3 _ _ _ _ _ k b c = _
    unfold u3
    rw [if_neg (fun q => x ⟨q.1, by omega⟩)]
  · show u3 _ _ _ _ _ 0 m c = _
    unfold u3
    rw [if_neg (fun q => hm (by rw [q.2.1]; exact ha))]
theorem TF.pR {E : EE} {i a j : Nat} {st : aS} {v : Option Nat} (ha : subP (eP E) i a) (hj : j = 18 ∨ (j = 19 ∧ a ≠ i)) : TF E i st (sR st 0 a j v) := by
  refine ⟨⟨rfl, fun _ _ _ _ _ => rfl, fun _ _ _ _ => rfl, fun k b c x => ?_⟩, fun m hm c => ⟨rfl, rfl, ?_⟩, rfl, ?_⟩
  · show u3 _ _ _ _ _ k b c = _
    unfold u3
    rw [if_neg (fun q => x ⟨q.1, by omega⟩)]
  · show u3 _ _ _ _ _ 0 m c = _
    unfold u3
    rw [if_neg (fun q => hm (by rw [q.2.1]; exact ha))]
  · show u3 _ _ _ _ _ 0 i 19 = _
    unfold u3
    rw [if_neg (fun q => by omega)]
theorem TR.kid {E : EE} (h : TR E) {i p : Nat} (hi : i < eN E) (hp : p ∈ eK E i) : p < eN E ∧ i < p ∧ eP E p = i ∧ eD E p = eD E i + 1 := (h.2.2 i hi).2.2.2.1 p hp
theorem TR.sub {E : EE} (h : TR E) {i p m : Nat} (hi : i < eN E) (hp : p ∈ eK E i) (hs : subP (eP E) p m) : subP (eP E) i m := subP_up (h.kid hi hp).2.2.1 hs
theorem TR.nself {E : EE} (h : TR E) {i p : Nat} (hi : i < eN E) (hp : p ∈ eK E i) : ¬ subP (eP E) p i := fun q => by
  have := subP_gt h.2.1 q
  have := (h.kid hi hp).2.1
  omega
theorem TR.apart {E : EE} (h : TR E) {i p q m : Nat} (hi : i < eN E) (hp : p ∈ eK E i) (hq : q ∈ eK E i) (hne : p ≠ q) (h1 : subP (eP E) p m) (h2 : subP (eP E) q m) : False := subP_apart h.2.1 (h.kid hi hp).2.2.1 (h.kid hi hq).2.2.1 (h.kid hi hp).2.1 (h.kid hi hq).2.1 hne h1 h2
theorem TF.at {E : EE} (h : TR E) {i p : Nat} {st s' : aS} (hi : i < eN E) (hp : p ∈ eK E i) (g : TF E p st s') (j : Nat) : s'.1 0 i j = st.1 0 i j ∧ s'.2.1 0 i j = st.2.1 0 i j ∧ s'.2.2.1 0 i j = st.2.2.1 0 i j := g.2.1 i (h.nself hi hp) j
theorem TF.up {E : EE} (h : TR E) {i p : Nat} {st s' : aS} (hi : i < eN E) (hp : p ∈ eK E i) (g : TF E p st s') : TF E i st s' := ⟨g.1, g.2.1.up (fun m q => h.sub hi hp q), (g.at h hi hp 17).1, (g.at h hi hp 19).2.2⟩
theorem TF.sib {E : EE} (h : TR E) {i p q m : Nat} {st s' : aS} (hi : i < eN E) (hp : p ∈ eK E i) (hq : q ∈ eK E i) (hne : p ≠ q) (hm : subP (eP E) q m) (g : TF E p st s') (j : Nat) : s'.1 0 m j = st.1 0 m j ∧ s'.2.1 0 m j = st.2.1 0 m j ∧ s'.2.2.1 0 m j = st.2.2.1 0 m j := g.2.1 m (fun z => h.apart hi hp hq hne z hm) j
/-! what a done try leaves -/
def dn (s' : aS) (m : Nat) (ord : List Nat) : Prop := s'.2.2.1 0 m 18 = ord.head? ∧ ∀ k p, ord[k]? = some p → s'.2.2.1 0 p 19 = ord[k + 1]?
def gd (E : EE) (s' : aS) (L : List (Nat × Int64 × List Nat)) : Prop := ∀ q ∈ L, s'.2.1 0 q.1 13 = q.2.1 ∧ (3 < eS E q.1 → ∃ w m, eA E q.1 q.2.1 = some (w, m) ∧ s'.1 0 q.1 15 = w) ∧ (eS E q.1 = 0 → dn s' q.1 q.2.2)
theorem gd.app {E : EE} {s' : aS} {A B : List (Nat × Int64 × List Nat)} (h : gd E s' A) (g : gd E s' B) : gd E s' (A ++ B) := fun q hq => (List.mem_append.mp hq).elim (h q) (g q)
theorem gd.cons {E : EE} {s' : aS} {q : Nat × Int64 × List Nat} {B : List (Nat × Int64 × List Nat)} (h1 : s'.2.1 0 q.1 13 = q.2.1) (h2 : 3 < eS E q.1 → ∃ w m, eA E q.1 q.2.1 = some (w, m) ∧ s'.1 0 q.1 15 = w) (h3 : eS E q.1 = 0 → dn s' q.1 q.2.2) (g : gd E s' B) : gd E s' (q :: B) := fun z hz => (List.mem_cons.mp hz).elim (fun e => by rw [e]; exact ⟨h1, h2, h3⟩) (g z)
theorem gd.keep {E : EE} {st s' : aS} {L : List (Nat × Int64 × List Nat)} (h : gd E st L) (h1 : ∀ q ∈ L, s'.2.1 0 q.1 13 = st.2.1 0 q.1 13 ∧ s'.1 0 q.1 15 = st.1 0 q.1 15 ∧ s'.2.2.1 0 q.1 18 = st.2.2.1 0 q.1 18) (h2 : ∀ q ∈ L, ∀ p ∈ q.2.2, s'.2.2.1 0 p 19 = st.2.2.1 0 p 19) : gd E s' L := by
  intro q hq
  obtain ⟨a, b, c⟩ := h q hq
  obtain ⟨e1, e2, e3⟩ := h1 q hq
  refine ⟨by rw [e1]; exact a, fun z => ?_, fun z => ⟨by rw [e3]; exact (c z).1, fun k p hk => ?_⟩⟩
  · obtain ⟨w, m, r1, r2⟩ := b z
    exact ⟨w, m, r1, by rw [e2]; exact r2⟩
  · rw [h2 q hq p (List.mem_of_getElem? hk)]
    exact (c z).2 k p hk
theorem scanF_mem {f : Nat → Int64 → RR} {S : Int64} : ∀ {rem : List Nat} {z : Nat × Int64}, (scanF f S rem).1 = some z → z.1 ∈ rem ∧ (f z.1 S).1 = .inl z.2
  | [], z, h => by simp [scanF] at h
  | p :: ps, z, h => by
    unfold scanF at h
    split at h
    · next B hB => cases h; exact ⟨List.mem_cons_self, hB⟩
    · have := scanF_mem (rem := ps) h
      exact ⟨List.mem_cons_of_mem _ this.1, this.2⟩
theorem rowF_mem {f : Nat → Int64 → RR} : ∀ {n : Nat} {rem : List Nat} {S : Int64} {z : Nat × Int64}, z ∈ (rowF f n rem S).2 → z.1 ∈ rem ∧ ∃ B, (f z.1 z.2).1 = .inl B
  | 0, _, _, _, h => by simp [rowF] at h
  | _ + 1, [], _, _, h => by simp [rowF] at h
  | n + 1, q :: qs, S, z, h => by
    unfold rowF at h
    split at h
    · next y hy =>
      rcases List.mem_cons.mp h with rfl | h
      · exact ⟨(scanF_mem hy).1, y.2, (scanF_mem hy).2⟩
      · have := rowF_mem h
        exact ⟨List.mem_of_mem_erase this.1, this.2⟩
    · cases h
theorem finF_sub {E : EE} (hT : TR E) : ∀ (f : Nat) {i : Nat} {S : Int64}, i < eN E → ∀ q ∈ finF E f i S, subP (eP E) i q.1 ∧ ∀ p ∈ q.2.2, subP (eP E) i p ∧ i < p
  | 0, _, _, _, q, hq => by simp [finF] at hq
  | f + 1, i, S, hi, q, hq => by
    have kid : ∀ {p : Nat} {S' : Int64}, p ∈ eK E i → q ∈ finF E f p S' → subP (eP E) i q.1 ∧ ∀ p ∈ q.2.2, subP (eP E) i p ∧ i < p := by
      intro p S' hp h
      have h1 := finF_sub hT f (hT.kid hi hp).1 q h
      exact ⟨hT.sub hi hp h1.1, fun r hr => ⟨hT.sub hi hp (h1.2 r hr).1, Nat.lt_trans (hT.kid hi hp).2.1 (h1.2 r hr).2⟩⟩
    unfold finF at hq
    split at hq
    · rcases List.mem_cons.mp hq with rfl | h
      · refine ⟨subP_self, fun p hp => ?_⟩
        obtain ⟨z, hz, rfl⟩ := List.mem_map.mp hp
        have hk := (rowF_mem hz).1
        exact ⟨hT.sub hi hk subP_self, (hT.kid hi hk).2.1⟩
      · obtain ⟨z, hz, h⟩ := List.mem_flatMap.mp h
        exact kid (rowF_mem hz).1 h
    · split at hq
      · rcases List.mem_cons.mp hq with rfl | h
        · exact ⟨subP_self, fun p hp => by cases hp⟩
        · obtain ⟨z, hz, h⟩ := List.mem_flatMap.mp h
          exact kid hz h
      · split at hq
        · rcases List.mem_cons.mp hq with rfl | h
          · exact ⟨subP_self, fun p hp => by cases hp⟩
          · split at h
            · cases h
            · next p ps hk => exact kid (by rw [hk]; exact List.mem_cons_self) h
        · split at hq
          · rcases List.mem_cons.mp hq with rfl | h
            · exact ⟨subP_self, fun p hp => by cases hp⟩
            · split at h
              · next a b c r hk =>
                split at h
                · rcases List.mem_append.mp h with h | h
                  · rcases List.mem_append.mp h with h | h
                    · exact kid (by rw [hk]; simp) h
                    · exact kid (by rw [hk]; simp) h
                  · exact kid (by rw [hk]; simp) h
                · cases h
              · cases h
          · rw [List.mem_singleton] at hq
            subst hq
            exact ⟨subP_self, fun p hp => by cases hp⟩
/-- the data of a part stays while its siblings are tried -/
theorem gd.sib {E : EE} (hT : TR E) {i p q : Nat} {S : Int64} {f : Nat} {st s' : aS} (hi : i < eN E) (hp : p ∈ eK E i) (hq : q ∈ eK E i) (hne : p ≠ q) (g : TF E p st s') (h : gd E st (finF E f q S)) : gd E s' (finF E f q S) := by
  refine h.keep (fun z hz => ?_) (fun z hz r hr => ?_)
  · have h1 := (finF_sub hT f (hT.kid hi hq).1 z hz).1
    exact ⟨(g.sib hT hi hp hq hne h1 13).2.1, (g.sib hT hi hp hq hne h1 15).1, (g.sib hT hi hp hq hne h1 18).2.2⟩
  · exact (g.sib hT hi hp hq hne ((finF_sub hT f (hT.kid hi hq).1 z hz).2 r hr).1 19).2.2
