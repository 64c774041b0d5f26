/-! a row: what its loops keep -/
def RS (E : EE) (i : Nat) (ps : List Nat) (sc s' : aS) : Prop := TF E i sc s' ∧ (∀ q ∈ ps, s'.1 0 q 17 = 0 ∧ s'.2.2.1 0 q 19 = none) ∧ (∀ q, q ∉ ps → s'.1 0 q 17 = sc.1 0 q 17 ∧ s'.2.2.1 0 q 19 = sc.2.2.1 0 q 19) ∧ (∀ m j, j ≠ 17 → s'.1 0 m j = sc.1 0 m j) ∧ (∀ j, s'.1 3 0 j = sc.1 3 0 j) ∧ s'.2.1 = sc.2.1 ∧ ∀ m j, j ≠ 19 → s'.2.2.1 0 m j = sc.2.2.1 0 m j
theorem RS.nil {E : EE} {i : Nat} {sc : aS} : RS E i [] sc sc := ⟨TF.rf, fun _ h => (by cases h), fun _ _ => ⟨rfl, rfl⟩, fun _ _ _ => rfl, fun _ => rfl, rfl, fun _ _ _ => rfl⟩
theorem RS.cons {E : EE} (hT : TR E) {i p : Nat} {ps : List Nat} {sc s' : aS} (hi : i < eN E) (hp : p ∈ eK E i) (h : RS E i ps (sR (sI sc 0 p 17 0) 0 p 19 none) s') : RS E i (p :: ps) sc s' := by
  obtain ⟨h1, h2, h3, h4, h5, h6, h7⟩ := h
  have hip := (hT.kid hi hp).2.1
  refine ⟨((TF.pI (hT.sub hi hp subP_self) (Or.inr (Or.inr ⟨rfl, by omega⟩))).tr (TF.pR (hT.sub hi hp subP_self) (Or.inr ⟨rfl, by omega⟩))).tr h1, fun q hq => ?_, fun q hq => ?_, fun m j hj => (h4 m j hj).trans (sI_ne (by omega)), fun j => (h5 j).trans (show (sI sc 0 p 17 0).1 3 0 j = _ from sI_ne (by omega)), h6, fun m j hj => (h7 m j hj).trans (sR_ne (by omega))⟩
  · by_cases hq2 : q ∈ ps
    · exact h2 q hq2
    · have e : q = p := by
        rcases List.mem_cons.mp hq with e | e
        · exact e
        · exact absurd e hq2
      subst e
      exact ⟨(h3 q hq2).1.trans sI_eq, (h3 q hq2).2.trans sR_eq⟩
  · have hn : q ∉ ps := fun z => hq (List.mem_cons_of_mem _ z)
    have hne : q ≠ p := fun z => hq (by rw [z]; exact List.mem_cons_self)
    exact ⟨(h3 q hn).1.trans (sI_ne (fun z => hne z.2.1)), (h3 q hn).2.trans (sR_ne (fun z => hne z.2.1))⟩
def WI (E : EE) (i f : Nat) (od : List (Nat × Int64)) (S' : Int64) (sc : aS) : Prop := (∀ z ∈ od, z.1 ∈ eK E i ∧ ¬ sc.1 0 z.1 17 = 0) ∧ (od.map Prod.fst).Nodup ∧ dn sc i (od.map Prod.fst) ∧ (∀ q ∈ eK E i, sc.1 0 q 17 = 0 → sc.2.2.1 0 q 19 = none) ∧ gd E sc (od.flatMap fun q => finF E f q.1 q.2) ∧ od.length + (lf sc (eK E i)).length = (eK E i).length ∧ sc.2.1 0 i 14 = S'
def wQ (E : EE) (i f t : Nat) (sc : aS) (od : List (Nat × Int64)) (rem : List Nat) (S' : Int64) (v : Option aV) (s' : aS) : Prop :=
  (norm t (rowF (tryF E f) rem.length rem S').1.2 sc s' ∧ TF E i sc s' ∧ ((∃ B, (rowF (tryF E f) rem.length rem S').1.1 = .inl B ∧ v = some (vI 1) ∧ s'.2.1 0 i 14 = B ∧ s'.2.1 0 i 13 = sc.2.1 0 i 13 ∧ dn s' i ((od ++ (rowF (tryF E f) rem.length rem S').2).map Prod.fst) ∧ gd E s' ((od ++ (rowF (tryF E f) rem.length rem S').2).flatMap fun q => finF E f q.1 q.2)) ∨ (∃ k, (rowF (tryF E f) rem.length rem S').1.1 = .inr k ∧ v = some (vI 0) ∧ s'.1 0 i 16 = nI k)))
  ∨ (over t (rowF (tryF E f) rem.length rem S').1.2 v s' ∧ TF E i sc s')
theorem erase_filter {P Q : Nat → Bool} {z : Nat} : ∀ {L : List Nat}, L.Nodup → (∀ q ∈ L, q ≠ z → Q q = P q) → Q z = false → (L.filter P).erase z = L.filter Q
  | [], _, _, _ => rfl
  | a :: L, hn, h, hz => by
    have hn' := List.nodup_cons.mp hn
    have ih := erase_filter (P := P) (Q := Q) (z := z) hn'.2 (fun q hq => h q (List.mem_cons_of_mem _ hq)) hz
    by_cases e : a = z
    · subst e
      rw [List.filter_cons (p := Q), if_neg (by rw [hz]; decide)]
      have hL : L.filter P = L.filter Q := List.filter_congr (fun q hq => (h q (List.mem_cons_of_mem _ hq) (fun w => hn'.1 (by rw [← w]; exact hq))).symm)
      by_cases hp : P a = true
      · rw [List.filter_cons_of_pos hp, List.erase_cons_head, hL]
      · rw [List.filter_cons_of_neg hp, ← ih, List.erase_of_not_mem]
        exact fun w => hn'.1 (List.mem_filter.mp w).1
    · have ha := h a List.mem_cons_self e
      by_cases hp : P a = true
      · rw [List.filter_cons_of_pos hp, List.filter_cons_of_pos (by rw [ha]; exact hp), List.erase_cons_tail (by simpa using e), ih]
      · rw [List.filter_cons_of_neg hp, List.filter_cons_of_neg (by rw [ha]; exact hp), ih]
/-- one more part is done: the links are set, the next round begins -/
theorem WI_step {E : EE} (hT : TR E) {i f t p : Nat} {S' B : Int64} {sc s2 s3 : aS} {od : List (Nat × Int64)} (hi : i < eN E) (hW : WI E i f od S' sc) (hsc : (scanF (tryF E f) S' (lf sc (eK E i))).1 = some (p, B))
    (b1 : norm t (scanF (tryF E f) S' (lf sc (eK E i))).2 sc s2) (b2 : SE sc s2) (b3 : NF (dX E i (lf sc (eK E i))) sc s2) (b4 : ∀ q ∈ eK E i, s2.2.2.1 0 q 19 = sc.2.2.1 0 q 19) (b5 : ∀ j, s2.1 0 i j = sc.1 0 i j ∧ s2.2.2.1 0 i j = sc.2.2.1 0 i j ∧ (j ≠ 14 → s2.2.1 0 i j = sc.2.1 0 i j)) (c3 : s2.1 0 p 17 = 1) (c4 : s2.2.1 0 i 14 = B) (c5 : gd E s2 (finF E f p S')) (c6 : ∀ q ∈ eK E i, q ≠ p → s2.1 0 q 17 = sc.1 0 q 17)
    (h3 : (od = [] ∧ s3 = sR s2 0 i 18 (some p)) ∨ ∃ z, (od.map Prod.fst).getLast? = some z ∧ s3 = sR s2 0 z 19 (some p)) :
    WI E i f (od ++ [(p, S')]) B s3 ∧ TF E i sc s3 ∧ lf s3 (eK E i) = (lf sc (eK E i)).erase p ∧ (lf s3 (eK E i)).length + 1 = (lf sc (eK E i)).length ∧ s3.1 = s2.1 ∧ s3.2.1 = s2.2.1 := by
  obtain ⟨w1, w2, w3, w4, w5, w6, w7⟩ := hW
  have hpl := (scanF_mem hsc).1
  have hpk := (lf_mem.mp hpl).1
  have hp0 : sc.1 0 p 17 = 0 := (lf_mem.mp hpl).2
  have hip := (hT.kid hi hpk).2.1
  have hpo : p ∉ od.map Prod.fst := fun q => by
    obtain ⟨z, hz, e⟩ := List.mem_map.mp q
    exact (w1 z hz).2 (by rw [e]; exact hp0)
  have e31 : s3.1 = s2.1 := by
    rcases h3 with ⟨-, rfl⟩ | ⟨z, -, rfl⟩ <;> rfl
  have e32 : s3.2.1 = s2.2.1 := by
    rcases h3 with ⟨-, rfl⟩ | ⟨z, -, rfl⟩ <;> rfl
  have hzod : ∀ z, (od.map Prod.fst).getLast? = some z → z ∈ eK E i ∧ z ≠ p ∧ i < z ∧ ¬ sc.1 0 z 17 = 0 := by
    intro z hz
    have hm := List.mem_of_getLast? hz
    obtain ⟨y, hy, e⟩ := List.mem_map.mp hm
    have := w1 y hy
    rw [e] at this
    exact ⟨this.1, fun q => hpo (by rw [← q]; exact hm), (hT.kid hi this.1).2.1, this.2⟩
  have tf2 : TF E i sc s2 := ⟨b2, b3.up (fun m q => by
    rcases q with q | ⟨r, hr, q⟩
    · rw [q]; exact subP_self
    · exact hT.sub hi (lf_mem.mp hr).1 q), (b5 17).1, (b5 19).2.1⟩
  have tf3 : TF E i sc s3 := by
    rcases h3 with ⟨-, rfl⟩ | ⟨z, hz, rfl⟩
    · exact tf2.tr (TF.pR subP_self (Or.inl rfl))
    · have := hzod z hz
      exact tf2.tr (TF.pR (hT.sub hi this.1 subP_self) (Or.inr ⟨rfl, by omega⟩))
  have hlf : lf s3 (eK E i) = (lf sc (eK E i)).erase p := by
    unfold lf
    refine (erase_filter (hT.2.2 i hi).2.2.1 (fun q hq hne => ?_) ?_).symm
    · rw [e31, c6 q hq hne]
    · rw [e31, c3]; rfl
  have hlen : (lf s3 (eK E i)).length + 1 = (lf sc (eK E i)).length := by
    rw [hlf, List.length_erase_of_mem hpl]
    have := List.length_pos_of_mem hpl
    omega
  have keep2 : ∀ z ∈ od, ∀ m, subP (eP E) z.1 m → ∀ j, s2.1 0 m j = sc.1 0 m j ∧ s2.2.1 0 m j = sc.2.1 0 m j ∧ s2.2.2.1 0 m j = sc.2.2.1 0 m j := by
    intro z hz m hm j
    refine b3 m (fun q => ?_) j
    have hzk := (w1 z hz).1
    rcases q with q | ⟨r, hr, q⟩
    · subst q; exact hT.nself hi hzk hm
    · exact hT.apart hi hzk (lf_mem.mp hr).1 (fun w => (w1 z hz).2 (by rw [w]; exact (lf_mem.mp hr).2)) hm q
  have r19 : ∀ q, q ≠ i → (∀ z, (od.map Prod.fst).getLast? = some z → q ≠ z) → s3.2.2.1 0 q 19 = s2.2.2.1 0 q 19 := by
    intro q hqi hqz
    rcases h3 with ⟨-, rfl⟩ | ⟨z, hz, rfl⟩
    · exact sR_ne (by omega)
    · exact sR_ne (fun w => hqz z hz w.2.1)
  have r18 : ∀ q, q ≠ i → s3.2.2.1 0 q 18 = s2.2.2.1 0 q 18 := by
    intro q hqi
    rcases h3 with ⟨-, rfl⟩ | ⟨z, hz, rfl⟩
    · exact sR_ne (fun w => hqi w.2.1)
    · exact sR_ne (by omega)
  have gk : ∀ q S'', q ∈ eK E i → gd E s2 (finF E f q S'') → gd E s3 (finF E f q S'') := by
    intro q S'' hq h
    refine h.keep (fun z hz => ?_) (fun z hz r hr => ?_)
    · have h1 := subP_gt hT.2.1 (finF_sub hT f (hT.kid hi hq).1 z hz).1
      have := (hT.kid hi hq).2.1
      exact ⟨by rw [e32], by rw [e31], r18 _ (by omega)⟩
    · obtain ⟨h1, h2⟩ := (finF_sub hT f (hT.kid hi hq).1 z hz).2 r hr
      have := (hT.kid hi hq).2.1
      refine r19 r (by omega) (fun y hy e => ?_)
      have hyk := (hzod y hy).1
      subst e
      by_cases hqr : q = r
      · omega
      · exact hT.apart hi hq hyk hqr h1 subP_self
  refine ⟨⟨fun z hz => ?_, ?_, ?_, fun q hq hq0 => ?_, ?_, ?_, ?_⟩, tf3, hlf, hlen, e31, e32⟩
  · rcases List.mem_append.mp hz with hz | hz
    · refine ⟨(w1 z hz).1, ?_⟩
      rw [e31, c6 z.1 (w1 z hz).1 (fun q => hpo (by rw [← q]; exact List.mem_map.mpr ⟨z, hz, rfl⟩))]
      exact (w1 z hz).2
    · rw [List.mem_singleton] at hz
      subst hz
      exact ⟨hpk, by rw [e31, c3]; decide⟩
  · rw [List.map_append]
    refine List.nodup_append.mpr ⟨w2, by simp, fun a ha b hb e => ?_⟩
    simp at hb
    subst hb
    subst e
    exact hpo ha
  · rw [List.map_append]
    refine ⟨?_, fun k q hk => ?_⟩
    · rcases h3 with ⟨rfl, rfl⟩ | ⟨z, hz, rfl⟩
      · exact sR_eq
      · rw [sR_ne (by omega), (b5 18).2.1, w3.1]
        cases hod : od.map Prod.fst with
        | nil => rw [hod] at hz; cases hz
        | cons a l => rfl
    · by_cases hkl : k < (od.map Prod.fst).length
      · rw [List.getElem?_append_left hkl] at hk
        have hqo : q ∈ od.map Prod.fst := List.mem_of_getElem? hk
        obtain ⟨y, hy, hye⟩ := List.mem_map.mp hqo
        have hqk : q ∈ eK E i := by rw [← hye]; exact (w1 y hy).1
        have hqi := (hT.kid hi hqk).2.1
        have old : s2.2.2.1 0 q 19 = (od.map Prod.fst)[k + 1]? := by rw [b4 q hqk]; exact w3.2 k q hk
        by_cases hlast : k + 1 = (od.map Prod.fst).length
        · have hgl : (od.map Prod.fst).getLast? = some q := by
            rw [List.getLast?_eq_getElem?, ← hlast, Nat.add_sub_cancel]
            exact hk
          rw [List.getElem?_append_right (by omega), ← hlast, Nat.sub_self]
          rcases h3 with ⟨rfl, rfl⟩ | ⟨z, hz, rfl⟩
          · simp at hgl
          · rw [hgl] at hz
            cases hz
            exact sR_eq
        · rw [List.getElem?_append_left (by omega), ← old]
          refine r19 q (by omega) (fun z hz e => ?_)
          subst e
          rw [List.getLast?_eq_getElem?] at hz
          have := (List.getElem?_inj (by omega) w2).mp (hk.trans hz.symm)
          omega
      · rw [List.getElem?_append_right (by omega)] at hk
        have hk0 : k - (od.map Prod.fst).length = 0 := by
          have h9 : k - (od.map Prod.fst).length < 1 := (List.getElem?_eq_some_iff.mp hk).1
          omega
        rw [hk0] at hk
        cases hk
        rw [List.getElem?_append_right (by omega), show k + 1 - (od.map Prod.fst).length = 1 by omega]
        rw [r19 p (by omega) (fun z hz e => (hzod z hz).2.1 e.symm), b4 p hpk, w4 p hpk hp0]
        rfl
  · rw [e31] at hq0
    have hne : q ≠ p := fun e => by rw [e, c3] at hq0; exact absurd hq0 (by decide)
    have hqi := (hT.kid hi hq).2.1
    have h0 : sc.1 0 q 17 = 0 := by rw [← c6 q hq hne]; exact hq0
    rw [r19 q (by omega) (fun z hz e => (hzod z hz).2.2.2 (by rw [← e]; exact h0)), b4 q hq]
    exact w4 q hq h0
  · rw [List.flatMap_append]
    refine gd.app (fun y hy => ?_) ?_
    · obtain ⟨z, hz, hy⟩ := List.mem_flatMap.mp hy
      have hzk := (w1 z hz).1
      have g1 : gd E sc (finF E f z.1 z.2) := fun x hx => w5 x (List.mem_flatMap.mpr ⟨z, hz, hx⟩)
      have g2 : gd E s2 (finF E f z.1 z.2) := g1.keep (fun x hx => by
        have h1 := (finF_sub hT f (hT.kid hi hzk).1 x hx).1
        exact ⟨(keep2 z hz _ h1 13).2.1, (keep2 z hz _ h1 15).1, (keep2 z hz _ h1 18).2.2⟩) (fun x hx r hr => (keep2 z hz r ((finF_sub hT f (hT.kid hi hzk).1 x hx).2 r hr).1 19).2.2)
      exact gk z.1 z.2 hzk g2 y hy
    · rw [List.flatMap_cons, List.flatMap_nil, List.append_nil]
      exact gk p S' hpk c5
  · rw [List.length_append, List.length_singleton]
    omega
  · rw [e32]; exact c4
/-- behind one more part: the rest of the row's answer is the row's answer -/
theorem wQ_step {E : EE} {i f t p : Nat} {S' B : Int64} {sc s3 s' : aS} {od : List (Nat × Int64)} {rem : List Nat} {v : Option aV} (hsc : (scanF (tryF E f) S' rem).1 = some (p, B)) (hpm : p ∈ rem) (b1 : norm t (scanF (tryF E f) S' rem).2 sc s3) (tf : TF E i sc s3) (h13 : s3.2.1 0 i 13 = sc.2.1 0 i 13)
    (h : wQ E i f (t + (scanF (tryF E f) S' rem).2) s3 (od ++ [(p, S')]) (rem.erase p) B v s') : wQ E i f t sc od rem S' v s' := by
  have hlen : rem.length = (rem.erase p).length + 1 := by
    rw [List.length_erase_of_mem hpm]
    have := List.length_pos_of_mem hpm
    omega
  have hr : rowF (tryF E f) rem.length rem S' = (((rowF (tryF E f) (rem.erase p).length (rem.erase p) B).1.1, (scanF (tryF E f) S' rem).2 + (rowF (tryF E f) (rem.erase p).length (rem.erase p) B).1.2), (p, S') :: (rowF (tryF E f) (rem.erase p).length (rem.erase p) B).2) := by
    rw [hlen]
    cases rem with
    | nil => cases hpm
    | cons q qs =>
      conv => lhs; unfold rowF
      rw [hsc]
  unfold wQ
  rw [hr]
  rcases h with ⟨a1, a2, a3⟩ | ⟨a1, a2⟩
  · refine Or.inl ⟨⟨by rw [← Nat.add_assoc]; exact a1.1, by rw [← Nat.add_assoc]; exact a1.2.1, a1.2.2.trans b1.2.2⟩, tf.tr a2, ?_⟩
    rcases a3 with ⟨B', d1, d2, d3, d4, d5, d6⟩ | ⟨k, d1, d2, d3⟩
    · rw [List.append_assoc, List.singleton_append] at d5 d6
      exact Or.inl ⟨B', d1, d2, d3, d4.trans h13, d5, d6⟩
    · exact Or.inr ⟨k, d1, d2, d3⟩
  · exact Or.inr ⟨⟨by have := a1.1; show 20000 < t + (_ + _); omega, a1.2⟩, tf.tr a2⟩
theorem wQ_end {E : EE} {i f t : Nat} {S' : Int64} {sc : aS} {od : List (Nat × Int64)} (hW : WI E i f od S' sc) (ht : t ≤ 20000) (htr : sc.1 3 0 2 = nI t) (h0 : lf sc (eK E i) = []) : wQ E i f t sc od (lf sc (eK E i)) S' (some (vI 1)) sc := by
  rw [h0]
  refine Or.inl ⟨⟨ht, htr, rfl⟩, TF.rf, Or.inl ⟨S', rfl, rfl, hW.2.2.2.2.2.2, rfl, ?_, ?_⟩⟩
  · show dn sc i ((od ++ []).map Prod.fst)
    rw [List.append_nil]; exact hW.2.2.1
  · show gd E sc ((od ++ []).flatMap _)
    rw [List.append_nil]; exact hW.2.2.2.2.1
theorem wQ_none {E : EE} (hT : TR E) {i f t : Nat} {S' : Int64} {sc s2 : aS} {od : List (Nat × Int64)} {x : Int32} (hi : i < eN E) (hne : lf sc (eK E i) ≠ []) (hq : dQ E i S' f t sc (eK E i) (some (vR none)) s2) (hx : ∀ q r, lf s2 (eK E i) = q :: r → x = s2.1 0 q 16) : wQ E i f t sc od (lf sc (eK E i)) S' (some (vI 0)) (sI s2 0 i 16 x) := by
  have pt : TF E i s2 (sI s2 0 i 16 x) := TF.pI subP_self (Or.inr (Or.inl rfl))
  rcases hq with ⟨b1, b2, b3, b4, b5, b6⟩ | ⟨b1, b2, b3, b4, b5⟩
  · rcases b6 with ⟨z, c1, c2, -⟩ | ⟨c1, c2, c3, c4, c5⟩
    · simp at c2
    · cases hL : lf sc (eK E i) with
      | nil => exact absurd hL hne
      | cons q r =>
        have hr : rowF (tryF E f) (q :: r).length (q :: r) S' = ((.inr (stk (tryF E f q S').1 q), (scanF (tryF E f) S' (q :: r)).2), []) := by
          rw [List.length_cons]
          conv => lhs; unfold rowF
          rw [← hL, c1]
        have hl2 : lf s2 (eK E i) = q :: r := by rw [lf_congr c4, hL]
        have tf : TF E i sc s2 := ⟨b2, b3.up (fun m w => by
          rcases w with w | ⟨y, hy, w⟩
          · rw [w]; exact subP_self
          · exact hT.sub hi (lf_mem.mp hy).1 w), (b5 17).1, (b5 19).2.1⟩
        unfold wQ
        rw [hr]
        rw [hL] at b1
        refine Or.inl ⟨⟨b1.1, (sI_ne (by omega)).trans b1.2.1, (sI_ne (by omega)).trans b1.2.2⟩, tf.tr pt, Or.inr ⟨_, rfl, rfl, ?_⟩⟩
        rw [sI_eq, hx q r hl2]
        exact c5 q r hL
  · refine Or.inr ⟨⟨?_, (sI_ne (by omega)).trans b2, (sI_ne (by omega)).trans b3, rfl⟩, b5.tr pt⟩
    cases hL : lf sc (eK E i) with
    | nil => exact absurd hL hne
    | cons q r =>
      rw [hL] at b1
      rw [List.length_cons]
      conv => rhs; rhs; unfold rowF
      split
      · show 20000 < t + (_ + _)
        omega
      · exact b1
theorem dQ_v {E : EE} {i f t : Nat} {S : Int64} {sc s' : aS} {ps : List Nat} {v : Option aV} (h : dQ E i S f t sc ps v s') : (∃ x, v = some (vR x)) ∧ SE sc s' ∧ TF E i sc s' ∨ (∃ x, v = some (vR x)) ∧ SE sc s' := by
  rcases h with ⟨-, b2, -, -, -, ⟨z, -, e, -⟩ | ⟨-, e, -⟩⟩ | ⟨-, -, -, e, tf⟩
  · exact Or.inr ⟨⟨_, e⟩, b2⟩
  · exact Or.inr ⟨⟨_, e⟩, b2⟩
  · exact Or.inl ⟨⟨_, e⟩, tf.1, tf⟩
theorem dQ_x {E : EE} {i f t : Nat} {S : Int64} {sc s' : aS} {ps : List Nat} {v : Option aV} (h : dQ E i S f t sc ps v s') : (∃ x, v = some (vR x)) ∧ SE sc s' := by
  rcases dQ_v h with h | h
  · exact ⟨h.1, h.2.1⟩
  · exact h
theorem dQ_some {E : EE} {i f t : Nat} {S : Int64} {sc s2 : aS} {ps : List Nat} {q : Nat × Nat} (h : dQ E i S f t sc ps (some (vR (some q))) s2) : ∃ p B, q = (0, p) ∧ (scanF (tryF E f) S (lf sc ps)).1 = some (p, B) ∧ norm t (scanF (tryF E f) S (lf sc ps)).2 sc s2 ∧ SE sc s2 ∧ NF (dX E i (lf sc ps)) sc s2 ∧ (∀ q ∈ eK E i, s2.2.2.1 0 q 19 = sc.2.2.1 0 q 19) ∧ (∀ j, s2.1 0 i j = sc.1 0 i j ∧ s2.2.2.1 0 i j = sc.2.2.1 0 i j ∧ (j ≠ 14 → s2.2.1 0 i j = sc.2.1 0 i j)) ∧ s2.1 0 p 17 = 1 ∧ s2.2.1 0 i 14 = B ∧ gd E s2 (finF E f p S) ∧ ∀ q ∈ eK E i, q ≠ p → s2.1 0 q 17 = sc.1 0 q 17 := by
  rcases h with ⟨b1, b2, b3, b4, b5, ⟨z, c1, c2, c3, c4, c5, c6⟩ | ⟨-, e, -⟩⟩ | ⟨-, -, -, e, -⟩
  · have e : q = (0, z.1) := by simpa using c2
    exact ⟨z.1, z.2, e, c1, b1, b2, b3, b4, b5, c3, c4, c5, c6⟩
  · simp at e
  · simp at e
theorem wQ_cQ {E : EE} {i f t : Nat} {S : Int64} {st s1 s' : aS} {v : Option aV} (hs : eS E i = 0) (tf : TF E i st s1) (h13 : s1.2.1 0 i 13 = S) (ho : s1.1 3 0 3 = st.1 3 0 3) (h : wQ E i f (t + 1) s1 [] (eK E i) S v s') : cQ E i S (f + 1) t st v s' := by
  have e1 : tryF E (f + 1) i S = ((rowF (tryF E f) (eK E i).length (eK E i) S).1.1, 1 + (rowF (tryF E f) (eK E i).length (eK E i) S).1.2) := by
    conv => lhs; unfold tryF
    rw [if_pos hs]
  have e2 : finF E (f + 1) i S = (i, S, (rowF (tryF E f) (eK E i).length (eK E i) S).2.map Prod.fst) :: (rowF (tryF E f) (eK E i).length (eK E i) S).2.flatMap (fun q => finF E f q.1 q.2) := by
    conv => lhs; unfold finF
    rw [if_pos hs]
  unfold cQ rQ
  rw [e1, e2]
  rcases h with ⟨a1, a2, a3⟩ | ⟨a1, a2⟩
  · refine ⟨tf.tr a2, Or.inl ⟨⟨by have := a1.1; show t + (1 + _) ≤ _; omega, by rw [a1.2.1, Nat.add_assoc], a1.2.2.trans ho⟩, ?_⟩⟩
    rcases a3 with ⟨B, d1, d2, d3, d4, d5, d6⟩ | ⟨k, d1, d2, d3⟩
    · show match (rowF (tryF E f) (eK E i).length (eK E i) S).1.1 with | .inl B => _ | .inr k => _
      rw [d1]
      rw [List.nil_append] at d5 d6
      exact ⟨d2, d3, d4.trans h13, gd.cons (d4.trans h13) (fun z => by rw [hs] at z; omega) (fun _ => d5) d6⟩
    · show match (rowF (tryF E f) (eK E i).length (eK E i) S).1.1 with | .inl B => _ | .inr k => _
      rw [d1]
      exact ⟨d2, d3⟩
  · exact ⟨tf.tr a2, Or.inr ⟨by have := a1.1; show 20000 < t + (1 + _); omega, a1.2⟩⟩
theorem nodup_len : ∀ (n : Nat) (L : List Nat), L.Nodup → (∀ p ∈ L, p < n) → L.length ≤ n
  | 0, L, _, h => by
    cases L with
    | nil => exact Nat.le_refl _
    | cons a r => exact absurd (h a List.mem_cons_self) (Nat.not_lt_zero _)
  | n + 1, L, hn, h => by
    have h1 := nodup_len n (L.erase n) (hn.erase n) (fun p hp => by
      have h2 := h p (List.mem_of_mem_erase hp)
      have h3 : p ≠ n := fun e => by subst e; exact hn.not_mem_erase hp
      omega)
    by_cases hm : n ∈ L
    · rw [List.length_erase_of_mem hm] at h1
      omega
    · rw [List.erase_of_not_mem hm] at h1
      omega
theorem eK_len {E : EE} (hT : TR E) {i : Nat} (hi : i < eN E) : (eK E i).length ≤ 250 := Nat.le_trans (nodup_len (eN E) _ (hT.2.2 i hi).2.2.1 (fun p hp => (hT.kid hi hp).1)) hT.1
