
/-! THE MACHINE OVER AN ABSTRACT HEAP. A value is an int, a long, or a reference (kind, number); a state is (ints, longs, references, how many of a kind there are). -/
def jm_c (ad : Nat → Nat → Nat) (v : aV) : Value := match v with
  | .inl x => .int x
  | .inr (.inl y) => .long y
  | .inr (.inr r) => va_rf (r.map fun q => ad q.1 q.2)
def jm_cat (v : aV) : Nat := match v with
  | .inr (.inl _) => 2
  | _ => 1
theorem jm_cat_c (ad : Nat → Nat → Nat) (v : aV) : (jm_c ad v).category = jm_cat v := by
  rcases v with x | y | r
  · rfl
  · rfl
  · cases r <;> rfl
def jm_ok (al : Nat → Nat) (v : aV) : Prop := match v with
  | .inr (.inr (some q)) => q.2 < al q.1
  | _ => True
def jm_ext (al : Nat → Nat) (ad ad' : Nat → Nat → Nat) : Prop := ∀ k i, i < al k → ad' k i = ad k i
theorem jm_ok_mono {al al' : Nat → Nat} (h : ∀ k, al k ≤ al' k) {v : aV} (hv : jm_ok al v) : jm_ok al' v := by
  rcases v with x | y | r
  · trivial
  · trivial
  · cases r with
    | none => trivial
    | some q => exact Nat.lt_of_lt_of_le hv (h q.1)
theorem jm_c_ext {al : Nat → Nat} {ad ad' : Nat → Nat → Nat} (h : jm_ext al ad ad') {v : aV} (hv : jm_ok al v) : jm_c ad' v = jm_c ad v := by
  rcases v with x | y | r
  · rfl
  · rfl
  · cases r with
    | none => rfl
    | some q => show va_rf (some (ad' q.1 q.2)) = va_rf (some (ad q.1 q.2)); rw [h q.1 q.2 hv]
def jm_okS (al : Nat → Nat) : List aV → Prop
  | [] => True
  | v :: r => jm_ok al v ∧ jm_okS al r
theorem jm_okS_mono {al al' : Nat → Nat} (h : ∀ k, al k ≤ al' k) : ∀ {sk : List aV}, jm_okS al sk → jm_okS al' sk
  | [], _ => trivial
  | _ :: _, hv => ⟨jm_ok_mono h hv.1, jm_okS_mono h hv.2⟩
theorem jm_map_ext {al : Nat → Nat} {ad ad' : Nat → Nat → Nat} (h : jm_ext al ad ad') : ∀ {sk : List aV}, jm_okS al sk → sk.map (jm_c ad') = sk.map (jm_c ad)
  | [], _ => rfl
  | v :: r, hv => by rw [List.map_cons, List.map_cons, jm_c_ext h hv.1, jm_map_ext h hv.2]
theorem jm_okS_app {al : Nat → Nat} : ∀ {a b : List aV}, jm_okS al (a ++ b) → jm_okS al a ∧ jm_okS al b
  | [], _, h => ⟨trivial, h⟩
  | _ :: _, _, h => ⟨⟨h.1, (jm_okS_app h.2).1⟩, (jm_okS_app h.2).2⟩
theorem jm_okS_join {al : Nat → Nat} : ∀ {a b : List aV}, jm_okS al a → jm_okS al b → jm_okS al (a ++ b)
  | [], _, _, h => h
  | _ :: _, _, ha, hb => ⟨ha.1, jm_okS_join ha.2 hb⟩
theorem jm_okS_rev {al : Nat → Nat} : ∀ {a : List aV}, jm_okS al a.reverse → jm_okS al a
  | [], _ => trivial
  | v :: r, h => by
    rw [List.reverse_cons] at h
    have := jm_okS_app h
    exact ⟨this.2.1, jm_okS_rev this.1⟩
def jm_okL (al : Nat → Nat) (ls : List (Option aV)) : Prop := ∀ (i : Nat) (v : aV), ls[i]? = some (some v) → jm_ok al v
theorem jm_okL_mono {al al' : Nat → Nat} (h : ∀ k, al k ≤ al' k) {ls : List (Option aV)} (hv : jm_okL al ls) : jm_okL al' ls := fun i v e => jm_ok_mono h (hv i v e)
/-! locals -/
def jm_lo (ad : Nat → Nat → Nat) (lsA : Array Slot) (n : Nat) (ls : List (Option aV)) : Prop := lsA.size = n ∧ lv_wf lsA ∧ ∀ (i : Nat) (v : aV), ls[i]? = some (some v) → lsA[i]? = some (.val (jm_c ad v))
theorem jm_lo_ext {al : Nat → Nat} {ad ad' : Nat → Nat → Nat} (h : jm_ext al ad ad') {lsA : Array Slot} {n : Nat} {ls : List (Option aV)} (ho : jm_okL al ls) (hl : jm_lo ad lsA n ls) : jm_lo ad' lsA n ls :=
  ⟨hl.1, hl.2.1, fun i v e => by rw [jm_c_ext h (ho i v e)]; exact hl.2.2 i v e⟩
def jm_clr (x : Option aV) : Option aV := match x with
  | some (.inr (.inl _)) => none
  | y => y
def jm_put1 (ls : List (Option aV)) (i : Nat) (v : aV) : List (Option aV) := match i with
  | 0 => ls.set 0 (some v)
  | i + 1 => (ls.modify i jm_clr).set (i + 1) (some v)
def jm_put2 (ls : List (Option aV)) (i : Nat) (v : aV) : List (Option aV) := (jm_put1 ls i v).set (i + 1) none
def jm_lv (ad : Nat → Nat → Nat) (ls : List (Option aV)) : List (Nat × Value) := (List.range ls.length).filterMap fun i => match ls[i]? with
  | some (some v) => some (i, jm_c ad v)
  | _ => none
theorem jm_lv_mem {ad : Nat → Nat → Nat} {ls : List (Option aV)} {i : Nat} {v : aV} (h : ls[i]? = some (some v)) : (i, jm_c ad v) ∈ jm_lv ad ls := by
  refine List.mem_filterMap.mpr ⟨i, List.mem_range.mpr (List.getElem?_eq_some_iff.mp h).1, ?_⟩
  simp only [h]
theorem jm_lv_of {ad : Nat → Nat → Nat} {ls : List (Option aV)} {q : Nat × Value} (h : q ∈ jm_lv ad ls) : ∃ v, ls[q.1]? = some (some v) ∧ q.2 = jm_c ad v := by
  obtain ⟨i, -, hi⟩ := List.mem_filterMap.mp h
  split at hi
  · next v hv => cases hi; exact ⟨v, hv, rfl⟩
  · cases hi
theorem jm_lo.has {ad : Nat → Nat → Nat} {lsA : Array Slot} {n : Nat} {ls : List (Option aV)} (h : jm_lo ad lsA n ls) : lv_has lsA n (jm_lv ad ls) := by
  refine ⟨h.1, h.2.1, fun q hq => ?_⟩
  obtain ⟨v, h1, h2⟩ := jm_lv_of hq
  rw [h2]
  exact h.2.2 _ _ h1
theorem jm_put1_get {ls : List (Option aV)} {i j : Nat} {v w : aV} (h : (jm_put1 ls i v)[j]? = some (some w)) : (j = i ∧ w = v) ∨ (j ≠ i ∧ ls[j]? = some (some w) ∧ ¬ (j + 1 = i ∧ jm_cat w = 2)) := by
  cases i with
  | zero =>
    simp only [jm_put1, List.getElem?_set] at h
    split at h
    · next e => split at h <;> simp at h; exact Or.inl ⟨e.symm, h.symm⟩
    · next e => exact Or.inr ⟨fun q => e q.symm, h, fun q => by omega⟩
  | succ i =>
    simp only [jm_put1, List.getElem?_set] at h
    split at h
    · next e => split at h <;> simp at h; exact Or.inl ⟨e.symm, h.symm⟩
    · next e =>
      rw [List.getElem?_modify] at h
      by_cases hj : i = j
      · subst hj
        cases hx : ls[i]? with
        | none => simp [hx] at h
        | some x =>
          simp [hx] at h
          cases x with
          | none => simp [jm_clr] at h
          | some y =>
            rcases y with y | y | y
            · simp [jm_clr] at h; subst h; exact Or.inr ⟨by omega, rfl, fun q => by simp [jm_cat] at q⟩
            · simp [jm_clr] at h
            · simp [jm_clr] at h; subst h; exact Or.inr ⟨by omega, rfl, fun q => by simp [jm_cat] at q⟩
      · simp [hj] at h
        exact Or.inr ⟨fun q => e q.symm, h, fun q => by omega⟩
theorem jm_lo.st1 {ad : Nat → Nat → Nat} {lsB : Array Slot} {n i : Nat} {ls : List (Option aV)} {v : aV} (h : lv_has lsB n ((i, jm_c ad v) :: (jm_lv ad ls).filter (fun q => !(q.1 == i) && !(q.1 + 1 == i && q.2.category == 2)))) : jm_lo ad lsB n (jm_put1 ls i v) := by
  refine ⟨h.1, h.2.1, fun j w hw => ?_⟩
  rcases jm_put1_get hw with ⟨rfl, rfl⟩ | ⟨h1, h2, h3⟩
  · exact h.2.2 _ List.mem_cons_self
  · refine h.2.2 (j, jm_c ad w) (List.mem_cons_of_mem _ (List.mem_filter.mpr ⟨jm_lv_mem h2, ?_⟩))
    simp only [jm_cat_c]
    simp [h1]
    by_cases q : j + 1 = i
    · exact Or.inr (fun z => h3 ⟨q, z⟩)
    · exact Or.inl q
theorem jm_lo.st2 {ad : Nat → Nat → Nat} {lsB : Array Slot} {n i : Nat} {ls : List (Option aV)} {v : aV} (h : lv_has lsB n ((i, jm_c ad v) :: (jm_lv ad ls).filter (fun q => !(q.1 == i) && (!(q.1 == i + 1) && !(q.1 + 1 == i && q.2.category == 2))))) : jm_lo ad lsB n (jm_put2 ls i v) := by
  refine ⟨h.1, h.2.1, fun j w hw => ?_⟩
  unfold jm_put2 at hw
  rw [List.getElem?_set] at hw
  split at hw
  · split at hw <;> simp at hw
  · next e =>
    rcases jm_put1_get hw with ⟨rfl, rfl⟩ | ⟨h1, h2, h3⟩
    · exact h.2.2 _ List.mem_cons_self
    · refine h.2.2 (j, jm_c ad w) (List.mem_cons_of_mem _ (List.mem_filter.mpr ⟨jm_lv_mem h2, ?_⟩))
      simp only [jm_cat_c]
      simp [h1]
      refine ⟨fun q => e q.symm, ?_⟩
      by_cases q : j + 1 = i
      · exact Or.inr (fun z => h3 ⟨q, z⟩)
      · exact Or.inl q
theorem jm_okL.put1 {al : Nat → Nat} {ls : List (Option aV)} {i : Nat} {v : aV} (h : jm_okL al ls) (hv : jm_ok al v) : jm_okL al (jm_put1 ls i v) := by
  intro j w hw
  rcases jm_put1_get hw with ⟨rfl, rfl⟩ | ⟨h1, h2, h3⟩
  · exact hv
  · exact h j w h2
theorem jm_okL.put2 {al : Nat → Nat} {ls : List (Option aV)} {i : Nat} {v : aV} (h : jm_okL al ls) (hv : jm_ok al v) : jm_okL al (jm_put2 ls i v) := by
  intro j w hw
  unfold jm_put2 at hw
  rw [List.getElem?_set] at hw
  split at hw
  · split at hw <;> simp at hw
  · rcases jm_put1_get hw with ⟨rfl, rfl⟩ | ⟨h1, h2, h3⟩
    · exact hv
    · exact h j w h2
/-! the heap -/
def jm_val (ad : Nat → Nat → Nat) (st : aS) (k i j : Nat) : Value := match kly k j with
  | 0 => .int (st.1 k i j)
  | 1 => .long (st.2.1 k i j)
  | 2 => .int (st.1 k i j)
  | c + 3 => va_rf ((st.2.2.1 k i j).map (ad c))
def jm_cell (D : mD) (ad : Nat → Nat → Nat) (st : aS) (k i : Nat) (H : Heap) : Prop := match kob k with
  | some ci => ∃ q : vw_C, vwCl[ci]? = some q ∧ t_OB (ad k i) (D.1.1 ci) q.2.2 (D.1.2 ci) H (jm_val ad st k i)
  | none => H[ad k i]? = some (arrV (D.2.2 (kat k)) (kln k) (jm_val ad st k i))
def jm_R (D : mD) (ad : Nat → Nat → Nat) (st : aS) (H : Heap) : Prop := (∀ k i, i < st.2.2.2 k → jm_cell D ad st k i H) ∧ (∀ k i k' i', i < st.2.2.2 k → i' < st.2.2.2 k' → ad k i = ad k' i' → k = k' ∧ i = i') ∧ (∀ k i, i < st.2.2.2 k → D.2.1.size ≤ ad k i) ∧ (∀ k i j c, i < st.2.2.2 k → kly k j = c + 3 → ∀ t, st.2.2.1 k i j = some t → t < st.2.2.2 c) ∧ (∀ q, q < D.2.1.size → H[q]? = D.2.1[q]?) ∧ D.2.1.size ≤ H.size
theorem jm_cell.kept {D : mD} {ad : Nat → Nat → Nat} {st : aS} {k i : Nat} {H H1 : Heap} (h : jm_cell D ad st k i H) (hq : H1[ad k i]? = H[ad k i]?) : jm_cell D ad st k i H1 := by
  unfold jm_cell at h ⊢
  cases hk : kob k with
  | none => rw [hk] at h; exact hq.trans h
  | some ci =>
    rw [hk] at h
    obtain ⟨q, h1, h2⟩ := h
    exact ⟨q, h1, h2.kept hq⟩
theorem jm_cell.lt {D : mD} {ad : Nat → Nat → Nat} {st : aS} {k i : Nat} {H : Heap} (h : jm_cell D ad st k i H) : ad k i < H.size := by
  unfold jm_cell at h
  cases hk : kob k with
  | none => rw [hk] at h; exact (Array.getElem?_eq_some_iff.mp h).1
  | some ci =>
    rw [hk] at h
    obtain ⟨q, h1, cell, h2, -⟩ := h
    exact (Array.getElem?_eq_some_iff.mp h2).1
theorem jm_cell.to {D : mD} {ad ad' : Nat → Nat → Nat} {st st' : aS} {k i : Nat} {H : Heap} (h : jm_cell D ad st k i H) (ha : ad' k i = ad k i) (hv : ∀ j, jm_val ad' st' k i j = jm_val ad st k i j) : jm_cell D ad' st' k i H := by
  have e : jm_val ad' st' k i = jm_val ad st k i := funext hv
  unfold jm_cell at h ⊢
  rw [ha, e]
  exact h
theorem jm_R.set {D : mD} {ad : Nat → Nat → Nat} {st st' : aS} {H H1 : Heap} {k i : Nat} (h : jm_R D ad st H) (hi : i < st.2.2.2 k) (hal : st'.2.2.2 = st.2.2.2) (hs : ∀ a b, ¬ (a = k ∧ b = i) → ∀ j, st'.1 a b j = st.1 a b j ∧ st'.2.1 a b j = st.2.1 a b j ∧ st'.2.2.1 a b j = st.2.2.1 a b j)
    (hc : ∀ j c, kly k j = c + 3 → ∀ t, st'.2.2.1 k i j = some t → t < st.2.2.2 c) (hz : H1.size = H.size) (oq : ∀ q, q ≠ ad k i → H1[q]? = H[q]?) (hn : jm_cell D ad st' k i H1) : jm_R D ad st' H1 := by
  obtain ⟨h1, h2, h3, h4, h5, h6⟩ := h
  refine ⟨fun a b hb => ?_, ?_, ?_, fun a b j c hb hj t ht => ?_, fun q hq => ?_, by rw [hz]; exact h6⟩
  · rw [hal] at hb
    by_cases e : a = k ∧ b = i
    · obtain ⟨rfl, rfl⟩ := e; exact hn
    · refine ((h1 a b hb).to rfl (fun j => ?_)).kept (oq _ fun z => e (h2 _ _ _ _ hb hi z))
      obtain ⟨e1, e2, e3⟩ := hs a b e j
      simp only [jm_val, e1, e2, e3]
  · rw [hal]; exact h2
  · rw [hal]; exact h3
  · rw [hal] at hb ⊢
    by_cases e : a = k ∧ b = i
    · obtain ⟨rfl, rfl⟩ := e; exact hc j c hj t ht
    · rw [(hs a b e j).2.2] at ht; exact h4 a b j c hb hj t ht
  · rw [oq q (fun z => by have := h3 k i hi; omega)]; exact h5 q hq
def jm_up2 (ad : Nat → Nat → Nat) (k i a : Nat) : Nat → Nat → Nat := fun x y => if x = k ∧ y = i then a else ad x y
theorem jm_R.new {D : mD} {ad : Nat → Nat → Nat} {st : aS} {H H1 : Heap} {k : Nat} (h : jm_R D ad st H) (hz : H1.size = H.size + 1) (oq : ∀ q, q < H.size → H1[q]? = H[q]?)
    (hn : jm_cell D (jm_up2 ad k (st.2.2.2 k) H.size) (sNew st k) k (st.2.2.2 k) H1) : jm_R D (jm_up2 ad k (st.2.2.2 k) H.size) (sNew st k) H1 ∧ jm_ext st.2.2.2 ad (jm_up2 ad k (st.2.2.2 k) H.size) := by
  obtain ⟨h1, h2, h3, h4, h5, h6⟩ := h
  have hx : jm_ext st.2.2.2 ad (jm_up2 ad k (st.2.2.2 k) H.size) := by
    intro a b hb
    unfold jm_up2
    rw [if_neg (fun q => by obtain ⟨rfl, rfl⟩ := q; omega)]
  have hal : ∀ a b, b < (sNew st k).2.2.2 a → (a = k ∧ b = st.2.2.2 k) ∨ (¬ (a = k ∧ b = st.2.2.2 k) ∧ b < st.2.2.2 a) := by
    intro a b hb
    simp only [sNew] at hb
    by_cases e : a = k
    · subst e; simp at hb; by_cases e2 : b = st.2.2.2 a
      · exact Or.inl ⟨rfl, e2⟩
      · exact Or.inr ⟨fun q => e2 q.2, by omega⟩
    · simp [e] at hb; exact Or.inr ⟨fun q => e q.1, hb⟩
  have hm : ∀ a, st.2.2.2 a ≤ (sNew st k).2.2.2 a := by
    intro a
    simp only [sNew]
    split <;> omega
  have old : ∀ a b, b < st.2.2.2 a → ∀ j, jm_val (jm_up2 ad k (st.2.2.2 k) H.size) (sNew st k) a b j = jm_val ad st a b j := by
    intro a b hb j
    have e : ¬ (a = k ∧ b = st.2.2.2 k) := fun q => by obtain ⟨rfl, rfl⟩ := q; omega
    simp only [jm_val, sNew, z3, if_neg e]
    split <;> try rfl
    next c hc =>
      cases ht : st.2.2.1 a b j with
      | none => rfl
      | some t => simp only [Option.map_some]; rw [hx c t (h4 a b j c hb hc t ht)]
  refine ⟨⟨fun a b hb => ?_, fun a b a' b' hb hb' e => ?_, fun a b hb => ?_, fun a b j c hb hj t ht => ?_, fun q hq => ?_, by omega⟩, hx⟩
  · rcases hal a b hb with ⟨rfl, rfl⟩ | ⟨_, hb1⟩
    · exact hn
    · refine ((h1 a b hb1).to (hx a b hb1) (old a b hb1)).kept ?_
      rw [hx a b hb1]
      exact oq _ (h1 a b hb1).lt
  · rcases hal a b hb with ⟨rfl, rfl⟩ | ⟨_, hb1⟩ <;> rcases hal a' b' hb' with ⟨rfl, rfl⟩ | ⟨_, hb2⟩
    · exact ⟨rfl, rfl⟩
    · rw [hx a' b' hb2] at e
      have := (h1 a' b' hb2).lt
      simp [jm_up2] at e
      omega
    · rw [hx a b hb1] at e
      have := (h1 a b hb1).lt
      simp [jm_up2] at e
      omega
    · rw [hx a b hb1, hx a' b' hb2] at e
      exact h2 _ _ _ _ hb1 hb2 e
  · rcases hal a b hb with ⟨rfl, rfl⟩ | ⟨_, hb1⟩
    · simp only [jm_up2, and_self, if_true]; exact h6
    · rw [hx a b hb1]; exact h3 a b hb1
  · rcases hal a b hb with ⟨rfl, rfl⟩ | ⟨e, hb1⟩
    · simp [sNew, z3] at ht
    · simp only [sNew, z3, if_neg e] at ht
      exact Nat.lt_of_lt_of_le (h4 a b j c hb1 hj t ht) (hm c)
  · rw [oq q (by omega)]; exact h5 q hq
/-! what is the same at every moment: the tables -/
def jm_isN (w : Cond) : Bool := match w with
  | .fieldLinkNest .. => true
  | .methodLinkNest .. => true
  | _ => false
theorem jm_nestOk : ∀ w ∈ jm_nest, jm_isN w = true := by
  intro w hw
  simp only [jm_nest, List.mem_cons, List.not_mem_nil, or_false] at hw
  rcases hw with rfl | rfl | rfl | rfl <;> rfl
def jm_K (D : mD) (s : State) : Prop := va_K D.1 vwCl [] s ∧ (∀ t, t < katn → ArrOfT s (D.2.2 t) (katy t) ∧ va_RA s (D.2.2 t) (katy t)) ∧ (∀ w ∈ jm_nest, va_Nw w s) ∧ (∀ C ∈ jm_over, va_AO C s) ∧ (∀ z ∈ jm_statics, va_Z z.1 z.2.1 "[I" (.ref (D.2.2 z.2.2.1)) (fun q => D.2.1.size ≤ q) s D.2.1 ∧ va_T .int (D.2.2 z.2.2.1) z.2.2.2.length (fun j => .int (z.2.2.2.getD j 0)) (fun q => D.2.1.size ≤ q) s D.2.1)
theorem jm_K.moved {D : mD} {s U : State} (hW : s.WarmedH U.vm) (h : jm_K D s) : jm_K D U := by
  obtain ⟨h1, h2, h3, h4, h5⟩ := h
  refine ⟨h1.moved hW.alike, fun t ht => ⟨arrOfT_moved hW.alike (h2 t ht).1, (h2 t ht).2.moved hW.alike⟩, fun w hw => ?_, fun C hC => (h4 C hC).moved hW.alike, fun z hz => ⟨(h5 z hz).1.moved hW.alike, (h5 z hz).2.moved hW.alike⟩⟩
  have hn := jm_nestOk w hw
  have hw3 := h3 w hw
  cases w <;> first | (simp [jm_isN] at hn; done) | exact va_Nw.warmF hW hw3 | exact va_Nw.warmM hW hw3
theorem jm_K.same {D : mD} {s U : State} (hv : s.vm = U.vm) (h : jm_K D s) : jm_K D U := by
  obtain ⟨h1, h2, h3, h4, h5⟩ := h
  have hA : s.vm.Alike U.vm := by rw [← hv]; exact Vm.Alike.refl _
  refine ⟨h1.moved hA, fun t ht => ⟨arrOfT_moved hA (h2 t ht).1, (h2 t ht).2.moved hA⟩, fun w hw => ?_, fun C hC => (h4 C hC).moved hA, fun z hz => ⟨(h5 z hz).1.moved hA, (h5 z hz).2.moved hA⟩⟩
  have hn := jm_nestOk w hw
  have hw3 := h3 w hw
  cases w <;> first | (simp [jm_isN] at hn; done) | exact va_Nw.same rfl hv hw3
def jm_X (M : mM) (D : mD) (p : Program) (s : State) (m : MethodId) (args : Array Value) (meth : Method) (c : Code) : Prop := p.tables.exec = Jvm.exec ∧ c.code = M.2.1 ∧ meth.sig.returnType = M.2.2.2 ∧ meth.locks = false ∧ c.maxLocals = M.2.2.1 ∧ s.vm.findClass M.1.cls = some m.cls ∧ meth.name = M.1.name ∧ (∀ w ∈ jm_tb, w.before args s = true) ∧ jm_K D s
def jm_rm (d mc ms : Nat) : Room := { frames := d, cells := mc, slots := ms, locals := 40 * d }
def jm_Q (D : mD) (ad0 : Nat → Nat → Nat) (al0 : Nat → Nat) (Q : Option aV → aS → Prop) : Array Value → State → Outcome → State → Prop := fun _ _ o t => ∃ (v : Option aV) (st' : aS) (ad' : Nat → Nat → Nat), o = .returned (v.map (jm_c ad')) ∧ Q v st' ∧ jm_ext al0 ad0 ad' ∧ (∀ k, al0 k ≤ st'.2.2.2 k) ∧ (∀ x, v = some x → jm_ok st'.2.2.2 x) ∧ jm_R D ad' st' t.heap
def MS (l : Launch) (D : mD) (M : mM) (d mc ms : Nat) (Q : Option aV → aS → Prop) (uc us pc : Nat) (ls : List (Option aV)) (sk : List aV) (st : aS) : Prop :=
  ∀ (p : Program) (e : Env) (s : State) (m : MethodId) (args : Array Value) (below : List Frame) (meth : Method) (c : Code), jm_X M D p s m args meth c → ∀ (ad0 : Nat → Nat → Nat) (al0 : Nat → Nat) (ad : Nat → Nat → Nat) (H : Heap) (locs : List Loc) (lsA : Array Slot), jm_ext al0 ad0 ad → (∀ k, al0 k ≤ st.2.2.2 k) → jm_R D ad st H → jm_okL st.2.2.2 ls → jm_okS st.2.2.2 sk → jm_lo ad lsA M.2.2.1 ls → (∀ q ∈ locs, D.2.1.size ≤ q.base) →
    W p l e (jm_rm d mc ms) s m args below meth c H locs uc us (MQ below (jm_Q D ad0 al0 Q) args s mc ms (fun q => D.2.1.size ≤ q)) (F0 m pc lsA (sk.map (jm_c ad)))
def jm_ws (M : mM) : List Cond := .code M.1 M.2.1 M.2.2.1 M.2.2.2 :: jm_tb
def MC (l : Launch) (D : mD) (M : mM) (d mc ms : Nat) (av : List aV) (st : aS) (Q : Option aV → aS → Prop) : Prop :=
  ∀ ad : Nat → Nat → Nat, jm_okS st.2.2.2 av → Met l M.1 (jm_ws M) (jm_rm d mc ms) (va_Pc (av.map (jm_c ad)) (fun U => jm_R D ad st U.heap ∧ jm_K D U)) (jm_Q D ad st.2.2.2 Q) mc ms (fun q => D.2.1.size ≤ q)

section JMR
variable {l : Launch} {D : mD} {M : mM} {d mc ms : Nat} {Q : Option aV → aS → Prop} {uc us pc : Nat} {ls : List (Option aV)} {sk : List aV} {st : aS}
theorem jm_iconst {n : Int} {v : Int32} (hd : decode M.2.1 pc = .ok (.iconst n, 1)) (hv : Int32.ofInt n = v) (kk : MS l D M d mc ms Q uc us (pc + 1) ls (vI v :: sk) st) : MS l D M d mc ms Q uc us pc ls (sk) st := by
  intro p e s m args below meth c X ad0 al0 ad H locs lsA he ha hR hoL hoS hlo hlc
  exact lv_iconst X.1 X.2.1 hd hv (kk p e s m args below meth c X ad0 al0 ad H locs lsA he ha hR hoL ⟨trivial, hoS⟩ hlo hlc)
theorem jm_bipush {n : Int} {v : Int32} (hd : decode M.2.1 pc = .ok (.bipush n, 2)) (hv : (Int8.ofInt n).toInt32 = v) (kk : MS l D M d mc ms Q uc us (pc + 2) ls (vI v :: sk) st) : MS l D M d mc ms Q uc us pc ls (sk) st := by
  intro p e s m args below meth c X ad0 al0 ad H locs lsA he ha hR hoL hoS hlo hlc
  exact lv_bipush X.1 X.2.1 hd hv (kk p e s m args below meth c X ad0 al0 ad H locs lsA he ha hR hoL ⟨trivial, hoS⟩ hlo hlc)
theorem jm_sipush {n : Int} {v : Int32} (hd : decode M.2.1 pc = .ok (.sipush n, 3)) (hv : (Int16.ofInt n).toInt32 = v) (kk : MS l D M d mc ms Q uc us (pc + 3) ls (vI v :: sk) st) : MS l D M d mc ms Q uc us pc ls (sk) st := by
  intro p e s m args below meth c X ad0 al0 ad H locs lsA he ha hR hoL hoS hlo hlc
  exact lv_sipush X.1 X.2.1 hd hv (kk p e s m args below meth c X ad0 al0 ad H locs lsA he ha hR hoL ⟨trivial, hoS⟩ hlo hlc)
theorem jm_lconst {n : Fin 2} {v : Int64} (hd : decode M.2.1 pc = .ok (.lconst n, 1)) (hv : Int64.ofNat (n : Nat) = v) (kk : MS l D M d mc ms Q uc us (pc + 1) ls (vL v :: sk) st) : MS l D M d mc ms Q uc us pc ls (sk) st := by
  intro p e s m args below meth c X ad0 al0 ad H locs lsA he ha hR hoL hoS hlo hlc
  exact lv_lconst X.1 X.2.1 hd hv (kk p e s m args below meth c X ad0 al0 ad H locs lsA he ha hR hoL ⟨trivial, hoS⟩ hlo hlc)
theorem jm_ldc {index : Nat} {v : Int32} (hd : decode M.2.1 pc = .ok (.ldc index, 2)) (hw : Cond.constant M.1.cls index v ∈ jm_tb) (kk : MS l D M d mc ms Q uc us (pc + 2) ls (vI v :: sk) st) : MS l D M d mc ms Q uc us pc ls (sk) st := by
  intro p e s m args below meth c X ad0 al0 ad H locs lsA he ha hR hoL hoS hlo hlc
  exact lv_ldc X.1 X.2.1 X.2.2.2.2.2.1 (X.2.2.2.2.2.2.2.1 _ hw) hd (kk p e s m args below meth c X ad0 al0 ad H locs lsA he ha hR hoL ⟨trivial, hoS⟩ hlo hlc)
theorem jm_ldc2 {index : Nat} {v : Int64} (hd : decode M.2.1 pc = .ok (.ldc2_w index, 3)) (hw : Cond.constantLong M.1.cls index v ∈ jm_tb) (kk : MS l D M d mc ms Q uc us (pc + 3) ls (vL v :: sk) st) : MS l D M d mc ms Q uc us pc ls (sk) st := by
  intro p e s m args below meth c X ad0 al0 ad H locs lsA he ha hR hoL hoS hlo hlc
  exact lv_ldc2 X.1 X.2.1 X.2.2.2.2.2.1 (X.2.2.2.2.2.2.2.1 _ hw) hd (kk p e s m args below meth c X ad0 al0 ad H locs lsA he ha hR hoL ⟨trivial, hoS⟩ hlo hlc)
theorem jm_null (hd : decode M.2.1 pc = .ok (.aconst_null, 1)) (kk : MS l D M d mc ms Q uc us (pc + 1) ls (vR none :: sk) st) : MS l D M d mc ms Q uc us pc ls (sk) st := by
  intro p e s m args below meth c X ad0 al0 ad H locs lsA he ha hR hoL hoS hlo hlc
  exact lv_null X.1 X.2.1 hd (kk p e s m args below meth c X ad0 al0 ad H locs lsA he ha hR hoL ⟨trivial, hoS⟩ hlo hlc)
theorem jm_iload_n {k : Fin 4} {x : Int32} (hd : decode M.2.1 pc = .ok (.iload_n k, 1)) (hl : ls[(k : Nat)]? = some (some (vI x))) (kk : MS l D M d mc ms Q uc us (pc + 1) ls (vI x :: sk) st) : MS l D M d mc ms Q uc us pc ls (sk) st := by
  intro p e s m args below meth c X ad0 al0 ad H locs lsA he ha hR hoL hoS hlo hlc
  exact lv_iload_n X.1 X.2.1 hd rfl (hlo.2.2 _ _ hl) (kk p e s m args below meth c X ad0 al0 ad H locs lsA he ha hR hoL ⟨trivial, hoS⟩ hlo hlc)
theorem jm_iload {i : Nat} {x : Int32} (hd : decode M.2.1 pc = .ok (.iload i, 2)) (hl : ls[i]? = some (some (vI x))) (kk : MS l D M d mc ms Q uc us (pc + 2) ls (vI x :: sk) st) : MS l D M d mc ms Q uc us pc ls (sk) st := by
  intro p e s m args below meth c X ad0 al0 ad H locs lsA he ha hR hoL hoS hlo hlc
  exact lv_iload X.1 X.2.1 hd (hlo.2.2 _ _ hl) (kk p e s m args below meth c X ad0 al0 ad H locs lsA he ha hR hoL ⟨trivial, hoS⟩ hlo hlc)
theorem jm_lload_n {k : Fin 4} {x : Int64} (hd : decode M.2.1 pc = .ok (.lload_n k, 1)) (hl : ls[(k : Nat)]? = some (some (vL x))) (kk : MS l D M d mc ms Q uc us (pc + 1) ls (vL x :: sk) st) : MS l D M d mc ms Q uc us pc ls (sk) st := by
  intro p e s m args below meth c X ad0 al0 ad H locs lsA he ha hR hoL hoS hlo hlc
  exact lv_lload_n X.1 X.2.1 hd rfl (hlo.2.2 _ _ hl) (kk p e s m args below meth c X ad0 al0 ad H locs lsA he ha hR hoL ⟨trivial, hoS⟩ hlo hlc)
theorem jm_lload {i : Nat} {x : Int64} (hd : decode M.2.1 pc = .ok (.lload i, 2)) (hl : ls[i]? = some (some (vL x))) (kk : MS l D M d mc ms Q uc us (pc + 2) ls (vL x :: sk) st) : MS l D M d mc ms Q uc us pc ls (sk) st := by
  intro p e s m args below meth c X ad0 al0 ad H locs lsA he ha hR hoL hoS hlo hlc
  exact lv_lload X.1 X.2.1 hd (hlo.2.2 _ _ hl) (kk p e s m args below meth c X ad0 al0 ad H locs lsA he ha hR hoL ⟨trivial, hoS⟩ hlo hlc)
theorem jm_aload_n {k : Fin 4} {x : Option (Nat × Nat)} (hd : decode M.2.1 pc = .ok (.aload_n k, 1)) (hl : ls[(k : Nat)]? = some (some (vR x))) (kk : MS l D M d mc ms Q uc us (pc + 1) ls (vR x :: sk) st) : MS l D M d mc ms Q uc us pc ls (sk) st := by
  intro p e s m args below meth c X ad0 al0 ad H locs lsA he ha hR hoL hoS hlo hlc
  have hw := hlo.2.2 _ _ hl
  have ho := hoL _ _ hl
  cases x with
  | none => exact lv_aload_nN X.1 X.2.1 hd rfl hw (kk p e s m args below meth c X ad0 al0 ad H locs lsA he ha hR hoL ⟨ho, hoS⟩ hlo hlc)
  | some q => exact lv_aload_n X.1 X.2.1 hd rfl hw (kk p e s m args below meth c X ad0 al0 ad H locs lsA he ha hR hoL ⟨ho, hoS⟩ hlo hlc)
theorem jm_aload {i : Nat} {x : Option (Nat × Nat)} (hd : decode M.2.1 pc = .ok (.aload i, 2)) (hl : ls[i]? = some (some (vR x))) (kk : MS l D M d mc ms Q uc us (pc + 2) ls (vR x :: sk) st) : MS l D M d mc ms Q uc us pc ls (sk) st := by
  intro p e s m args below meth c X ad0 al0 ad H locs lsA he ha hR hoL hoS hlo hlc
  have hw := hlo.2.2 _ _ hl
  have ho := hoL _ _ hl
  cases x with
  | none => exact lv_aloadN X.1 X.2.1 hd hw (kk p e s m args below meth c X ad0 al0 ad H locs lsA he ha hR hoL ⟨ho, hoS⟩ hlo hlc)
  | some q => exact lv_aload X.1 X.2.1 hd hw (kk p e s m args below meth c X ad0 al0 ad H locs lsA he ha hR hoL ⟨ho, hoS⟩ hlo hlc)
theorem jm_istore_n {k : Fin 4} {x : Int32} (hd : decode M.2.1 pc = .ok (.istore_n k, 1)) (hn : (k : Nat) < M.2.2.1) (kk : MS l D M d mc ms Q uc us (pc + 1) (jm_put1 ls k (vI x)) sk st) : MS l D M d mc ms Q uc us pc ls (vI x :: sk) st := by
  intro p e s m args below meth c X ad0 al0 ad H locs lsA he ha hR hoL hoS hlo hlc
  exact lv_istore_n X.1 X.2.1 hd rfl hlo.has hn rfl (fun lsB hl => kk p e s m args below meth c X ad0 al0 ad H locs lsB he ha hR (hoL.put1 trivial) hoS.2 (jm_lo.st1 (v := vI x) hl) hlc)
theorem jm_istore {i : Nat} {x : Int32} (hd : decode M.2.1 pc = .ok (.istore i, 2)) (hn : i < M.2.2.1) (kk : MS l D M d mc ms Q uc us (pc + 2) (jm_put1 ls i (vI x)) sk st) : MS l D M d mc ms Q uc us pc ls (vI x :: sk) st := by
  intro p e s m args below meth c X ad0 al0 ad H locs lsA he ha hR hoL hoS hlo hlc
  exact lv_istore X.1 X.2.1 hd hlo.has hn rfl (fun lsB hl => kk p e s m args below meth c X ad0 al0 ad H locs lsB he ha hR (hoL.put1 trivial) hoS.2 (jm_lo.st1 (v := vI x) hl) hlc)
theorem jm_lstore_n {k : Fin 4} {x : Int64} (hd : decode M.2.1 pc = .ok (.lstore_n k, 1)) (hn : (k : Nat) + 1 < M.2.2.1) (kk : MS l D M d mc ms Q uc us (pc + 1) (jm_put2 ls k (vL x)) sk st) : MS l D M d mc ms Q uc us pc ls (vL x :: sk) st := by
  intro p e s m args below meth c X ad0 al0 ad H locs lsA he ha hR hoL hoS hlo hlc
  exact lv_lstore_n X.1 X.2.1 hd rfl hlo.has hn rfl (fun lsB hl => kk p e s m args below meth c X ad0 al0 ad H locs lsB he ha hR (hoL.put2 trivial) hoS.2 (jm_lo.st2 (v := vL x) hl) hlc)
theorem jm_lstore {i : Nat} {x : Int64} (hd : decode M.2.1 pc = .ok (.lstore i, 2)) (hn : i + 1 < M.2.2.1) (kk : MS l D M d mc ms Q uc us (pc + 2) (jm_put2 ls i (vL x)) sk st) : MS l D M d mc ms Q uc us pc ls (vL x :: sk) st := by
  intro p e s m args below meth c X ad0 al0 ad H locs lsA he ha hR hoL hoS hlo hlc
  exact lv_lstore X.1 X.2.1 hd hlo.has hn rfl (fun lsB hl => kk p e s m args below meth c X ad0 al0 ad H locs lsB he ha hR (hoL.put2 trivial) hoS.2 (jm_lo.st2 (v := vL x) hl) hlc)
theorem jm_astore_n {k : Fin 4} {x : Option (Nat × Nat)} (hd : decode M.2.1 pc = .ok (.astore_n k, 1)) (hn : (k : Nat) < M.2.2.1) (kk : MS l D M d mc ms Q uc us (pc + 1) (jm_put1 ls k (vR x)) sk st) : MS l D M d mc ms Q uc us pc ls (vR x :: sk) st := by
  intro p e s m args below meth c X ad0 al0 ad H locs lsA he ha hR hoL hoS hlo hlc
  cases x with
  | none => exact lv_astore_nN X.1 X.2.1 hd rfl hlo.has hn rfl (fun lsB hl => kk p e s m args below meth c X ad0 al0 ad H locs lsB he ha hR (hoL.put1 trivial) hoS.2 (jm_lo.st1 (v := vR none) hl) hlc)
  | some q => exact lv_astore_n X.1 X.2.1 hd rfl hlo.has hn rfl (fun lsB hl => kk p e s m args below meth c X ad0 al0 ad H locs lsB he ha hR (hoL.put1 hoS.1) hoS.2 (jm_lo.st1 (v := vR (some q)) hl) hlc)
theorem jm_astore {i : Nat} {x : Option (Nat × Nat)} (hd : decode M.2.1 pc = .ok (.astore i, 2)) (hn : i < M.2.2.1) (kk : MS l D M d mc ms Q uc us (pc + 2) (jm_put1 ls i (vR x)) sk st) : MS l D M d mc ms Q uc us pc ls (vR x :: sk) st := by
  intro p e s m args below meth c X ad0 al0 ad H locs lsA he ha hR hoL hoS hlo hlc
  cases x with
  | none => exact lv_astoreN X.1 X.2.1 hd hlo.has hn rfl (fun lsB hl => kk p e s m args below meth c X ad0 al0 ad H locs lsB he ha hR (hoL.put1 trivial) hoS.2 (jm_lo.st1 (v := vR none) hl) hlc)
  | some q => exact lv_astore X.1 X.2.1 hd hlo.has hn rfl (fun lsB hl => kk p e s m args below meth c X ad0 al0 ad H locs lsB he ha hR (hoL.put1 hoS.1) hoS.2 (jm_lo.st1 (v := vR (some q)) hl) hlc)
theorem jm_iinc {i : Nat} {n : Int} {x : Int32} (hd : decode M.2.1 pc = .ok (.iinc i n, 3)) (hl : ls[i]? = some (some (vI x))) (hn : i < M.2.2.1) (kk : MS l D M d mc ms Q uc us (pc + 3) (jm_put1 ls i (vI (x + Int32.ofInt n))) sk st) : MS l D M d mc ms Q uc us pc ls (sk) st := by
  intro p e s m args below meth c X ad0 al0 ad H locs lsA he ha hR hoL hoS hlo hlc
  obtain ⟨k0, hk0⟩ := List.getElem?_of_mem (jm_lv_mem (ad := ad) hl)
  exact lv_iinc X.1 X.2.1 hd hlo.has hk0 rfl hn rfl (fun lsB hl => kk p e s m args below meth c X ad0 al0 ad H locs lsB he ha hR (hoL.put1 trivial) hoS (jm_lo.st1 (v := vI (x + Int32.ofInt n)) hl) hlc)
theorem jm_iadd {x y : Int32} (hd : decode M.2.1 pc = .ok (.iadd, 1)) (kk : MS l D M d mc ms Q uc us (pc + 1) ls (vI (x + y) :: sk) st) : MS l D M d mc ms Q uc us pc ls (vI y :: vI x :: sk) st := by
  intro p e s m args below meth c X ad0 al0 ad H locs lsA he ha hR hoL hoS hlo hlc
  exact lv_iadd X.1 X.2.1 hd (kk p e s m args below meth c X ad0 al0 ad H locs lsA he ha hR hoL ⟨trivial, hoS.2.2⟩ hlo hlc)
theorem jm_isub {x y : Int32} (hd : decode M.2.1 pc = .ok (.isub, 1)) (kk : MS l D M d mc ms Q uc us (pc + 1) ls (vI (x - y) :: sk) st) : MS l D M d mc ms Q uc us pc ls (vI y :: vI x :: sk) st := by
  intro p e s m args below meth c X ad0 al0 ad H locs lsA he ha hR hoL hoS hlo hlc
  exact lv_isub X.1 X.2.1 hd (kk p e s m args below meth c X ad0 al0 ad H locs lsA he ha hR hoL ⟨trivial, hoS.2.2⟩ hlo hlc)
theorem jm_imul {x y : Int32} (hd : decode M.2.1 pc = .ok (.imul, 1)) (kk : MS l D M d mc ms Q uc us (pc + 1) ls (vI (x * y) :: sk) st) : MS l D M d mc ms Q uc us pc ls (vI y :: vI x :: sk) st := by
  intro p e s m args below meth c X ad0 al0 ad H locs lsA he ha hR hoL hoS hlo hlc
  exact lv_imul X.1 X.2.1 hd (kk p e s m args below meth c X ad0 al0 ad H locs lsA he ha hR hoL ⟨trivial, hoS.2.2⟩ hlo hlc)
theorem jm_iand {x y : Int32} (hd : decode M.2.1 pc = .ok (.iand, 1)) (kk : MS l D M d mc ms Q uc us (pc + 1) ls (vI (x &&& y) :: sk) st) : MS l D M d mc ms Q uc us pc ls (vI y :: vI x :: sk) st := by
  intro p e s m args below meth c X ad0 al0 ad H locs lsA he ha hR hoL hoS hlo hlc
  exact lv_iand X.1 X.2.1 hd (kk p e s m args below meth c X ad0 al0 ad H locs lsA he ha hR hoL ⟨trivial, hoS.2.2⟩ hlo hlc)
theorem jm_ior {x y : Int32} (hd : decode M.2.1 pc = .ok (.ior, 1)) (kk : MS l D M d mc ms Q uc us (pc + 1) ls (vI (x ||| y) :: sk) st) : MS l D M d mc ms Q uc us pc ls (vI y :: vI x :: sk) st := by
  intro p e s m args below meth c X ad0 al0 ad H locs lsA he ha hR hoL hoS hlo hlc
  exact lv_ior X.1 X.2.1 hd (kk p e s m args below meth c X ad0 al0 ad H locs lsA he ha hR hoL ⟨trivial, hoS.2.2⟩ hlo hlc)
theorem jm_ixor {x y : Int32} (hd : decode M.2.1 pc = .ok (.ixor, 1)) (kk : MS l D M d mc ms Q uc us (pc + 1) ls (vI (x ^^^ y) :: sk) st) : MS l D M d mc ms Q uc us pc ls (vI y :: vI x :: sk) st := by
  intro p e s m args below meth c X ad0 al0 ad H locs lsA he ha hR hoL hoS hlo hlc
  exact lv_ixor X.1 X.2.1 hd (kk p e s m args below meth c X ad0 al0 ad H locs lsA he ha hR hoL ⟨trivial, hoS.2.2⟩ hlo hlc)
theorem jm_ishl {x y : Int32} (hd : decode M.2.1 pc = .ok (.ishl, 1)) (kk : MS l D M d mc ms Q uc us (pc + 1) ls (vI (x <<< (y &&& 31)) :: sk) st) : MS l D M d mc ms Q uc us pc ls (vI y :: vI x :: sk) st := by
  intro p e s m args below meth c X ad0 al0 ad H locs lsA he ha hR hoL hoS hlo hlc
  exact lv_ishl X.1 X.2.1 hd (kk p e s m args below meth c X ad0 al0 ad H locs lsA he ha hR hoL ⟨trivial, hoS.2.2⟩ hlo hlc)
theorem jm_ishr {x y : Int32} (hd : decode M.2.1 pc = .ok (.ishr, 1)) (kk : MS l D M d mc ms Q uc us (pc + 1) ls (vI (x >>> (y &&& 31)) :: sk) st) : MS l D M d mc ms Q uc us pc ls (vI y :: vI x :: sk) st := by
  intro p e s m args below meth c X ad0 al0 ad H locs lsA he ha hR hoL hoS hlo hlc
  exact lv_ishr X.1 X.2.1 hd (kk p e s m args below meth c X ad0 al0 ad H locs lsA he ha hR hoL ⟨trivial, hoS.2.2⟩ hlo hlc)
theorem jm_ladd {x y : Int64} (hd : decode M.2.1 pc = .ok (.ladd, 1)) (kk : MS l D M d mc ms Q uc us (pc + 1) ls (vL (x + y) :: sk) st) : MS l D M d mc ms Q uc us pc ls (vL y :: vL x :: sk) st := by
  intro p e s m args below meth c X ad0 al0 ad H locs lsA he ha hR hoL hoS hlo hlc
  exact lv_ladd X.1 X.2.1 hd (kk p e s m args below meth c X ad0 al0 ad H locs lsA he ha hR hoL ⟨trivial, hoS.2.2⟩ hlo hlc)
theorem jm_lsub {x y : Int64} (hd : decode M.2.1 pc = .ok (.lsub, 1)) (kk : MS l D M d mc ms Q uc us (pc + 1) ls (vL (x - y) :: sk) st) : MS l D M d mc ms Q uc us pc ls (vL y :: vL x :: sk) st := by
  intro p e s m args below meth c X ad0 al0 ad H locs lsA he ha hR hoL hoS hlo hlc
  exact lv_lsub X.1 X.2.1 hd (kk p e s m args below meth c X ad0 al0 ad H locs lsA he ha hR hoL ⟨trivial, hoS.2.2⟩ hlo hlc)
theorem jm_lmul {x y : Int64} (hd : decode M.2.1 pc = .ok (.lmul, 1)) (kk : MS l D M d mc ms Q uc us (pc + 1) ls (vL (x * y) :: sk) st) : MS l D M d mc ms Q uc us pc ls (vL y :: vL x :: sk) st := by
  intro p e s m args below meth c X ad0 al0 ad H locs lsA he ha hR hoL hoS hlo hlc
  exact lv_lmul X.1 X.2.1 hd (kk p e s m args below meth c X ad0 al0 ad H locs lsA he ha hR hoL ⟨trivial, hoS.2.2⟩ hlo hlc)
theorem jm_land {x y : Int64} (hd : decode M.2.1 pc = .ok (.land, 1)) (kk : MS l D M d mc ms Q uc us (pc + 1) ls (vL (x &&& y) :: sk) st) : MS l D M d mc ms Q uc us pc ls (vL y :: vL x :: sk) st := by
  intro p e s m args below meth c X ad0 al0 ad H locs lsA he ha hR hoL hoS hlo hlc
  exact lv_land X.1 X.2.1 hd (kk p e s m args below meth c X ad0 al0 ad H locs lsA he ha hR hoL ⟨trivial, hoS.2.2⟩ hlo hlc)
theorem jm_lor {x y : Int64} (hd : decode M.2.1 pc = .ok (.lor, 1)) (kk : MS l D M d mc ms Q uc us (pc + 1) ls (vL (x ||| y) :: sk) st) : MS l D M d mc ms Q uc us pc ls (vL y :: vL x :: sk) st := by
  intro p e s m args below meth c X ad0 al0 ad H locs lsA he ha hR hoL hoS hlo hlc
  exact lv_lor X.1 X.2.1 hd (kk p e s m args below meth c X ad0 al0 ad H locs lsA he ha hR hoL ⟨trivial, hoS.2.2⟩ hlo hlc)
theorem jm_lxor {x y : Int64} (hd : decode M.2.1 pc = .ok (.lxor, 1)) (kk : MS l D M d mc ms Q uc us (pc + 1) ls (vL (x ^^^ y) :: sk) st) : MS l D M d mc ms Q uc us pc ls (vL y :: vL x :: sk) st := by
  intro p e s m args below meth c X ad0 al0 ad H locs lsA he ha hR hoL hoS hlo hlc
  exact lv_lxor X.1 X.2.1 hd (kk p e s m args below meth c X ad0 al0 ad H locs lsA he ha hR hoL ⟨trivial, hoS.2.2⟩ hlo hlc)
theorem jm_iushr {x y : Int32} (hd : decode M.2.1 pc = .ok (.iushr, 1)) (kk : MS l D M d mc ms Q uc us (pc + 1) ls (vI (x.toUInt32 >>> (y.toUInt32 &&& Int32.toUInt32 31)).toInt32 :: sk) st) : MS l D M d mc ms Q uc us pc ls (vI y :: vI x :: sk) st := by
  intro p e s m args below meth c X ad0 al0 ad H locs lsA he ha hR hoL hoS hlo hlc
  exact lv_iushr X.1 X.2.1 hd rfl (kk p e s m args below meth c X ad0 al0 ad H locs lsA he ha hR hoL ⟨trivial, hoS.2.2⟩ hlo hlc)
theorem jm_lushr {x : Int64} {y : Int32} (hd : decode M.2.1 pc = .ok (.lushr, 1)) (kk : MS l D M d mc ms Q uc us (pc + 1) ls (vL (x.toUInt64 >>> (y.toInt64.toUInt64 &&& Int64.toUInt64 63)).toInt64 :: sk) st) : MS l D M d mc ms Q uc us pc ls (vI y :: vL x :: sk) st := by
  intro p e s m args below meth c X ad0 al0 ad H locs lsA he ha hR hoL hoS hlo hlc
  exact lv_lushr X.1 X.2.1 hd rfl (kk p e s m args below meth c X ad0 al0 ad H locs lsA he ha hR hoL ⟨trivial, hoS.2.2⟩ hlo hlc)
theorem jm_lshl {x : Int64} {y : Int32} (hd : decode M.2.1 pc = .ok (.lshl, 1)) (kk : MS l D M d mc ms Q uc us (pc + 1) ls (vL (x <<< (y.toInt64 &&& 63)) :: sk) st) : MS l D M d mc ms Q uc us pc ls (vI y :: vL x :: sk) st := by
  intro p e s m args below meth c X ad0 al0 ad H locs lsA he ha hR hoL hoS hlo hlc
  exact lv_lshl X.1 X.2.1 hd rfl (kk p e s m args below meth c X ad0 al0 ad H locs lsA he ha hR hoL ⟨trivial, hoS.2.2⟩ hlo hlc)
theorem jm_lshr {x : Int64} {y : Int32} (hd : decode M.2.1 pc = .ok (.lshr, 1)) (kk : MS l D M d mc ms Q uc us (pc + 1) ls (vL (x >>> (y.toInt64 &&& 63)) :: sk) st) : MS l D M d mc ms Q uc us pc ls (vI y :: vL x :: sk) st := by
  intro p e s m args below meth c X ad0 al0 ad H locs lsA he ha hR hoL hoS hlo hlc
  exact lv_lshr X.1 X.2.1 hd rfl (kk p e s m args below meth c X ad0 al0 ad H locs lsA he ha hR hoL ⟨trivial, hoS.2.2⟩ hlo hlc)
theorem jm_ineg {x : Int32} (hd : decode M.2.1 pc = .ok (.ineg, 1)) (kk : MS l D M d mc ms Q uc us (pc + 1) ls (vI (-x) :: sk) st) : MS l D M d mc ms Q uc us pc ls (vI x :: sk) st := by
  intro p e s m args below meth c X ad0 al0 ad H locs lsA he ha hR hoL hoS hlo hlc
  exact lv_ineg X.1 X.2.1 hd (kk p e s m args below meth c X ad0 al0 ad H locs lsA he ha hR hoL ⟨trivial, hoS.2⟩ hlo hlc)
theorem jm_i2l {x : Int32} (hd : decode M.2.1 pc = .ok (.i2l, 1)) (kk : MS l D M d mc ms Q uc us (pc + 1) ls (vL x.toInt64 :: sk) st) : MS l D M d mc ms Q uc us pc ls (vI x :: sk) st := by
  intro p e s m args below meth c X ad0 al0 ad H locs lsA he ha hR hoL hoS hlo hlc
  exact lv_i2l X.1 X.2.1 hd rfl (kk p e s m args below meth c X ad0 al0 ad H locs lsA he ha hR hoL ⟨trivial, hoS.2⟩ hlo hlc)
theorem jm_l2i {x : Int64} (hd : decode M.2.1 pc = .ok (.l2i, 1)) (kk : MS l D M d mc ms Q uc us (pc + 1) ls (vI x.toInt32 :: sk) st) : MS l D M d mc ms Q uc us pc ls (vL x :: sk) st := by
  intro p e s m args below meth c X ad0 al0 ad H locs lsA he ha hR hoL hoS hlo hlc
  exact lv_l2i X.1 X.2.1 hd rfl (kk p e s m args below meth c X ad0 al0 ad H locs lsA he ha hR hoL ⟨trivial, hoS.2⟩ hlo hlc)
theorem jm_lcmp {x y : Int64} (hd : decode M.2.1 pc = .ok (.lcmp, 1)) (kk : MS l D M d mc ms Q uc us (pc + 1) ls (vI (lg_cmp x y) :: sk) st) : MS l D M d mc ms Q uc us pc ls (vL y :: vL x :: sk) st := by
  intro p e s m args below meth c X ad0 al0 ad H locs lsA he ha hR hoL hoS hlo hlc
  exact W.lcmp X.1 X.2.1 hd (kk p e s m args below meth c X ad0 al0 ad H locs lsA he ha hR hoL ⟨trivial, hoS.2.2⟩ hlo hlc)
theorem jm_dup {v : aV} (hd : decode M.2.1 pc = .ok (.dup, 1)) (hv : jm_cat v = 1) (kk : MS l D M d mc ms Q uc us (pc + 1) ls (v :: v :: sk) st) : MS l D M d mc ms Q uc us pc ls (v :: sk) st := by
  intro p e s m args below meth c X ad0 al0 ad H locs lsA he ha hR hoL hoS hlo hlc
  exact lv_dup X.1 X.2.1 hd (by rw [jm_cat_c]; exact hv) (kk p e s m args below meth c X ad0 al0 ad H locs lsA he ha hR hoL ⟨hoS.1, hoS⟩ hlo hlc)
theorem jm_pop {v : aV} (hd : decode M.2.1 pc = .ok (.pop, 1)) (hv : jm_cat v = 1) (kk : MS l D M d mc ms Q uc us (pc + 1) ls (sk) st) : MS l D M d mc ms Q uc us pc ls (v :: sk) st := by
  intro p e s m args below meth c X ad0 al0 ad H locs lsA he ha hR hoL hoS hlo hlc
  exact lv_pop X.1 X.2.1 hd (by rw [jm_cat_c]; exact hv) (kk p e s m args below meth c X ad0 al0 ad H locs lsA he ha hR hoL hoS.2 hlo hlc)
theorem jm_dup_x1 {v w : aV} (hd : decode M.2.1 pc = .ok (.dup_x1, 1)) (hv : jm_cat v = 1) (hw : jm_cat w = 1) (kk : MS l D M d mc ms Q uc us (pc + 1) ls (v :: w :: v :: sk) st) : MS l D M d mc ms Q uc us pc ls (v :: w :: sk) st := by
  intro p e s m args below meth c X ad0 al0 ad H locs lsA he ha hR hoL hoS hlo hlc
  exact lv_dup_x1 X.1 X.2.1 hd (by rw [jm_cat_c]; exact hv) (by rw [jm_cat_c]; exact hw) (kk p e s m args below meth c X ad0 al0 ad H locs lsA he ha hR hoL ⟨hoS.1, hoS.2.1, hoS.1, hoS.2.2⟩ hlo hlc)
theorem jm_dup_x2 {v w z : aV} (hd : decode M.2.1 pc = .ok (.dup_x2, 1)) (hv : jm_cat v = 1) (hw : jm_cat w = 1) (hz : jm_cat z = 1) (kk : MS l D M d mc ms Q uc us (pc + 1) ls (v :: w :: z :: v :: sk) st) : MS l D M d mc ms Q uc us pc ls (v :: w :: z :: sk) st := by
  intro p e s m args below meth c X ad0 al0 ad H locs lsA he ha hR hoL hoS hlo hlc
  exact lv_dup_x2 X.1 X.2.1 hd (by rw [jm_cat_c]; exact hv) (by rw [jm_cat_c]; exact hw) (by rw [jm_cat_c]; exact hz) (kk p e s m args below meth c X ad0 al0 ad H locs lsA he ha hR hoL ⟨hoS.1, hoS.2.1, hoS.2.2.1, hoS.1, hoS.2.2.2⟩ hlo hlc)
theorem jm_dup2_11 {v w : aV} (hd : decode M.2.1 pc = .ok (.dup2, 1)) (hv : jm_cat v = 1) (hw : jm_cat w = 1) (kk : MS l D M d mc ms Q uc us (pc + 1) ls (v :: w :: v :: w :: sk) st) : MS l D M d mc ms Q uc us pc ls (v :: w :: sk) st := by
  intro p e s m args below meth c X ad0 al0 ad H locs lsA he ha hR hoL hoS hlo hlc
  exact lv_dup2_11 X.1 X.2.1 hd (by rw [jm_cat_c]; exact hv) (by rw [jm_cat_c]; exact hw) (kk p e s m args below meth c X ad0 al0 ad H locs lsA he ha hR hoL ⟨hoS.1, hoS.2.1, hoS⟩ hlo hlc)
theorem jm_dup2_2 {v : aV} (hd : decode M.2.1 pc = .ok (.dup2, 1)) (hv : jm_cat v = 2) (kk : MS l D M d mc ms Q uc us (pc + 1) ls (v :: v :: sk) st) : MS l D M d mc ms Q uc us pc ls (v :: sk) st := by
  intro p e s m args below meth c X ad0 al0 ad H locs lsA he ha hR hoL hoS hlo hlc
  exact lv_dup2_2 X.1 X.2.1 hd (by rw [jm_cat_c]; exact hv) (kk p e s m args below meth c X ad0 al0 ad H locs lsA he ha hR hoL ⟨hoS.1, hoS⟩ hlo hlc)
theorem jm_dup2_x1_2 {v w : aV} (hd : decode M.2.1 pc = .ok (.dup2_x1, 1)) (hv : jm_cat v = 2) (hw : jm_cat w = 1) (kk : MS l D M d mc ms Q uc us (pc + 1) ls (v :: w :: v :: sk) st) : MS l D M d mc ms Q uc us pc ls (v :: w :: sk) st := by
  intro p e s m args below meth c X ad0 al0 ad H locs lsA he ha hR hoL hoS hlo hlc
  exact lv_dup2_x1_2 X.1 X.2.1 hd (by rw [jm_cat_c]; exact hv) (by rw [jm_cat_c]; exact hw) (kk p e s m args below meth c X ad0 al0 ad H locs lsA he ha hR hoL ⟨hoS.1, hoS.2.1, hoS.1, hoS.2.2⟩ hlo hlc)
theorem jm_if_eq {x : Int32} {off : Int} {tgt : Nat} (hd : decode M.2.1 pc = .ok (.ifCond .eq off, 3)) (ht : (pc : Int) + off = (tgt : Int)) (kt : x = 0 → MS l D M d mc ms Q uc us tgt ls sk st) (kf : ¬ x = 0 → MS l D M d mc ms Q uc us (pc + 3) ls sk st) : MS l D M d mc ms Q uc us pc ls (vI x :: sk) st := by
  intro p e s m args below meth c X ad0 al0 ad H locs lsA he ha hR hoL hoS hlo hlc
  exact lv_if_eq X.1 X.2.1 hd ht (fun hh => (kt hh p e s m args below meth c X ad0 al0 ad H locs lsA he ha hR hoL hoS.2 hlo hlc)) (fun hh => (kf hh p e s m args below meth c X ad0 al0 ad H locs lsA he ha hR hoL hoS.2 hlo hlc))
theorem jm_icmp_eq {x y : Int32} {off : Int} {tgt : Nat} (hd : decode M.2.1 pc = .ok (.if_icmp .eq off, 3)) (ht : (pc : Int) + off = (tgt : Int)) (kt : x = y → MS l D M d mc ms Q uc us tgt ls sk st) (kf : ¬ x = y → MS l D M d mc ms Q uc us (pc + 3) ls sk st) : MS l D M d mc ms Q uc us pc ls (vI y :: vI x :: sk) st := by
  intro p e s m args below meth c X ad0 al0 ad H locs lsA he ha hR hoL hoS hlo hlc
  exact lv_icmp_eq X.1 X.2.1 hd ht (fun hh => (kt hh p e s m args below meth c X ad0 al0 ad H locs lsA he ha hR hoL hoS.2.2 hlo hlc)) (fun hh => (kf hh p e s m args below meth c X ad0 al0 ad H locs lsA he ha hR hoL hoS.2.2 hlo hlc))
theorem jm_if_ne {x : Int32} {off : Int} {tgt : Nat} (hd : decode M.2.1 pc = .ok (.ifCond .ne off, 3)) (ht : (pc : Int) + off = (tgt : Int)) (kt : ¬ x = 0 → MS l D M d mc ms Q uc us tgt ls sk st) (kf : x = 0 → MS l D M d mc ms Q uc us (pc + 3) ls sk st) : MS l D M d mc ms Q uc us pc ls (vI x :: sk) st := by
  intro p e s m args below meth c X ad0 al0 ad H locs lsA he ha hR hoL hoS hlo hlc
  exact lv_if_ne X.1 X.2.1 hd ht (fun hh => (kt hh p e s m args below meth c X ad0 al0 ad H locs lsA he ha hR hoL hoS.2 hlo hlc)) (fun hh => (kf hh p e s m args below meth c X ad0 al0 ad H locs lsA he ha hR hoL hoS.2 hlo hlc))
theorem jm_icmp_ne {x y : Int32} {off : Int} {tgt : Nat} (hd : decode M.2.1 pc = .ok (.if_icmp .ne off, 3)) (ht : (pc : Int) + off = (tgt : Int)) (kt : ¬ x = y → MS l D M d mc ms Q uc us tgt ls sk st) (kf : x = y → MS l D M d mc ms Q uc us (pc + 3) ls sk st) : MS l D M d mc ms Q uc us pc ls (vI y :: vI x :: sk) st := by
  intro p e s m args below meth c X ad0 al0 ad H locs lsA he ha hR hoL hoS hlo hlc
  exact lv_icmp_ne X.1 X.2.1 hd ht (fun hh => (kt hh p e s m args below meth c X ad0 al0 ad H locs lsA he ha hR hoL hoS.2.2 hlo hlc)) (fun hh => (kf hh p e s m args below meth c X ad0 al0 ad H locs lsA he ha hR hoL hoS.2.2 hlo hlc))
theorem jm_if_lt {x : Int32} {off : Int} {tgt : Nat} (hd : decode M.2.1 pc = .ok (.ifCond .lt off, 3)) (ht : (pc : Int) + off = (tgt : Int)) (kt : x < 0 → MS l D M d mc ms Q uc us tgt ls sk st) (kf : ¬ x < 0 → MS l D M d mc ms Q uc us (pc + 3) ls sk st) : MS l D M d mc ms Q uc us pc ls (vI x :: sk) st := by
  intro p e s m args below meth c X ad0 al0 ad H locs lsA he ha hR hoL hoS hlo hlc
  exact lv_if_lt X.1 X.2.1 hd ht (fun hh => (kt hh p e s m args below meth c X ad0 al0 ad H locs lsA he ha hR hoL hoS.2 hlo hlc)) (fun hh => (kf hh p e s m args below meth c X ad0 al0 ad H locs lsA he ha hR hoL hoS.2 hlo hlc))
theorem jm_icmp_lt {x y : Int32} {off : Int} {tgt : Nat} (hd : decode M.2.1 pc = .ok (.if_icmp .lt off, 3)) (ht : (pc : Int) + off = (tgt : Int)) (kt : x < y → MS l D M d mc ms Q uc us tgt ls sk st) (kf : ¬ x < y → MS l D M d mc ms Q uc us (pc + 3) ls sk st) : MS l D M d mc ms Q uc us pc ls (vI y :: vI x :: sk) st := by
  intro p e s m args below meth c X ad0 al0 ad H locs lsA he ha hR hoL hoS hlo hlc
  exact lv_icmp_lt X.1 X.2.1 hd ht (fun hh => (kt hh p e s m args below meth c X ad0 al0 ad H locs lsA he ha hR hoL hoS.2.2 hlo hlc)) (fun hh => (kf hh p e s m args below meth c X ad0 al0 ad H locs lsA he ha hR hoL hoS.2.2 hlo hlc))
theorem jm_if_ge {x : Int32} {off : Int} {tgt : Nat} (hd : decode M.2.1 pc = .ok (.ifCond .ge off, 3)) (ht : (pc : Int) + off = (tgt : Int)) (kt : 0 ≤ x → MS l D M d mc ms Q uc us tgt ls sk st) (kf : ¬ 0 ≤ x → MS l D M d mc ms Q uc us (pc + 3) ls sk st) : MS l D M d mc ms Q uc us pc ls (vI x :: sk) st := by
  intro p e s m args below meth c X ad0 al0 ad H locs lsA he ha hR hoL hoS hlo hlc
  exact lv_if_ge X.1 X.2.1 hd ht (fun hh => (kt hh p e s m args below meth c X ad0 al0 ad H locs lsA he ha hR hoL hoS.2 hlo hlc)) (fun hh => (kf hh p e s m args below meth c X ad0 al0 ad H locs lsA he ha hR hoL hoS.2 hlo hlc))
theorem jm_icmp_ge {x y : Int32} {off : Int} {tgt : Nat} (hd : decode M.2.1 pc = .ok (.if_icmp .ge off, 3)) (ht : (pc : Int) + off = (tgt : Int)) (kt : y ≤ x → MS l D M d mc ms Q uc us tgt ls sk st) (kf : ¬ y ≤ x → MS l D M d mc ms Q uc us (pc + 3) ls sk st) : MS l D M d mc ms Q uc us pc ls (vI y :: vI x :: sk) st := by
  intro p e s m args below meth c X ad0 al0 ad H locs lsA he ha hR hoL hoS hlo hlc
  exact lv_icmp_ge X.1 X.2.1 hd ht (fun hh => (kt hh p e s m args below meth c X ad0 al0 ad H locs lsA he ha hR hoL hoS.2.2 hlo hlc)) (fun hh => (kf hh p e s m args below meth c X ad0 al0 ad H locs lsA he ha hR hoL hoS.2.2 hlo hlc))
theorem jm_if_gt {x : Int32} {off : Int} {tgt : Nat} (hd : decode M.2.1 pc = .ok (.ifCond .gt off, 3)) (ht : (pc : Int) + off = (tgt : Int)) (kt : 0 < x → MS l D M d mc ms Q uc us tgt ls sk st) (kf : ¬ 0 < x → MS l D M d mc ms Q uc us (pc + 3) ls sk st) : MS l D M d mc ms Q uc us pc ls (vI x :: sk) st := by
  intro p e s m args below meth c X ad0 al0 ad H locs lsA he ha hR hoL hoS hlo hlc
  exact lv_if_gt X.1 X.2.1 hd ht (fun hh => (kt hh p e s m args below meth c X ad0 al0 ad H locs lsA he ha hR hoL hoS.2 hlo hlc)) (fun hh => (kf hh p e s m args below meth c X ad0 al0 ad H locs lsA he ha hR hoL hoS.2 hlo hlc))
theorem jm_icmp_gt {x y : Int32} {off : Int} {tgt : Nat} (hd : decode M.2.1 pc = .ok (.if_icmp .gt off, 3)) (ht : (pc : Int) + off = (tgt : Int)) (kt : y < x → MS l D M d mc ms Q uc us tgt ls sk st) (kf : ¬ y < x → MS l D M d mc ms Q uc us (pc + 3) ls sk st) : MS l D M d mc ms Q uc us pc ls (vI y :: vI x :: sk) st := by
  intro p e s m args below meth c X ad0 al0 ad H locs lsA he ha hR hoL hoS hlo hlc
  exact lv_icmp_gt X.1 X.2.1 hd ht (fun hh => (kt hh p e s m args below meth c X ad0 al0 ad H locs lsA he ha hR hoL hoS.2.2 hlo hlc)) (fun hh => (kf hh p e s m args below meth c X ad0 al0 ad H locs lsA he ha hR hoL hoS.2.2 hlo hlc))
theorem jm_if_le {x : Int32} {off : Int} {tgt : Nat} (hd : decode M.2.1 pc = .ok (.ifCond .le off, 3)) (ht : (pc : Int) + off = (tgt : Int)) (kt : x ≤ 0 → MS l D M d mc ms Q uc us tgt ls sk st) (kf : ¬ x ≤ 0 → MS l D M d mc ms Q uc us (pc + 3) ls sk st) : MS l D M d mc ms Q uc us pc ls (vI x :: sk) st := by
  intro p e s m args below meth c X ad0 al0 ad H locs lsA he ha hR hoL hoS hlo hlc
  exact lv_if_le X.1 X.2.1 hd ht (fun hh => (kt hh p e s m args below meth c X ad0 al0 ad H locs lsA he ha hR hoL hoS.2 hlo hlc)) (fun hh => (kf hh p e s m args below meth c X ad0 al0 ad H locs lsA he ha hR hoL hoS.2 hlo hlc))
theorem jm_icmp_le {x y : Int32} {off : Int} {tgt : Nat} (hd : decode M.2.1 pc = .ok (.if_icmp .le off, 3)) (ht : (pc : Int) + off = (tgt : Int)) (kt : x ≤ y → MS l D M d mc ms Q uc us tgt ls sk st) (kf : ¬ x ≤ y → MS l D M d mc ms Q uc us (pc + 3) ls sk st) : MS l D M d mc ms Q uc us pc ls (vI y :: vI x :: sk) st := by
  intro p e s m args below meth c X ad0 al0 ad H locs lsA he ha hR hoL hoS hlo hlc
  exact lv_icmp_le X.1 X.2.1 hd ht (fun hh => (kt hh p e s m args below meth c X ad0 al0 ad H locs lsA he ha hR hoL hoS.2.2 hlo hlc)) (fun hh => (kf hh p e s m args below meth c X ad0 al0 ad H locs lsA he ha hR hoL hoS.2.2 hlo hlc))
theorem jm_goto {off : Int} {tgt : Nat} (hd : decode M.2.1 pc = .ok (.goto off, 3)) (ht : (pc : Int) + off = (tgt : Int)) (kk : MS l D M d mc ms Q uc us tgt ls sk st) : MS l D M d mc ms Q uc us pc ls sk st := by
  intro p e s m args below meth c X ad0 al0 ad H locs lsA he ha hR hoL hoS hlo hlc
  exact lv_goto X.1 X.2.1 hd ht (kk p e s m args below meth c X ad0 al0 ad H locs lsA he ha hR hoL hoS hlo hlc)
theorem jm_ifnull {r : Option (Nat × Nat)} {off : Int} {tgt : Nat} (hd : decode M.2.1 pc = .ok (.ifnull off, 3)) (ht : (pc : Int) + off = (tgt : Int)) (kt : r = none → MS l D M d mc ms Q uc us tgt ls sk st) (kf : ∀ q, r = some q → MS l D M d mc ms Q uc us (pc + 3) ls sk st) : MS l D M d mc ms Q uc us pc ls (vR r :: sk) st := by
  intro p e s m args below meth c X ad0 al0 ad H locs lsA he ha hR hoL hoS hlo hlc
  cases r with
  | none => exact lv_ifnullN X.1 X.2.1 hd ht (kt rfl p e s m args below meth c X ad0 al0 ad H locs lsA he ha hR hoL hoS.2 hlo hlc)
  | some q => exact lv_ifnull X.1 X.2.1 hd (kf q rfl p e s m args below meth c X ad0 al0 ad H locs lsA he ha hR hoL hoS.2 hlo hlc)
theorem jm_ifnonnull {r : Option (Nat × Nat)} {off : Int} {tgt : Nat} (hd : decode M.2.1 pc = .ok (.ifnonnull off, 3)) (ht : (pc : Int) + off = (tgt : Int)) (kt : ∀ q, r = some q → MS l D M d mc ms Q uc us tgt ls sk st) (kf : r = none → MS l D M d mc ms Q uc us (pc + 3) ls sk st) : MS l D M d mc ms Q uc us pc ls (vR r :: sk) st := by
  intro p e s m args below meth c X ad0 al0 ad H locs lsA he ha hR hoL hoS hlo hlc
  cases r with
  | none => exact lv_ifnonnullN X.1 X.2.1 hd (kf rfl p e s m args below meth c X ad0 al0 ad H locs lsA he ha hR hoL hoS.2 hlo hlc)
  | some q => exact lv_ifnonnull X.1 X.2.1 hd ht (kt q rfl p e s m args below meth c X ad0 al0 ad H locs lsA he ha hR hoL hoS.2 hlo hlc)
theorem jm_inj {ad : Nat → Nat → Nat} {H : Heap} (hR : jm_R D ad st H) {r t : Option (Nat × Nat)} (hr : jm_ok st.2.2.2 (vR r)) (ht : jm_ok st.2.2.2 (vR t)) (h : (r.map fun q => ad q.1 q.2) = t.map fun q => ad q.1 q.2) : r = t := by
  cases r with
  | none => cases t with
    | none => rfl
    | some q => cases h
  | some q => cases t with
    | none => cases h
    | some q' =>
      have h1 := hR.2.1 q.1 q.2 q'.1 q'.2 hr ht (Option.some.inj h)
      rw [show q = q' from Prod.ext h1.1 h1.2]
theorem jm_acmp_eq {r t : Option (Nat × Nat)} {off : Int} {tgt : Nat} (hd : decode M.2.1 pc = .ok (.if_acmp .eq off, 3)) (ht : (pc : Int) + off = (tgt : Int)) (kt : r = t → MS l D M d mc ms Q uc us tgt ls sk st) (kf : ¬ r = t → MS l D M d mc ms Q uc us (pc + 3) ls sk st) : MS l D M d mc ms Q uc us pc ls (vR t :: vR r :: sk) st := by
  intro p e s m args below meth c X ad0 al0 ad H locs lsA he ha hR hoL hoS hlo hlc
  exact lv_acmp_eq (rx := r.map fun q => ad q.1 q.2) (ry := t.map fun q => ad q.1 q.2) X.1 X.2.1 hd ht (fun hh => kt (jm_inj hR hoS.2.1 hoS.1 hh) p e s m args below meth c X ad0 al0 ad H locs lsA he ha hR hoL hoS.2.2 hlo hlc) (fun hh => kf (fun z => hh (by rw [z])) p e s m args below meth c X ad0 al0 ad H locs lsA he ha hR hoL hoS.2.2 hlo hlc)
theorem jm_acmp_ne {r t : Option (Nat × Nat)} {off : Int} {tgt : Nat} (hd : decode M.2.1 pc = .ok (.if_acmp .ne off, 3)) (ht : (pc : Int) + off = (tgt : Int)) (kt : ¬ r = t → MS l D M d mc ms Q uc us tgt ls sk st) (kf : r = t → MS l D M d mc ms Q uc us (pc + 3) ls sk st) : MS l D M d mc ms Q uc us pc ls (vR t :: vR r :: sk) st := by
  intro p e s m args below meth c X ad0 al0 ad H locs lsA he ha hR hoL hoS hlo hlc
  exact lv_acmp_ne (rx := r.map fun q => ad q.1 q.2) (ry := t.map fun q => ad q.1 q.2) X.1 X.2.1 hd ht (fun hh => kt (fun z => hh (by rw [z])) p e s m args below meth c X ad0 al0 ad H locs lsA he ha hR hoL hoS.2.2 hlo hlc) (fun hh => kf (jm_inj hR hoS.2.1 hoS.1 hh) p e s m args below meth c X ad0 al0 ad H locs lsA he ha hR hoL hoS.2.2 hlo hlc)
theorem jm_lookup {dflt : Int} {ps : Array (Int × Int)} {len : Nat} {x : Int32} {off : Int} {tgt : Nat} (hd : decode M.2.1 pc = .ok (.lookupswitch dflt ps, len)) (hp : (ps.toList.zip (ps.toList.drop 1)).all (fun (a, next) => a.1 < next.1) = true) (ho : Op.lookupswitch.offset ps.toList dflt x.toInt = off) (ht : (pc : Int) + off = (tgt : Int)) (kk : MS l D M d mc ms Q uc us tgt ls sk st) : MS l D M d mc ms Q uc us pc ls (vI x :: sk) st := by
  intro p e s m args below meth c X ad0 al0 ad H locs lsA he ha hR hoL hoS hlo hlc
  exact lv_lookup X.1 X.2.1 hd hp ho ht (kk p e s m args below meth c X ad0 al0 ad H locs lsA he ha hR hoL hoS.2 hlo hlc)
theorem jm_tableOut {dflt lo hi : Int} {offs : Array Int} {len : Nat} {x : Int32} {tgt : Nat} (hd : decode M.2.1 pc = .ok (.tableswitch dflt lo hi offs, len)) (h : x.toInt < lo ∨ hi < x.toInt) (ht : (pc : Int) + dflt = (tgt : Int)) (kk : MS l D M d mc ms Q uc us tgt ls sk st) : MS l D M d mc ms Q uc us pc ls (vI x :: sk) st := by
  intro p e s m args below meth c X ad0 al0 ad H locs lsA he ha hR hoL hoS hlo hlc
  exact lv_tableOut X.1 X.2.1 hd h ht (kk p e s m args below meth c X ad0 al0 ad H locs lsA he ha hR hoL hoS.2 hlo hlc)
theorem jm_tableIn {dflt lo hi : Int} {offs : Array Int} {len : Nat} {x : Int32} {off : Int} {tgt : Nat} (hd : decode M.2.1 pc = .ok (.tableswitch dflt lo hi offs, len)) (h1 : ¬ x.toInt < lo) (h2 : ¬ hi < x.toInt) (ho : offs[(x.toInt - lo).toNat]? = some off) (ht : (pc : Int) + off = (tgt : Int)) (kk : MS l D M d mc ms Q uc us tgt ls sk st) : MS l D M d mc ms Q uc us pc ls (vI x :: sk) st := by
  intro p e s m args below meth c X ad0 al0 ad H locs lsA he ha hR hoL hoS hlo hlc
  exact lv_tableIn X.1 X.2.1 hd h1 h2 ho ht (kk p e s m args below meth c X ad0 al0 ad H locs lsA he ha hR hoL hoS.2 hlo hlc)
def jm_FL (own : String) (idx ci j : Nat) : Prop := ∃ q : vw_C, vwCl[ci]? = some q ∧ j < q.2.2 ∧ (Cond.fieldLink own idx (q.2.1 j).1 (q.2.1 j).2.1 (q.2.1 j).2.2.1 ∈ jm_tb ∨ ∃ host, Cond.fieldLinkNest own idx (q.2.1 j).1 (q.2.1 j).2.1 (q.2.1 j).2.2.1 host ∈ jm_nest)
theorem jm_Wget {p : Program} {e : Env} {R : Room} {s : State} {m : MethodId} {args : Array Value} {below : List Frame} {meth : Method} {c : Code} {H : Heap} {locs : List Loc} {cells slots : Nat} {Qw : State → Prop} {ad : Nat → Nat → Nat} {lsA : Array Slot} {rest : List Value} {k i j ci idx : Nat} (X : jm_X M D p s m args meth c) (hR : jm_R D ad st H) (hi : i < st.2.2.2 k) (hk : kob k = some ci) (hl : jm_FL M.1.cls idx ci j) (hd : decode M.2.1 pc = .ok (.getfield idx, 3))
    (kk : W p l e R s m args below meth c H locs cells slots Qw (F0 m (pc + 3) lsA (jm_val ad st k i j :: rest))) : W p l e R s m args below meth c H locs cells slots Qw (F0 m pc lsA (.ref (ad k i) :: rest)) := by
  obtain ⟨q, hq, hj, hlink⟩ := hl
  have hc := hR.1 k i hi
  unfold jm_cell at hc
  rw [hk] at hc
  obtain ⟨q', hq', cell, g1, g2, g3, g4⟩ := hc
  cases hq.symm.trans hq'
  obtain ⟨hx, hb, -, -, -, hown, -, hts, hK⟩ := X
  obtain ⟨hS, hfc, kC, hkC, hkind⟩ := hK.1.1 ci q hq
  obtain ⟨cf, kf, fi, f, hf, hsl⟩ := hS j hj
  have hst := (u_facts hfc hkC (u_lays hts (jm_lays ci q hq) hj) hf).1
  rcases hlink with hw | ⟨host, hw⟩
  · exact W.getf hx hb hown (hts _ hw) hf hst g1 (by rw [g3]; exact fun h => by cases h) (v := jm_val ad st k i j) (by rw [hsl]; exact g4 j hj) rfl rfl hd kk
  · exact va_Wgetf hx hb hown (va_Nw.use rfl (hK.2.2.1 _ hw)) hf hst g1 (by rw [g3]; exact fun h => by cases h) (v := jm_val ad st k i j) (by rw [hsl]; exact g4 j hj) rfl rfl hd kk
theorem jm_geti {k i j ci idx : Nat} (hl : jm_FL M.1.cls idx ci j) (hd : decode M.2.1 pc = .ok (.getfield idx, 3)) (hk : kob k = some ci) (hv : ∀ ad, jm_val ad st k i j = .int (st.1 k i j)) (kk : MS l D M d mc ms Q uc us (pc + 3) ls (vI (st.1 k i j) :: sk) st) : MS l D M d mc ms Q uc us pc ls (vR (some (k, i)) :: sk) st := by
  intro p e s m args below meth c X ad0 al0 ad H locs lsA he ha hR hoL hoS hlo hlc
  refine jm_Wget X hR hoS.1 hk hl hd ?_
  rw [hv]
  exact (kk p e s m args below meth c X ad0 al0 ad H locs lsA he ha hR hoL ⟨trivial, hoS.2⟩ hlo hlc)
theorem jm_getl {k i j ci idx : Nat} (hl : jm_FL M.1.cls idx ci j) (hd : decode M.2.1 pc = .ok (.getfield idx, 3)) (hk : kob k = some ci) (hv : ∀ ad, jm_val ad st k i j = .long (st.2.1 k i j)) (kk : MS l D M d mc ms Q uc us (pc + 3) ls (vL (st.2.1 k i j) :: sk) st) : MS l D M d mc ms Q uc us pc ls (vR (some (k, i)) :: sk) st := by
  intro p e s m args below meth c X ad0 al0 ad H locs lsA he ha hR hoL hoS hlo hlc
  refine jm_Wget X hR hoS.1 hk hl hd ?_
  rw [hv]
  exact (kk p e s m args below meth c X ad0 al0 ad H locs lsA he ha hR hoL ⟨trivial, hoS.2⟩ hlo hlc)
theorem jm_okR {ad : Nat → Nat → Nat} {H : Heap} (hR : jm_R D ad st H) {k i j c : Nat} (hi : i < st.2.2.2 k) (hc : kly k j = c + 3) : jm_ok st.2.2.2 (vR ((st.2.2.1 k i j).map (Prod.mk c))) := by
  cases ht : st.2.2.1 k i j with
  | none => trivial
  | some t => exact hR.2.2.2.1 k i j c hi hc t ht
theorem jm_valR {ad : Nat → Nat → Nat} {k i j c : Nat} (hc : kly k j = c + 3) : jm_val ad st k i j = jm_c ad (vR ((st.2.2.1 k i j).map (Prod.mk c))) := by
  unfold jm_val
  rw [hc]
  show va_rf _ = va_rf _
  rw [Option.map_map]
  rfl
theorem jm_getr {k i j ci idx c0 : Nat} (hl : jm_FL M.1.cls idx ci j) (hd : decode M.2.1 pc = .ok (.getfield idx, 3)) (hk : kob k = some ci) (hc : kly k j = c0 + 3) (kk : MS l D M d mc ms Q uc us (pc + 3) ls (vR ((st.2.2.1 k i j).map (Prod.mk c0)) :: sk) st) : MS l D M d mc ms Q uc us pc ls (vR (some (k, i)) :: sk) st := by
  intro p e s m args below meth c X ad0 al0 ad H locs lsA he ha hR hoL hoS hlo hlc
  refine jm_Wget X hR hoS.1 hk hl hd ?_
  rw [jm_valR hc]
  exact (kk p e s m args below meth c X ad0 al0 ad H locs lsA he ha hR hoL ⟨jm_okR hR hoS.1 hc, hoS.2⟩ hlo hlc)
def jm_FP (M : mM) (idx ci j : Nat) (ty : FieldType) : Prop := ∃ q : vw_C, vwCl[ci]? = some q ∧ j < q.2.2 ∧ parseFieldDescriptor (q.2.1 j).2.2.1 = some ty ∧ (((q.2.1 j).2.2.2 = false ∧ (Cond.fieldLink M.1.cls idx (q.2.1 j).1 (q.2.1 j).2.1 (q.2.1 j).2.2.1 ∈ jm_tb ∨ ∃ host, Cond.fieldLinkNest M.1.cls idx (q.2.1 j).1 (q.2.1 j).2.1 (q.2.1 j).2.2.1 host ∈ jm_nest)) ∨ ((q.2.1 j).2.2.2 = true ∧ M.1.name = "<init>" ∧ (q.2.1 j).1 = M.1.cls ∧ Cond.fieldLink M.1.cls idx (q.2.1 j).1 (q.2.1 j).2.1 (q.2.1 j).2.2.1 ∈ jm_tb))
theorem jm_Wput {p : Program} {e : Env} {R : Room} {s : State} {m : MethodId} {args : Array Value} {below : List Frame} {meth : Method} {c : Code} {H : Heap} {locs : List Loc} {cells slots : Nat} {Qw : State → Prop} {ad : Nat → Nat → Nat} {lsA : Array Slot} {rest : List Value} {k i j ci idx : Nat} {ty : FieldType} {v : Value} {st' : aS} (X : jm_X M D p s m args meth c) (hR : jm_R D ad st H) (hi : i < st.2.2.2 k) (hk : kob k = some ci) (hl : jm_FP M idx ci j ty) (hn : narrow ty v = v) (hfit : fits ty v = true) (hlc : ∀ q ∈ locs, D.2.1.size ≤ q.base) (hd : decode M.2.1 pc = .ok (.putfield idx, 3))
    (hal : st'.2.2.2 = st.2.2.2) (hs : ∀ a b, ¬ (a = k ∧ b = i) → ∀ j, st'.1 a b j = st.1 a b j ∧ st'.2.1 a b j = st.2.1 a b j ∧ st'.2.2.1 a b j = st.2.2.1 a b j) (hcl : ∀ j c, kly k j = c + 3 → ∀ t, st'.2.2.1 k i j = some t → t < st.2.2.2 c) (hv : ∀ j', jm_val ad st' k i j' = if j' = j then v else jm_val ad st k i j')
    (kk : ∀ (H1 : Heap) (locs1 : List Loc), jm_R D ad st' H1 → (∀ q ∈ locs1, D.2.1.size ≤ q.base) → W p l e R s m args below meth c H1 locs1 cells slots Qw (F0 m (pc + 3) lsA rest)) : W p l e R s m args below meth c H locs cells slots Qw (F0 m pc lsA (v :: .ref (ad k i) :: rest)) := by
  obtain ⟨q, hq, hj, hty, hcase⟩ := hl
  have hc := hR.1 k i hi
  unfold jm_cell at hc
  rw [hk] at hc
  obtain ⟨q', hq', cell, g1, g2, g3, g4⟩ := hc
  cases hq.symm.trans hq'
  obtain ⟨hx, hb, -, -, -, hown, hnm, hts, hK⟩ := X
  obtain ⟨ty0, hty0⟩ := jm_tys ci q hq
  have hap := va_apart (own := M.1.cls) hts (jm_lays ci q hq) ty0 hty0 (jm_nms ci q hq) hK.1 hq
  obtain ⟨hS, hfc, kC, hkC, hkind⟩ := hK.1.1 ci q hq
  obtain ⟨cf, kf, fi, f, hf, hsl⟩ := hS j hj
  have hlays := u_lays hts (jm_lays ci q hq) hj
  have hst := (u_facts hfc hkC hlays hf).1
  have fin : ∀ H1 : Heap, H1[ad k i]? = some (cell.setSlot f.slot v) → H1.size = H.size → (∀ z, z ≠ ad k i → H1[z]? = H[z]?) → W p l e R s m args below meth c H1 (locs ++ [⟨ad k i, f.slot⟩]) cells slots Qw (F0 m (pc + 3) lsA rest) := by
    intro H1 e1 e2 e3
    refine kk H1 _ (hR.set hi hal hs hcl e2 e3 ?_) ?_
    · unfold jm_cell
      rw [hk]
      refine ⟨q, hq, t_OB.to (V := updV (jm_val ad st k i) j v) ⟨_, e1, g2, g3, ?_⟩ (fun j' _ => ?_)⟩
      · rw [hsl]; exact t_set g4 hap hj v
      · rw [hv]; rfl
    · intro z hz
      rcases List.mem_append.mp hz with h | h
      · exact hlc z h
      · rw [List.mem_singleton.mp h]; exact hR.2.2.1 k i hi
  rcases hcase with ⟨hfin, hw⟩ | ⟨hfin, hini, hdecl, hw⟩
  · have hlay := hts _ (jm_lays ci q hq _ (u_in_lay hj))
    unfold u_lay at hlay
    rw [if_neg (by rw [hfin]; decide)] at hlay
    have h6 := u_store hfc hkC hkind hlay hf hty hn hfit
    rcases hw with hw | ⟨host, hw⟩
    · exact W.putK hx hb (f := f) ⟨hown, hts _ hw, ⟨_, _, _, hf⟩, hst⟩ (by rw [g2]; exact h6) g1 g3 (by rw [hsl]; exact k2_hasslot (g4 j hj)) rfl rfl hd fin
    · exact va_WputK hx hb (f := f) hown (va_Nw.use rfl (hK.2.2.1 _ hw)) hf hst (by rw [g2]; exact h6) g1 g3 (by rw [hsl]; exact k2_hasslot (g4 j hj)) rfl rfl hd fin
  · have hlay := hts _ (jm_lays ci q hq _ (u_in_lay hj))
    unfold u_lay at hlay
    rw [if_pos hfin] at hlay
    have hcf : m.cls = cf := by
      obtain ⟨_, _, c', _, _, _, -, -, hf', -, -, -, hown2, -⟩ := Cond.laysFinal_spec hlay
      have e1 : c' = cf := by have := hf.symm.trans hf'; simp at this; exact this.1.symm
      rw [hdecl] at hown2
      rw [← e1]; exact Option.some.inj (hown.symm.trans hown2)
    have h6 := u_fits hfc hkC hkind (Or.inr hlay) hf hty hn hfit
    exact W.putFinK hx hb hown (hts _ hw) hf hst hcf (by rw [hnm]; exact hini) (by rw [g2]; exact h6) g1 g3 (by rw [hsl]; exact k2_hasslot (g4 j hj)) rfl rfl hd fin
theorem u3_ne {α : Type} {f : Nat → Nat → Nat → α} {k i j a b c : Nat} {v : α} (h : ¬ (a = k ∧ b = i)) : u3 f k i j v a b c = f a b c := by
  unfold u3
  rw [if_neg (fun q => h ⟨q.1, q.2.1⟩)]
theorem u3_at {α : Type} {f : Nat → Nat → Nat → α} {k i j c : Nat} {v : α} : u3 f k i j v k i c = if c = j then v else f k i c := by
  unfold u3
  by_cases h : c = j
  · rw [if_pos ⟨rfl, rfl, h⟩, if_pos h]
  · rw [if_neg (fun q => h q.2.2), if_neg h]
theorem jm_vI {ad : Nat → Nat → Nat} {k i j : Nat} {x : Int32} (hc : kly k j = 0 ∨ kly k j = 2) (j' : Nat) : jm_val ad (sI st k i j x) k i j' = if j' = j then .int x else jm_val ad st k i j' := by
  unfold jm_val sI
  simp only [u3_at]
  by_cases h : j' = j
  · subst h
    rcases hc with hc | hc <;> simp [hc]
  · simp [h]
theorem jm_vL {ad : Nat → Nat → Nat} {k i j : Nat} {x : Int64} (hc : kly k j = 1) (j' : Nat) : jm_val ad (sL st k i j x) k i j' = if j' = j then .long x else jm_val ad st k i j' := by
  unfold jm_val sL
  simp only [u3_at]
  by_cases h : j' = j
  · subst h
    simp [hc]
  · simp [h]
theorem jm_vR {ad : Nat → Nat → Nat} {k i j c : Nat} {t : Option Nat} (hc : kly k j = c + 3) (j' : Nat) : jm_val ad (sR st k i j t) k i j' = if j' = j then va_rf (t.map (ad c)) else jm_val ad st k i j' := by
  unfold jm_val sR
  simp only [u3_at]
  by_cases h : j' = j
  · subst h
    simp [hc]
  · simp [h]
theorem jm_puti {k i j ci idx : Nat} {x : Int32} (hl : jm_FP M idx ci j .int) (hd : decode M.2.1 pc = .ok (.putfield idx, 3)) (hk : kob k = some ci) (hc : kly k j = 0) (kk : MS l D M d mc ms Q uc us (pc + 3) ls sk (sI st k i j x)) : MS l D M d mc ms Q uc us pc ls (vI x :: vR (some (k, i)) :: sk) st := by
  intro p e s m args below meth c X ad0 al0 ad H locs lsA he ha hR hoL hoS hlo hlc
  exact jm_Wput (st' := sI st k i j x) X hR hoS.2.1 hk hl rfl rfl hlc hd rfl (fun a b h j' => ⟨u3_ne h, rfl, rfl⟩) (fun j' c0 h t => hR.2.2.2.1 k i j' c0 hoS.2.1 h t) (jm_vI (Or.inl hc)) (fun H1 locs1 hR1 hl1 => kk p e s m args below meth c X ad0 al0 ad H1 locs1 lsA he ha hR1 hoL hoS.2.2 hlo hl1)
theorem jm_putz {k i j ci idx : Nat} {x : Int32} (hl : jm_FP M idx ci j .boolean) (hd : decode M.2.1 pc = .ok (.putfield idx, 3)) (hk : kob k = some ci) (hc : kly k j = 2) (hx : x = 0 ∨ x = 1) (kk : MS l D M d mc ms Q uc us (pc + 3) ls sk (sI st k i j x)) : MS l D M d mc ms Q uc us pc ls (vI x :: vR (some (k, i)) :: sk) st := by
  intro p e s m args below meth c X ad0 al0 ad H locs lsA he ha hR hoL hoS hlo hlc
  exact jm_Wput (st' := sI st k i j x) X hR hoS.2.1 hk hl (by rcases hx with rfl | rfl <;> rfl) (by rcases hx with rfl | rfl <;> rfl) hlc hd rfl (fun a b h j' => ⟨u3_ne h, rfl, rfl⟩) (fun j' c0 h t => hR.2.2.2.1 k i j' c0 hoS.2.1 h t) (jm_vI (Or.inr hc)) (fun H1 locs1 hR1 hl1 => kk p e s m args below meth c X ad0 al0 ad H1 locs1 lsA he ha hR1 hoL hoS.2.2 hlo hl1)
theorem jm_putl {k i j ci idx : Nat} {x : Int64} (hl : jm_FP M idx ci j .long) (hd : decode M.2.1 pc = .ok (.putfield idx, 3)) (hk : kob k = some ci) (hc : kly k j = 1) (kk : MS l D M d mc ms Q uc us (pc + 3) ls sk (sL st k i j x)) : MS l D M d mc ms Q uc us pc ls (vL x :: vR (some (k, i)) :: sk) st := by
  intro p e s m args below meth c X ad0 al0 ad H locs lsA he ha hR hoL hoS hlo hlc
  exact jm_Wput (st' := sL st k i j x) X hR hoS.2.1 hk hl rfl rfl hlc hd rfl (fun a b h j' => ⟨rfl, u3_ne h, rfl⟩) (fun j' c0 h t => hR.2.2.2.1 k i j' c0 hoS.2.1 h t) (jm_vL hc) (fun H1 locs1 hR1 hl1 => kk p e s m args below meth c X ad0 al0 ad H1 locs1 lsA he ha hR1 hoL hoS.2.2 hlo hl1)
theorem jm_putr {k i j ci idx c0 : Nat} {ty : FieldType} {r : Option (Nat × Nat)} (t : Option Nat) (hr : r = t.map (Prod.mk c0)) (hl : jm_FP M idx ci j ty) (hd : decode M.2.1 pc = .ok (.putfield idx, 3)) (hk : kob k = some ci) (hc : kly k j = c0 + 3) (hn : ∀ w : Option Nat, narrow ty (va_rf w) = va_rf w ∧ fits ty (va_rf w) = true) (kk : MS l D M d mc ms Q uc us (pc + 3) ls sk (sR st k i j t)) : MS l D M d mc ms Q uc us pc ls (vR r :: vR (some (k, i)) :: sk) st := by
  intro p e s m args below meth c X ad0 al0 ad H locs lsA he ha hR hoL hoS hlo hlc
  subst hr
  have ev : jm_c ad (vR (t.map (Prod.mk c0))) = va_rf (t.map (ad c0)) := by
    show va_rf _ = va_rf _
    rw [Option.map_map]
    rfl
  show W _ _ _ _ _ _ _ _ _ _ _ _ _ _ _ (F0 m pc lsA (jm_c ad (vR (t.map (Prod.mk c0))) :: _))
  rw [ev]
  refine jm_Wput (st' := sR st k i j t) X hR hoS.2.1 hk hl (hn _).1 (hn _).2 hlc hd rfl (fun a b h j' => ⟨rfl, rfl, u3_ne h⟩) (fun j' c1 h t' ht => ?_) (jm_vR hc) (fun H1 locs1 hR1 hl1 => kk p e s m args below meth c X ad0 al0 ad H1 locs1 lsA he ha hR1 hoL hoS.2.2 hlo hl1)
  simp only [sR, u3_at] at ht
  by_cases hj : j' = j
  · subst hj
    rw [if_pos rfl] at ht
    have hc1 : c1 = c0 := Nat.add_right_cancel (h.symm.trans hc)
    subst hc1
    have h0 := hoS.1
    rw [ht] at h0
    exact h0
  · rw [if_neg hj] at ht
    exact hR.2.2.2.1 k i j' c1 hoS.2.1 h t' ht
theorem jm_arr {p : Program} {s : State} {m : MethodId} {args : Array Value} {meth : Method} {c : Code} {H : Heap} {ad : Nat → Nat → Nat} {k i : Nat} (hR : jm_R D ad st H) (hi : i < st.2.2.2 k) (hk : kob k = none) : H[ad k i]? = some (arrV (D.2.2 (kat k)) (kln k) (jm_val ad st k i)) := by
  have h := hR.1 k i hi
  unfold jm_cell at h
  rw [hk] at h
  exact h
theorem jm_iald {k i : Nat} {x : Int32} (hd : decode M.2.1 pc = .ok (.iaload, 1)) (hk : kob k = none) (hn : kat k < katn) (ht : katy (kat k) = .int) (hc : ∀ j, kly k j = 0) (hin : vp_in x (kln k)) (kk : MS l D M d mc ms Q uc us (pc + 1) ls (vI (st.1 k i x.toNatClampNeg) :: sk) st) : MS l D M d mc ms Q uc us pc ls (vI x :: vR (some (k, i)) :: sk) st := by
  intro p e s m args below meth c X ad0 al0 ad H locs lsA he ha hR hoL hoS hlo hlc
  have hK := X.2.2.2.2.2.2.2.2
  have hlt : x.toNatClampNeg < kln k := Nat.not_le.mp fun q => hin (Or.inr q)
  have ev : jm_val ad st k i x.toNatClampNeg = jm_c ad (vI (st.1 k i x.toNatClampNeg)) := by
    unfold jm_val
    rw [hc]
    rfl
  exact W.iald (v := jm_c ad (vI (st.1 k i x.toNatClampNeg))) X.1 X.2.1 (jm_arr (p := p) (s := s) (m := m) (args := args) (meth := meth) (c := c) hR hoS.2.1 hk) (by have h := (hK.2.1 _ hn).1 (kln k) (jm_val ad st k i); rw [ht] at h; exact h) (fun q => by cases q) (by rw [arrV_size]; exact hin) (by rw [arrV_read _ _ hlt, ev]) rfl rfl hd (kk p e s m args below meth c X ad0 al0 ad H locs lsA he ha hR hoL ⟨trivial, hoS.2.2⟩ hlo hlc)
theorem jm_zald {k i : Nat} {x : Int32} (hd : decode M.2.1 pc = .ok (.baload, 1)) (hk : kob k = none) (hn : kat k < katn) (ht : katy (kat k) = .boolean) (hc : ∀ j, kly k j = 2) (hin : vp_in x (kln k)) (kk : MS l D M d mc ms Q uc us (pc + 1) ls (vI (st.1 k i x.toNatClampNeg) :: sk) st) : MS l D M d mc ms Q uc us pc ls (vI x :: vR (some (k, i)) :: sk) st := by
  intro p e s m args below meth c X ad0 al0 ad H locs lsA he ha hR hoL hoS hlo hlc
  have hK := X.2.2.2.2.2.2.2.2
  have hlt : x.toNatClampNeg < kln k := Nat.not_le.mp fun q => hin (Or.inr q)
  have ev : jm_val ad st k i x.toNatClampNeg = jm_c ad (vI (st.1 k i x.toNatClampNeg)) := by
    unfold jm_val
    rw [hc]
    rfl
  exact W.zald (v := jm_c ad (vI (st.1 k i x.toNatClampNeg))) X.1 X.2.1 (jm_arr (p := p) (s := s) (m := m) (args := args) (meth := meth) (c := c) hR hoS.2.1 hk) (by have h := (hK.2.1 _ hn).1 (kln k) (jm_val ad st k i); rw [ht] at h; exact h) (fun q => by cases q) (by rw [arrV_size]; exact hin) (by rw [arrV_read _ _ hlt, ev]) rfl rfl hd (kk p e s m args below meth c X ad0 al0 ad H locs lsA he ha hR hoL ⟨trivial, hoS.2.2⟩ hlo hlc)
theorem jm_lald {k i : Nat} {x : Int32} (hd : decode M.2.1 pc = .ok (.laload, 1)) (hk : kob k = none) (hn : kat k < katn) (ht : katy (kat k) = .long) (hc : ∀ j, kly k j = 1) (hin : vp_in x (kln k)) (kk : MS l D M d mc ms Q uc us (pc + 1) ls (vL (st.2.1 k i x.toNatClampNeg) :: sk) st) : MS l D M d mc ms Q uc us pc ls (vI x :: vR (some (k, i)) :: sk) st := by
  intro p e s m args below meth c X ad0 al0 ad H locs lsA he ha hR hoL hoS hlo hlc
  have hK := X.2.2.2.2.2.2.2.2
  have hlt : x.toNatClampNeg < kln k := Nat.not_le.mp fun q => hin (Or.inr q)
  have ev : jm_val ad st k i x.toNatClampNeg = jm_c ad (vL (st.2.1 k i x.toNatClampNeg)) := by
    unfold jm_val
    rw [hc]
    rfl
  exact W.lald (v := jm_c ad (vL (st.2.1 k i x.toNatClampNeg))) X.1 X.2.1 (jm_arr (p := p) (s := s) (m := m) (args := args) (meth := meth) (c := c) hR hoS.2.1 hk) (by have h := (hK.2.1 _ hn).1 (kln k) (jm_val ad st k i); rw [ht] at h; exact h) (fun q => by cases q) (by rw [arrV_size]; exact hin) (by rw [arrV_read _ _ hlt, ev]) rfl rfl hd (kk p e s m args below meth c X ad0 al0 ad H locs lsA he ha hR hoL ⟨trivial, hoS.2.2⟩ hlo hlc)
theorem jm_aald {k i c0 : Nat} {x : Int32} (hd : decode M.2.1 pc = .ok (.aaload, 1)) (hk : kob k = none) (hn : kat k < katn) (ht : (katy (kat k)).isReference = true) (hc : ∀ j, kly k j = c0 + 3) (hin : vp_in x (kln k)) (kk : MS l D M d mc ms Q uc us (pc + 1) ls (vR ((st.2.2.1 k i x.toNatClampNeg).map (Prod.mk c0)) :: sk) st) : MS l D M d mc ms Q uc us pc ls (vI x :: vR (some (k, i)) :: sk) st := by
  intro p e s m args below meth c X ad0 al0 ad H locs lsA he ha hR hoL hoS hlo hlc
  have hK := X.2.2.2.2.2.2.2.2
  have hlt : x.toNatClampNeg < kln k := Nat.not_le.mp fun q => hin (Or.inr q)
  exact W.aald (v := jm_c ad (vR ((st.2.2.1 k i x.toNatClampNeg).map (Prod.mk c0)))) X.1 X.2.1 (jm_arr (p := p) (s := s) (m := m) (args := args) (meth := meth) (c := c) hR hoS.2.1 hk) ((hK.2.1 _ hn).1 (kln k) (jm_val ad st k i)) ht (fun q => by cases q) (by rw [arrV_size]; exact hin) (by rw [arrV_read _ _ hlt, jm_valR (hc _)]) rfl rfl hd (kk p e s m args below meth c X ad0 al0 ad H locs lsA he ha hR hoL ⟨jm_okR hR hoS.2.1 (hc _), hoS.2.2⟩ hlo hlc)
theorem jm_alen {k i : Nat} (hd : decode M.2.1 pc = .ok (.arraylength, 1)) (hk : kob k = none) (hn : kat k < katn) (kk : MS l D M d mc ms Q uc us (pc + 1) ls (vI (nI (kln k)) :: sk) st) : MS l D M d mc ms Q uc us pc ls (vR (some (k, i)) :: sk) st := by
  intro p e s m args below meth c X ad0 al0 ad H locs lsA he ha hR hoL hoS hlo hlc
  have hK := X.2.2.2.2.2.2.2.2
  exact W.alen (n := nI (kln k)) X.1 X.2.1 (jm_arr (p := p) (s := s) (m := m) (args := args) (meth := meth) (c := c) hR hoS.1 hk) ((hK.2.1 _ hn).1 (kln k) (jm_val ad st k i)) (by rw [arrV_size]; rfl) rfl rfl hd (kk p e s m args below meth c X ad0 al0 ad H locs lsA he ha hR hoL ⟨trivial, hoS.2⟩ hlo hlc)
theorem jm_locs {ad : Nat → Nat → Nat} {H : Heap} {k i j : Nat} (hR : jm_R D ad st H) (hi : i < st.2.2.2 k) {locs : List Loc} (hlc : ∀ q ∈ locs, D.2.1.size ≤ q.base) : ∀ q ∈ locs ++ [⟨ad k i, j⟩], D.2.1.size ≤ q.base := by
  intro z hz
  rcases List.mem_append.mp hz with h | h
  · exact hlc z h
  · rw [List.mem_singleton.mp h]; exact hR.2.2.1 k i hi
theorem jm_stored {ad : Nat → Nat → Nat} {H1 : Heap} {k i j : Nat} {st' : aS} {v : Value} (hk : kob k = none) (hv : ∀ j', jm_val ad st' k i j' = if j' = j then v else jm_val ad st k i j') (e : H1[ad k i]? = some ((arrV (D.2.2 (kat k)) (kln k) (jm_val ad st k i)).setSlot j v)) : jm_cell D ad st' k i H1 := by
  unfold jm_cell
  rw [hk]
  show H1[ad k i]? = _
  rw [e, arrV_store]
  congr 2
  funext q
  rw [hv]
  rfl
theorem jm_iast {k i : Nat} {x : Int32} {y : Int32} (hd : decode M.2.1 pc = .ok (.iastore, 1)) (hk : kob k = none) (hn : kat k < katn) (ht : katy (kat k) = .int) (hc : ∀ j, kly k j = 0) (hin : vp_in x (kln k)) (kk : MS l D M d mc ms Q uc us (pc + 1) ls sk (sI st k i x.toNatClampNeg y)) : MS l D M d mc ms Q uc us pc ls (vI y :: vI x :: vR (some (k, i)) :: sk) st := by
  intro p e s m args below meth c X ad0 al0 ad H locs lsA he ha hR hoL hoS hlo hlc
  have hK := X.2.2.2.2.2.2.2.2
  have hi := hoS.2.2.1
  refine W.iast X.1 X.2.1 (jm_arr (p := p) (s := s) (m := m) (args := args) (meth := meth) (c := c) hR hi hk) (by have h := (hK.2.1 _ hn).1 (kln k) (jm_val ad st k i); rw [ht] at h; exact h) (fun q => by cases q) (by rw [arrV_size]; exact hin) rfl rfl hd fun H1 e1 z oq => ?_
  exact kk p e s m args below meth c X ad0 al0 ad H1 _ lsA he ha (hR.set (st' := sI st k i x.toNatClampNeg y) hi rfl (fun a b h j' => ⟨u3_ne h, rfl, rfl⟩) (fun j' c0 h t => hR.2.2.2.1 k i j' c0 hi h t) z oq (jm_stored hk (jm_vI (Or.inl (hc _))) e1)) hoL hoS.2.2.2 hlo (jm_locs hR hi hlc)
theorem jm_last {k i : Nat} {x : Int32} {y : Int64} (hd : decode M.2.1 pc = .ok (.lastore, 1)) (hk : kob k = none) (hn : kat k < katn) (ht : katy (kat k) = .long) (hc : ∀ j, kly k j = 1) (hin : vp_in x (kln k)) (kk : MS l D M d mc ms Q uc us (pc + 1) ls sk (sL st k i x.toNatClampNeg y)) : MS l D M d mc ms Q uc us pc ls (vL y :: vI x :: vR (some (k, i)) :: sk) st := by
  intro p e s m args below meth c X ad0 al0 ad H locs lsA he ha hR hoL hoS hlo hlc
  have hK := X.2.2.2.2.2.2.2.2
  have hi := hoS.2.2.1
  refine W.last X.1 X.2.1 (jm_arr (p := p) (s := s) (m := m) (args := args) (meth := meth) (c := c) hR hi hk) (by have h := (hK.2.1 _ hn).1 (kln k) (jm_val ad st k i); rw [ht] at h; exact h) (fun q => by cases q) (by rw [arrV_size]; exact hin) rfl rfl hd fun H1 e1 z oq => ?_
  exact kk p e s m args below meth c X ad0 al0 ad H1 _ lsA he ha (hR.set (st' := sL st k i x.toNatClampNeg y) hi rfl (fun a b h j' => ⟨rfl, u3_ne h, rfl⟩) (fun j' c0 h t => hR.2.2.2.1 k i j' c0 hi h t) z oq (jm_stored hk (jm_vL (hc _)) e1)) hoL hoS.2.2.2 hlo (jm_locs hR hi hlc)
theorem jm_zast {k i : Nat} {x : Int32} {y : Int32} (hd : decode M.2.1 pc = .ok (.bastore, 1)) (hk : kob k = none) (hn : kat k < katn) (ht : katy (kat k) = .boolean) (hc : ∀ j, kly k j = 2) (hin : vp_in x (kln k)) (hy : y = 0 ∨ y = 1) (kk : MS l D M d mc ms Q uc us (pc + 1) ls sk (sI st k i x.toNatClampNeg y)) : MS l D M d mc ms Q uc us pc ls (vI y :: vI x :: vR (some (k, i)) :: sk) st := by
  intro p e s m args below meth c X ad0 al0 ad H locs lsA he ha hR hoL hoS hlo hlc
  have hK := X.2.2.2.2.2.2.2.2
  have hi := hoS.2.2.1
  refine W.zast X.1 X.2.1 (jm_arr (p := p) (s := s) (m := m) (args := args) (meth := meth) (c := c) hR hi hk) (by have h := (hK.2.1 _ hn).1 (kln k) (jm_val ad st k i); rw [ht] at h; exact h) (fun q => by cases q) (by rw [arrV_size]; exact hin) rfl rfl hd fun H1 e1 z oq => ?_
  refine kk p e s m args below meth c X ad0 al0 ad H1 _ lsA he ha (hR.set (st' := sI st k i x.toNatClampNeg y) hi rfl (fun a b h j' => ⟨u3_ne h, rfl, rfl⟩) (fun j' c0 h t => hR.2.2.2.1 k i j' c0 hi h t) z oq (jm_stored hk (jm_vI (Or.inr (hc _))) ?_)) hoL hoS.2.2.2 hlo (jm_locs hR hi hlc)
  rw [e1]
  rcases hy with rfl | rfl <;> rfl
theorem jm_aast {k i t c0 ci : Nat} {q : vw_C} {x : Int32} (hd : decode M.2.1 pc = .ok (.aastore, 1)) (hk : kob k = none) (hn : kat k < katn) (ht : katy (kat k) = .object q.1) (hc : ∀ j, kly k j = c0 + 3) (hco : kob c0 = some ci) (hq : vwCl[ci]? = some q) (hin : vp_in x (kln k)) (kk : MS l D M d mc ms Q uc us (pc + 1) ls sk (sR st k i x.toNatClampNeg (some t))) : MS l D M d mc ms Q uc us pc ls (vR (some (c0, t)) :: vI x :: vR (some (k, i)) :: sk) st := by
  intro p e s m args below meth c X ad0 al0 ad H locs lsA he ha hR hoL hoS hlo hlc
  have hK := X.2.2.2.2.2.2.2.2
  have hi := hoS.2.2.1
  have hlt : x.toNatClampNeg < kln k := Nat.not_le.mp fun q => hin (Or.inr q)
  have h0 : ¬ x < 0 := fun q => hin (Or.inl q)
  have hv := hR.1 c0 t hoS.1
  unfold jm_cell at hv
  rw [hco] at hv
  obtain ⟨q', hq', cellV, g1, g2, g3, -⟩ := hv
  have hcls := (hK.1.1 ci q hq).2
  have hra := (hK.2.1 _ hn).2
  rw [ht] at hra
  obtain ⟨kA, comp, k1, k2, k3, -⟩ := hra
  have hcomp : comp = D.1.1 ci := Option.some.inj (k3.symm.trans hcls.1)
  subst hcomp
  obtain ⟨kC, hkC, hkk⟩ := id hcls.2
  refine W.aast X.1 X.2.1 (jm_arr (p := p) (s := s) (m := m) (args := args) (meth := meth) (c := c) hR hi hk) (fun q h => by cases h) (fun h => by cases h) k1 k2 rfl hkC ⟨h0, by rw [arrV_size]; exact hlt⟩ g1 (fun q h => by rw [g3] at h; cases h) (by rw [g2]; exact hkC) (by rw [g2]; exact va_assign hcls) rfl rfl hd fun H1 e1 z oq => ?_
  refine kk p e s m args below meth c X ad0 al0 ad H1 _ lsA he ha (hR.set (st' := sR st k i x.toNatClampNeg (some t)) hi rfl (fun a b h j' => ⟨rfl, rfl, u3_ne h⟩) (fun j' c1 h t' ht' => ?_) z oq (jm_stored hk (jm_vR (hc _)) e1)) hoL hoS.2.2.2 hlo (jm_locs hR hi hlc)
  simp only [sR, u3_at] at ht'
  by_cases hj : j' = x.toNatClampNeg
  · rw [if_pos hj] at ht'
    have hc1 : c1 = c0 := Nat.add_right_cancel (h.symm.trans (hc j'))
    subst hc1
    cases ht'
    exact hoS.1
  · rw [if_neg hj] at ht'
    exact hR.2.2.2.1 k i j' c1 hi h t' ht'
end JMR


theorem jm_catsum {ad : Nat → Nat → Nat} : ∀ {sk : List aV}, ((sk.map (jm_c ad)).map fun v => v.category).sum = (sk.map jm_cat).sum
  | [] => rfl
  | v :: r => by
    rw [List.map_cons, List.map_cons, List.map_cons, List.sum_cons, List.sum_cons, jm_cat_c, jm_catsum]
theorem jm_MetMono {l : Launch} {y : MethodName} {ws : List Cond} {rm : Room} {Pc : Array Value → State → Prop} {Qc Qc' : Array Value → State → Outcome → State → Prop} {mc ms : Nat} {free : Addr → Prop} (h : Met l y ws rm Pc Qc mc ms free) (hq : ∀ a s o t, Qc a s o t → Qc' a s o t) : Met l y ws rm Pc Qc' mc ms free := by
  intro p e ha hc hk s m args below hf h1 h2 h3
  obtain ⟨k, o, g1, g2, g3, g4, g5⟩ := h p e ha hc hk s m args below hf h1 h2 h3
  exact ⟨k, o, g1, g2, g3, hq _ _ _ _ g4, g5⟩

section JMC
variable {l : Launch} {D : mD} {M : mM} {d mc ms : Nat} {Q : Option aV → aS → Prop} {uc us pc : Nat} {ls : List (Option aV)} {sk : List aV} {st : aS}
/-! making -/
def jm_dv (c : Nat) : Value := match c with
  | 0 => .int 0
  | 1 => .long 0
  | 2 => .int 0
  | _ + 3 => .null
theorem jm_val_new {ad : Nat → Nat → Nat} {k j : Nat} : jm_val ad (sNew st k) k (st.2.2.2 k) j = jm_dv (kly k j) := by
  unfold jm_val jm_dv sNew
  simp only [z3, and_self, if_true]
  split <;> first | rfl | simp_all
def jm_dflB : Bool := (List.range 6).all fun ci => match vwCl[ci]? with
  | some q => (List.range q.2.2).all fun j => match parseFieldDescriptor (q.2.1 j).2.2.1 with
    | some ty => decide (defaultValue ty = jm_dv (kly ci j))
    | none => false
  | none => true
theorem jm_dflB_ok : jm_dflB = true := by decide +kernel
theorem jm_dfl (k ci : Nat) (q : vw_C) (hk : kob k = some ci) (hq : vwCl[ci]? = some q) (j : Nat) (hj : j < q.2.2) (ty : FieldType) (hty : parseFieldDescriptor (q.2.1 j).2.2.1 = some ty) : defaultValue ty = jm_dv (kly k j) := by
  have hkc : k = ci := by
    unfold kob at hk
    split at hk
    · exact Option.some.inj hk
    · cases hk
  subst hkc
  have hl : k < 6 := (List.getElem?_eq_some_iff.mp hq).1
  have h1 := List.all_eq_true.mp jm_dflB_ok k (List.mem_range.mpr hl)
  rw [hq] at h1
  have h2 := List.all_eq_true.mp h1 j (List.mem_range.mpr hj)
  simp only [hty, decide_eq_true_eq] at h2
  exact h2
theorem jm_up2_at {ad : Nat → Nat → Nat} {k i a : Nat} : jm_up2 ad k i a k i = a := by
  unfold jm_up2
  exact if_pos ⟨rfl, rfl⟩
theorem jm_new_ok {k : Nat} : (st.2.2.2 k) < (sNew st k).2.2.2 k := by
  show st.2.2.2 k < if k = k then st.2.2.2 k + 1 else st.2.2.2 k
  rw [if_pos rfl]
  exact Nat.lt_succ_self _
theorem jm_new_le (k : Nat) : ∀ a, st.2.2.2 a ≤ (sNew st k).2.2.2 a := by
  intro a
  show st.2.2.2 a ≤ if a = k then st.2.2.2 a + 1 else st.2.2.2 a
  split <;> omega
theorem jm_ext_trans {al0 al1 : Nat → Nat} {a0 a1 a2 : Nat → Nat → Nat} (h : jm_ext al0 a0 a1) (hl : ∀ k, al0 k ≤ al1 k) (h' : jm_ext al1 a1 a2) : jm_ext al0 a0 a2 := fun k i hi => (h' k i (Nat.lt_of_lt_of_le hi (hl k))).trans (h k i hi)
theorem jm_made {p : Program} {e : Env} {s : State} {m : MethodId} {args : Array Value} {below : List Frame} {meth : Method} {c : Code} {ad0 ad : Nat → Nat → Nat} {al0 : Nat → Nat} {H H1 : Heap} {locs : List Loc} {lsA : Array Slot} {k : Nat} {sk0 : List Value} (X : jm_X M D p s m args meth c) (he : jm_ext al0 ad0 ad) (ha : ∀ k, al0 k ≤ st.2.2.2 k) (hR : jm_R D ad st H) (hoL : jm_okL st.2.2.2 ls) (hoS : jm_okS st.2.2.2 sk) (hlo : jm_lo ad lsA M.2.2.1 ls) (hlc : ∀ q ∈ locs, D.2.1.size ≤ q.base) (hz : H1.size = H.size + 1) (oq : ∀ q, q < H.size → H1[q]? = H[q]?)
    (hn : jm_cell D (jm_up2 ad k (st.2.2.2 k) H.size) (sNew st k) k (st.2.2.2 k) H1) (hs : sk0 = sk.map (jm_c ad)) {uc' us' pc' : Nat} (kk : MS l D M d mc ms Q uc' us' pc' ls (vR (some (k, st.2.2.2 k)) :: sk) (sNew st k)) : W p l e (jm_rm d mc ms) s m args below meth c H1 locs uc' us' (MQ below (jm_Q D ad0 al0 Q) args s mc ms (fun q => D.2.1.size ≤ q)) (F0 m pc' lsA (.ref H.size :: sk0)) := by
  obtain ⟨hR1, hx⟩ := hR.new hz oq hn
  have h := kk p e s m args below meth c X ad0 al0 _ H1 locs lsA (jm_ext_trans he ha hx) (fun a => Nat.le_trans (ha a) (jm_new_le k a)) hR1 (jm_okL_mono (jm_new_le k) hoL) ⟨jm_new_ok, jm_okS_mono (jm_new_le k) hoS⟩ (jm_lo_ext hx hoL hlo) hlc
  rw [List.map_cons, jm_map_ext hx hoS, ← hs] at h
  have e2 : jm_c (jm_up2 ad k (st.2.2.2 k) H.size) (vR (some (k, st.2.2.2 k))) = .ref H.size := by
    show va_rf (some (jm_up2 ad k (st.2.2.2 k) H.size k (st.2.2.2 k))) = _
    rw [jm_up2_at]
    rfl
  rw [e2] at h
  exact h
theorem jm_new {k ci idx : Nat} {q : vw_C} (hd : decode M.2.1 pc = .ok (.new idx, 3)) (hk : kob k = some ci) (hq : vwCl[ci]? = some q) (hw : Cond.classLink M.1.cls idx q.1 ∈ jm_tb) (hi : Cond.instantiable q.1 q.2.2 ∈ jm_tb) (hini : Cond.initialized q.1 ∈ jm_tb) (hu : uc + 1 ≤ mc ∧ us + q.2.2 ≤ ms) (kk : MS l D M d mc ms Q (uc + 1) (us + q.2.2) (pc + 3) ls (vR (some (k, st.2.2.2 k)) :: sk) (sNew st k)) : MS l D M d mc ms Q uc us pc ls sk st := by
  intro p e s m args below meth c X ad0 al0 ad H locs lsA he ha hR hoL hoS hlo hlc
  obtain ⟨hx, hb, -, -, -, hown, -, hts, hK⟩ := id X
  have hKn := hK.1.1 ci q hq
  refine W.newcK hx hb hown (hts _ hw) (hts _ hi) (hts _ hini) rfl hd hu.1 hu.2 hKn.2.1 rfl fun H1 kC hkC e1 z1 o1 => ?_
  refine jm_made X he ha hR hoL hoS hlo hlc z1 o1 ?_ rfl kk
  obtain ⟨ty0, hty0⟩ := jm_tys ci q hq
  unfold jm_cell
  rw [hk, jm_up2_at]
  exact ⟨q, hq, (u_born ty0 hts (jm_lays ci q hq) hKn hkC e1 hty0).to (fun j hj => by rw [jm_val_new]; exact jm_dfl k ci q hk hq j hj _ (hty0 j hj))⟩
theorem jm_newa {k : Nat} {atype : ArrayType} {n : Int32} (hd : decode M.2.1 pc = .ok (.newarray atype, 2)) (hk : kob k = none) (hkt : kat k < katn) (ht : katy (kat k) = newarray.typeOf atype) (hw : Cond.arrayClass (newarray.typeOf atype) ∈ jm_tb) (hn : ¬ n < 0) (hN : n.toNatClampNeg = kln k) (hby : kln k * componentBytes (newarray.typeOf atype) ≤ 536870912) (hdv : ∀ j, defaultValue (newarray.typeOf atype) = jm_dv (kly k j)) (hu : uc + 1 ≤ mc ∧ us + kln k ≤ ms) (kk : MS l D M d mc ms Q (uc + 1) (us + kln k) (pc + 2) ls (vR (some (k, st.2.2.2 k)) :: sk) (sNew st k)) : MS l D M d mc ms Q uc us pc ls (vI n :: sk) st := by
  intro p e s m args below meth c X ad0 al0 ad H locs lsA he ha hR hoL hoS hlo hlc
  obtain ⟨hx, hb, -, -, -, hown, -, hts, hK⟩ := id X
  refine va_newaK hx hb (hts _ hw) rfl hd rfl hn hN hby hu.1 hu.2 rfl fun H1 cA e1 z1 o1 hAr hNm => ?_
  refine jm_made X he ha hR hoL hoS.2 hlo hlc z1 o1 ?_ rfl kk
  have hra := (hK.2.1 _ hkt).2
  rw [ht] at hra
  have hcA : D.2.2 (kat k) = cA := by
    have h9 : s.vm.findClass ("[" ++ (newarray.typeOf atype).toString) = some (D.2.2 (kat k)) := by cases atype <;> exact hra
    exact Option.some.inj (h9.symm.trans hNm)
  unfold jm_cell
  rw [hk, jm_up2_at]
  show H1[H.size]? = _
  rw [e1, hcA]
  congr 2
  funext j
  rw [jm_val_new]
  exact hdv j
theorem jm_anew {k idx : Nat} {C : String} {n : Int32} (hd : decode M.2.1 pc = .ok (.anewarray idx, 3)) (hk : kob k = none) (hkt : kat k < katn) (ht : katy (kat k) = .object C) (hC : C ∈ jm_over) (hw : Cond.classLink M.1.cls idx C ∈ jm_tb) (hn : ¬ n < 0) (hN : n.toNatClampNeg = kln k) (hby : kln k * 4 ≤ 536870912) (hdv : ∀ j, Value.null = jm_dv (kly k j)) (hu : uc + 1 ≤ mc ∧ us + kln k ≤ ms) (kk : MS l D M d mc ms Q (uc + 1) (us + kln k) (pc + 3) ls (vR (some (k, st.2.2.2 k)) :: sk) (sNew st k)) : MS l D M d mc ms Q uc us pc ls (vI n :: sk) st := by
  intro p e s m args below meth c X ad0 al0 ad H locs lsA he ha hR hoL hoS hlo hlc
  obtain ⟨hx, hb, -, -, -, hown, -, hts, hK⟩ := id X
  refine W.anew hx hb hown (hts _ hw) (va_AO.use (hK.2.2.2.1 C hC)) rfl hd rfl hn (by rw [hN]; exact hby) hu.1 (by rw [hN]; exact hu.2) fun cA kA comp f1 f2 f3 f4 => ?_
  rw [hN]
  refine jm_made X he ha hR hoL hoS.2 hlo hlc (by rw [Array.size_push]) (fun q hq => by rw [Array.getElem?_push, if_neg (Nat.ne_of_lt hq)]) ?_ rfl kk
  have hra := (hK.2.1 _ hkt).2
  rw [ht] at hra
  obtain ⟨kA', comp', g1, g2, g3, g4⟩ := hra
  have hcA : D.2.2 (kat k) = cA := Option.some.inj (g4.symm.trans f1)
  unfold jm_cell
  rw [hk, jm_up2_at]
  show _ = _
  rw [Array.getElem?_push_size, arrV_new, hcA]
  congr 2
  funext j
  rw [jm_val_new]
  exact hdv j
theorem jm_objInit {idx : Nat} {r : Nat × Nat} (hd : decode M.2.1 pc = .ok (.invokespecial idx, 3)) (h1 : Cond.methodLink M.1.cls idx Lib.objectInit ∈ jm_tb) (h2 : Cond.instanceMethod Lib.objectInit ∈ jm_tb) (h3 : Cond.code Lib.objectInit ⟨#[0xb1]⟩ 1 none ∈ jm_tb) (hdd : 1 ≤ d) (hcat : (sk.map jm_cat).sum ≤ 8) (kk : MS l D M d mc ms Q uc us (pc + 3) ls sk st) : MS l D M d mc ms Q uc us pc ls (vR (some r) :: sk) st := by
  intro p e s m args below meth c X ad0 al0 ad H locs lsA he ha hR hoL hoS hlo hlc
  obtain ⟨hx, hb, -, -, hml, hown, -, hts, hK⟩ := id X
  refine W.objInit hx hb hown (hts _ h1) (hts _ h2) (hts _ h3) rfl (hlo.1.trans hml.symm) rfl hd hdd ?_ (kk p e s m args below meth c X ad0 al0 ad H locs lsA he ha hR hoL hoS.2 hlo hlc)
  have h9 := lv_room (m := m) (pc := pc) (ls := lsA) (rest := (vR (some r) :: sk).map (jm_c ad)) (st := sk.map (jm_c ad)) (by rw [jm_catsum]; exact hcat)
  have h8 : (jm_rm d mc ms).locals = 40 * d := rfl
  rw [h8]
  have h7 : 2 * (F0 m pc lsA ((vR (some r) :: sk).map (jm_c ad))).monitorRoom + ((sk.map (jm_c ad)).map fun v => v.category).sum ≤ 8 := h9
  omega
/-! a static array that nobody writes: getstatic, iload, iaload -/
theorem jm_stat {idx num : Nat} {C nm : String} {xs : List Int32} {k : Fin 4} {x : Int32} (hd1 : decode M.2.1 pc = .ok (.getstatic idx, 3)) (hd2 : decode M.2.1 (pc + 3) = .ok (.iload_n k, 1)) (hd3 : decode M.2.1 (pc + 4) = .ok (.iaload, 1)) (hz : (C, nm, num, xs) ∈ jm_statics) (hw : Cond.fieldLink M.1.cls idx C nm "[I" ∈ jm_tb) (hl : ls[(k : Nat)]? = some (some (vI x))) (hin : vp_in x xs.length) (kk : MS l D M d mc ms Q uc us (pc + 5) ls (vI (xs.getD x.toNatClampNeg 0) :: sk) st) : MS l D M d mc ms Q uc us pc ls sk st := by
  intro p e s m args below meth c X ad0 al0 ad H locs lsA he ha hR hoL hoS hlo hlc
  obtain ⟨hx, hb, -, -, hml, hown, -, hts, hK⟩ := id X
  obtain ⟨hZ, hT⟩ := hK.2.2.2.2 _ hz
  have old : ∀ a cell, D.2.1[a]? = some cell → H[a]? = some cell := fun a cell h => by rw [hR.2.2.2.2.1 a (Array.getElem?_eq_some_iff.mp h).1]; exact h
  obtain ⟨cf, kf, fi, f, a, cell, h1, h2, h3, h4, h5, h6, h7, h8⟩ := hZ
  refine W.gets hx hb hown (hts _ hw) h1 h2 h3 h4 (old _ _ h5) (fun e => by rw [e] at h6; cases h6) h7 rfl hd1 ?_
  refine lv_iload_n hx hb hd2 rfl (hlo.2.2 _ _ hl) ?_
  obtain ⟨cell', g1, g2, g3, g4, g5, g6, g7⟩ := hT
  have hlt : x.toNatClampNeg < xs.length := Nat.not_le.mp fun q => hin (Or.inr q)
  refine W.iald (v := .int (xs.getD x.toNatClampNeg 0)) hx hb (old _ _ g1) g2 g3 (fun q => ?_) (g6 _ hlt) rfl rfl hd3 (kk p e s m args below meth c X ad0 al0 ad H locs lsA he ha hR hoL ⟨trivial, hoS⟩ hlo hlc)
  rcases q with q | q
  · exact hin (Or.inl q)
  · have g4' : xs.length ≤ cell'.slots.size := g4
    omega
/-! calls -/
def jm_MF (M' : mM) (n : Nat) : Prop := Cond.code M'.1 M'.2.1 M'.2.2.1 M'.2.2.2 ∈ jm_tb ∧ Cond.initialized M'.1.cls ∈ jm_tb ∧ (M'.1.cls ≠ "java/lang/invoke/MethodHandle" ∧ M'.1.cls ≠ "java/lang/invoke/VarHandle" ∧ (parseMethodDescriptor M'.1.desc).map (fun d => d.parameters.length) = some n) ∧ M'.2.2.1 ≤ 21
def jm_ML (own : String) (idx : Nat) (M' : mM) : Prop := Cond.methodLink own idx M'.1 ∈ jm_tb ∨ ∃ host, Cond.methodLinkNest own idx M'.1 host ∈ jm_nest
def jm_MV (M' : mM) : Prop := Cond.instanceMethod M'.1 ∈ jm_tb ∧ Cond.selects M'.1.cls M'.1 M'.1 ∈ jm_tb
theorem jm_after {p : Program} {e : Env} {s : State} {m : MethodId} {args : Array Value} {below : List Frame} {meth : Method} {c : Code} {ad0 ad : Nat → Nat → Nat} {al0 : Nat → Nat} {H : Heap} {locs : List Loc} {lsA : Array Slot} {mc' ms' : Nat} {sk0 : List Value} {a : Array Value} {Q' : Option aV → aS → Prop} (X : jm_X M D p s m args meth c) (he : jm_ext al0 ad0 ad) (ha : ∀ k, al0 k ≤ st.2.2.2 k) (hoL : jm_okL st.2.2.2 ls) (hoS : jm_okS st.2.2.2 sk) (hlo : jm_lo ad lsA M.2.2.1 ls) (hlc : ∀ q ∈ locs, D.2.1.size ≤ q.base)
    (hr : va_Run p l e (jm_rm d mc ms) s m args below meth c H locs uc us mc' ms' (F0 m pc lsA sk0) (sk.map (jm_c ad)) (jm_Q D ad st.2.2.2 Q' a) (fun q => D.2.1.size ≤ q)) (kk : ∀ v st', Q' v st' → MS l D M d mc ms Q (uc + mc') (us + ms') (pc + 3) ls (v.toList ++ sk) st') : W p l e (jm_rm d mc ms) s m args below meth c H locs uc us (MQ below (jm_Q D ad0 al0 Q) args s mc ms (fun q => D.2.1.size ≤ q)) (F0 m pc lsA sk0) := by
  intro T hT Xs
  obtain ⟨v, st₀, t, T', L, h0, X', hL, e1, e2, ⟨v', st', ad', ev, hQ, hx, hal, hvok, hR'⟩, hst⟩ := hr T hT Xs
  have ev' : v = v'.map (jm_c ad') := Outcome.returned.inj ev
  subst ev'
  have hok : jm_okS st'.2.2.2 (v'.toList ++ sk) := by
    cases v' with
    | none => exact jm_okS_mono hal hoS
    | some w => exact ⟨hvok w rfl, jm_okS_mono hal hoS⟩
  obtain ⟨t2, a1, b1⟩ := kk v' st' hQ p e s m args below meth c X ad0 al0 ad' T'.heap (locs ++ L) lsA (jm_ext_trans he ha hx) (fun k => Nat.le_trans (ha k) (hal k)) (by rw [e1]; exact hR') (jm_okL_mono hal hoL) hok (jm_lo_ext hx hoL hlo) (fun q hq => by
    rcases List.mem_append.mp hq with h | h
    · exact hlc q h
    · exact hL q h) T' rfl X'
  refine ⟨t2, hst t2 ?_, b1⟩
  have es : (v'.toList ++ sk).map (jm_c ad') = (v'.map (jm_c ad')).toList ++ sk.map (jm_c ad) := by
    rw [List.map_append, jm_map_ext hx hoS]
    cases v' <;> rfl
  rw [es] at a1
  exact a1
theorem jm_hws {M' : mM} {n : Nat} {s : State} {args : Array Value} (hF : jm_MF M' n) (hts : ∀ w ∈ jm_tb, w.before args s = true) : ∀ w ∈ jm_ws M', ∀ (a' : Array Value) (U : State), s.WarmedH U.vm → w.before a' U = true := by
  intro w hw a' U hW
  have hw' : w ∈ jm_tb := by
    rcases List.mem_cons.mp hw with rfl | h
    · exact hF.1
    · exact h
  exact word_at hW (good_of_word (jm_good w hw')) (hts w hw')
theorem jm_par {M' : mM} {n : Nat} (hF : jm_MF M' n) : ∀ sig, parseMethodDescriptor M'.1.desc = some sig → n = sig.parameters.length := by
  intro sig h
  have h2 := hF.2.2.1.2.2
  rw [h] at h2
  exact (Option.some.inj h2).symm
theorem jm_room {M' : mM} {n d' mc' ms' : Nat} (hF : jm_MF M' n) (hdd : d' + 1 ≤ d) : 8 + (M'.2.2.1 + 11) + (jm_rm d' mc' ms').locals ≤ (jm_rm d mc ms).locals := by
  have h := hF.2.2.2
  show 8 + (M'.2.2.1 + 11) + 40 * d' ≤ 40 * d
  omega
theorem jm_pc {s : State} {ad : Nat → Nat → Nat} {av : List aV} : FrameBlind (va_Pc (av.map (jm_c ad)) (fun U => jm_R D ad st U.heap ∧ jm_K D U)) := fun a U g mk q => ⟨q.1, q.2.1, jm_K.same (s := U) (U := U.calling g mk a) rfl q.2.2⟩
theorem jm_callV {M' : mM} {d' mc' ms' n k i ci idx : Nat} {q : vw_C} {av sk0 : List aV} {Q' : Option aV → aS → Prop} (hM : MC l D M' d' mc' ms' (vR (some (k, i)) :: av) st Q') (hF : jm_MF M' n) (hV : jm_MV M') (hL : jm_ML M.1.cls idx M') (hd : decode M.2.1 pc = .ok (.invokevirtual idx, 3)) (hk : kob k = some ci) (hq : vwCl[ci]? = some q) (hC : q.1 = M'.1.cls) (hn : av.length = n) (hdd : d' + 1 ≤ d) (hu : uc + mc' ≤ mc ∧ us + ms' ≤ ms) (hs : sk0 = av.reverse ++ vR (some (k, i)) :: sk) (hcat : (sk.map jm_cat).sum ≤ 8) (kk : ∀ v st', Q' v st' → MS l D M d mc ms Q (uc + mc') (us + ms') (pc + 3) ls (v.toList ++ sk) st') : MS l D M d mc ms Q uc us pc ls sk0 st := by
  intro p e s m args below meth c X ad0 al0 ad H locs lsA he ha hR hoL hoS hlo hlc
  subst hs
  obtain ⟨hx, hb, -, -, hml, hown, -, hts, hK⟩ := id X
  have ho := jm_okS_app hoS
  have hoa : jm_okS st.2.2.2 (vR (some (k, i)) :: av) := ⟨ho.2.1, jm_okS_rev ho.1⟩
  have hM1 := hM ad hoa
  have hcell := hR.1 k i ho.2.1
  unfold jm_cell at hcell
  rw [hk] at hcell
  obtain ⟨q', hq', cellB, g1, g2, g3, -⟩ := hcell
  have hrecv : ∃ cellB : Cell, H[ad k i]? = some cellB ∧ cellB.vm.isStatics = false ∧ s.vm.findClass M'.1.cls = some cellB.cls := ⟨cellB, g1, by rw [g3]; rfl, by rw [g2, ← hC]; exact (hK.1.1 ci q hq).2.1⟩
  have hp : PreV s H M'.1.cls (ad k i) (va_Pc ((vR (some (k, i)) :: av).map (jm_c ad)) (fun U => jm_R D ad st U.heap ∧ jm_K D U)) (av.map (jm_c ad)) := ⟨jm_pc (s := s), hrecv, fun U hU hW => ⟨rfl, by rw [hU]; exact hR, hK.moved hW⟩⟩
  have hstk : (F0 m pc lsA ((av.reverse ++ vR (some (k, i)) :: sk).map (jm_c ad))).stack = (av.map (jm_c ad)).reverse ++ .ref (ad k i) :: sk.map (jm_c ad) := by
    show (av.reverse ++ vR (some (k, i)) :: sk).map (jm_c ad) = _
    rw [List.map_append, List.map_cons, List.map_reverse]
    rfl
  have hroom := lv_room (m := m) (pc := pc) (ls := lsA) (rest := (av.reverse ++ vR (some (k, i)) :: sk).map (jm_c ad)) (st := sk.map (jm_c ad)) (by rw [jm_catsum]; exact hcat)
  rcases hL with hw | ⟨host, hw⟩
  · exact jm_after X he ha hoL ho.2.2 hlo hlc (va_runV (Ts := jm_tb) ⟨hx, hb, hml, hown, hts⟩ hM1 ⟨⟨rfl, rfl, hdd, jm_room (mc := mc) (ms := ms) hF hdd, jm_hws hF hts, List.mem_cons_self, hts _ hF.1, hts _ hF.2.1, ⟨hF.2.2.1.1, hF.2.2.1.2.1⟩, jm_par hF, hts _ hw⟩, hts _ hV.1, hts _ hV.2⟩ hp rfl ((List.length_map _).trans hn) hlo.1 hstk hroom hd hu) kk
  · exact jm_after X he ha hoL ho.2.2 hlo hlc (va_runVN (Ts := jm_tb) ⟨hx, hb, hml, hown, hts⟩ hM1 ⟨⟨⟨rfl, rfl, hdd, jm_room (mc := mc) (ms := ms) hF hdd, jm_hws hF hts, List.mem_cons_self⟩, hts _ hF.1, hts _ hF.2.1, ⟨hF.2.2.1.1, hF.2.2.1.2.1⟩, jm_par hF, va_Nw.use rfl (hK.2.2.1 _ hw)⟩, hts _ hV.1, hts _ hV.2⟩ hp rfl ((List.length_map _).trans hn) hlo.1 hstk hroom hd hu) kk
theorem jm_callS {M' : mM} {d' mc' ms' n idx : Nat} {av sk0 : List aV} {Q' : Option aV → aS → Prop} (hM : MC l D M' d' mc' ms' av st Q') (hF : jm_MF M' n) (hV : Cond.static M'.1 ∈ jm_tb) (hL : jm_ML M.1.cls idx M') (hd : decode M.2.1 pc = .ok (.invokestatic idx, 3)) (hn : av.length = n) (hdd : d' + 1 ≤ d) (hu : uc + mc' ≤ mc ∧ us + ms' ≤ ms) (hs : sk0 = av.reverse ++ sk) (hcat : (sk.map jm_cat).sum ≤ 8) (kk : ∀ v st', Q' v st' → MS l D M d mc ms Q (uc + mc') (us + ms') (pc + 3) ls (v.toList ++ sk) st') : MS l D M d mc ms Q uc us pc ls sk0 st := by
  intro p e s m args below meth c X ad0 al0 ad H locs lsA he ha hR hoL hoS hlo hlc
  subst hs
  obtain ⟨hx, hb, -, -, hml, hown, -, hts, hK⟩ := id X
  have ho := jm_okS_app hoS
  have hM1 := hM ad (jm_okS_rev ho.1)
  have hp : PreS s H (va_Pc (av.map (jm_c ad)) (fun U => jm_R D ad st U.heap ∧ jm_K D U)) (av.map (jm_c ad)) := ⟨jm_pc (s := s), fun U hU hW => ⟨rfl, by rw [hU]; exact hR, hK.moved hW⟩⟩
  have hstk : (F0 m pc lsA ((av.reverse ++ sk).map (jm_c ad))).stack = (av.map (jm_c ad)).reverse ++ sk.map (jm_c ad) := by
    show (av.reverse ++ sk).map (jm_c ad) = _
    rw [List.map_append, List.map_reverse]
  have hroom := lv_room (m := m) (pc := pc) (ls := lsA) (rest := (av.reverse ++ sk).map (jm_c ad)) (st := sk.map (jm_c ad)) (by rw [jm_catsum]; exact hcat)
  rcases hL with hw | ⟨host, hw⟩
  · exact jm_after X he ha hoL ho.2 hlo hlc (va_runS (Ts := jm_tb) ⟨hx, hb, hml, hown, hts⟩ hM1 ⟨⟨rfl, rfl, hdd, jm_room (mc := mc) (ms := ms) hF hdd, jm_hws hF hts, List.mem_cons_self, hts _ hF.1, hts _ hF.2.1, ⟨hF.2.2.1.1, hF.2.2.1.2.1⟩, jm_par hF, hts _ hw⟩, hts _ hV⟩ hp rfl ((List.length_map _).trans hn) hlo.1 hstk hroom hd hu) kk
  · exact jm_after X he ha hoL ho.2 hlo hlc (va_runSN (Ts := jm_tb) ⟨hx, hb, hml, hown, hts⟩ hM1 ⟨⟨⟨rfl, rfl, hdd, jm_room (mc := mc) (ms := ms) hF hdd, jm_hws hF hts, List.mem_cons_self⟩, hts _ hF.1, hts _ hF.2.1, ⟨hF.2.2.1.1, hF.2.2.1.2.1⟩, jm_par hF, va_Nw.use rfl (hK.2.2.1 _ hw)⟩, hts _ hV, trivial⟩ hp rfl ((List.length_map _).trans hn) hlo.1 hstk hroom hd hu) kk
theorem jm_callI {y : MethodName} {bytes : ByteArray} {maxL d' mc' ms' n k i idx : Nat} {av sk0 : List aV} {Q' : Option aV → aS → Prop} (hM : MC l D (y, bytes, maxL, none) d' mc' ms' (vR (some (k, i)) :: av) st Q') (hF : jm_MF (y, bytes, maxL, none) n) (hN : y.name = "<init>") (hV : Cond.instanceMethod y ∈ jm_tb) (hL : jm_ML M.1.cls idx (y, bytes, maxL, none)) (hd : decode M.2.1 pc = .ok (.invokespecial idx, 3)) (hn : av.length = n) (hdd : d' + 1 ≤ d) (hu : uc + mc' ≤ mc ∧ us + ms' ≤ ms) (hs : sk0 = av.reverse ++ vR (some (k, i)) :: sk) (hcat : (sk.map jm_cat).sum ≤ 8) (kk : ∀ v st', Q' v st' → MS l D M d mc ms Q (uc + mc') (us + ms') (pc + 3) ls (v.toList ++ sk) st') : MS l D M d mc ms Q uc us pc ls sk0 st := by
  intro p e s m args below meth c X ad0 al0 ad H locs lsA he ha hR hoL hoS hlo hlc
  subst hs
  obtain ⟨hx, hb, -, -, hml, hown, -, hts, hK⟩ := id X
  have ho := jm_okS_app hoS
  have hoa : jm_okS st.2.2.2 (vR (some (k, i)) :: av) := ⟨ho.2.1, jm_okS_rev ho.1⟩
  have hM1 := hM ad hoa
  have hp : PreS s H (va_Pc ((vR (some (k, i)) :: av).map (jm_c ad)) (fun U => jm_R D ad st U.heap ∧ jm_K D U)) (.ref (ad k i) :: av.map (jm_c ad)) := ⟨jm_pc (s := s), fun U hU hW => ⟨rfl, by rw [hU]; exact hR, hK.moved hW⟩⟩
  have hstk : (F0 m pc lsA ((av.reverse ++ vR (some (k, i)) :: sk).map (jm_c ad))).stack = (av.map (jm_c ad)).reverse ++ .ref (ad k i) :: sk.map (jm_c ad) := by
    show (av.reverse ++ vR (some (k, i)) :: sk).map (jm_c ad) = _
    rw [List.map_append, List.map_cons, List.map_reverse]
    rfl
  have hroom := lv_room (m := m) (pc := pc) (ls := lsA) (rest := (av.reverse ++ vR (some (k, i)) :: sk).map (jm_c ad)) (st := sk.map (jm_c ad)) (by rw [jm_catsum]; exact hcat)
  rcases hL with hw | ⟨host, hw⟩
  · exact jm_after X he ha hoL ho.2.2 hlo hlc (va_runI (Ts := jm_tb) ⟨hx, hb, hml, hown, hts⟩ hM1 ⟨⟨rfl, rfl, hdd, jm_room (mc := mc) (ms := ms) hF hdd, jm_hws hF hts, List.mem_cons_self, hts _ hF.1, hts _ hF.2.1, ⟨hF.2.2.1.1, hF.2.2.1.2.1⟩, jm_par hF, hts _ hw⟩, hN, hts _ hV⟩ hp rfl ((List.length_map _).trans hn) hlo.1 hstk hroom hd hu) kk
  · exact jm_after X he ha hoL ho.2.2 hlo hlc (va_runIN (Ts := jm_tb) ⟨hx, hb, hml, hown, hts⟩ hM1 ⟨⟨⟨rfl, rfl, hdd, jm_room (mc := mc) (ms := ms) hF hdd, jm_hws hF hts, List.mem_cons_self⟩, hts _ hF.1, hts _ hF.2.1, ⟨hF.2.2.1.1, hF.2.2.1.2.1⟩, jm_par hF, va_Nw.use rfl (hK.2.2.1 _ hw)⟩, hN, hts _ hV⟩ hp rfl ((List.length_map _).trans hn) hlo.1 hstk hroom hd hu) kk
/-! ends -/
theorem jm_iret {x : Int32} (hd : decode M.2.1 pc = .ok (.ireturn, 1)) (hr : M.2.2.2 = some .int) (hu : uc ≤ mc ∧ us ≤ ms) (hQ : Q (some (vI x)) st) : MS l D M d mc ms Q uc us pc ls [vI x] st := by
  intro p e s m args below meth c X ad0 al0 ad H locs lsA he ha hR hoL hoS hlo hlc
  refine W.widen (k := mc) (n := ms) hu.1 hu.2 ?_
  exact W.iret X.1 X.2.1 (X.2.2.1.trans hr) (fun t ht hW => ⟨some (vI x), st, ad, rfl, hQ, he, ha, fun y hy => by cases hy; trivial, by rw [ht]; exact hR⟩) hlc hd X.2.2.2.1
theorem jm_zret {x : Int32} (hd : decode M.2.1 pc = .ok (.ireturn, 1)) (hr : M.2.2.2 = some .boolean) (hx : x = 0 ∨ x = 1) (hu : uc ≤ mc ∧ us ≤ ms) (hQ : Q (some (vI x)) st) : MS l D M d mc ms Q uc us pc ls [vI x] st := by
  intro p e s m args below meth c X ad0 al0 ad H locs lsA he ha hR hoL hoS hlo hlc
  refine W.widen (k := mc) (n := ms) hu.1 hu.2 ?_
  exact W.zret (ty := .boolean) X.1 X.2.1 (X.2.2.1.trans hr) (by rcases hx with rfl | rfl <;> rfl) (fun t ht hW => ⟨some (vI x), st, ad, rfl, hQ, he, ha, fun y hy => by cases hy; trivial, by rw [ht]; exact hR⟩) hlc hd X.2.2.2.1
theorem jm_lret {x : Int64} (hd : decode M.2.1 pc = .ok (.lreturn, 1)) (hr : M.2.2.2 = some .long) (hu : uc ≤ mc ∧ us ≤ ms) (hQ : Q (some (vL x)) st) : MS l D M d mc ms Q uc us pc ls [vL x] st := by
  intro p e s m args below meth c X ad0 al0 ad H locs lsA he ha hR hoL hoS hlo hlc
  refine W.widen (k := mc) (n := ms) hu.1 hu.2 ?_
  exact W.lret X.1 X.2.1 (X.2.2.1.trans hr) (fun t ht hW => ⟨some (vL x), st, ad, rfl, hQ, he, ha, fun y hy => by cases hy; trivial, by rw [ht]; exact hR⟩) hlc hd X.2.2.2.1
theorem jm_vret (hd : decode M.2.1 pc = .ok (.return_, 1)) (hr : M.2.2.2 = none) (hu : uc ≤ mc ∧ us ≤ ms) (hQ : Q none st) : MS l D M d mc ms Q uc us pc ls [] st := by
  intro p e s m args below meth c X ad0 al0 ad H locs lsA he ha hR hoL hoS hlo hlc
  refine W.widen (k := mc) (n := ms) hu.1 hu.2 ?_
  exact W.vret X.1 X.2.1 (X.2.2.1.trans hr) (fun t ht hW => ⟨none, st, ad, rfl, hQ, he, ha, fun y hy => (by cases hy), by rw [ht]; exact hR⟩) hlc hd X.2.2.2.1
theorem jm_aret {r : Option (Nat × Nat)} {n : String} (hd : decode M.2.1 pc = .ok (.areturn, 1)) (hr : M.2.2.2 = some (.object n)) (hu : uc ≤ mc ∧ us ≤ ms) (hQ : Q (some (vR r)) st) : MS l D M d mc ms Q uc us pc ls [vR r] st := by
  intro p e s m args below meth c X ad0 al0 ad H locs lsA he ha hR hoL hoS hlo hlc
  refine W.widen (k := mc) (n := ms) hu.1 hu.2 ?_
  exact W.aret (v := jm_c ad (vR r)) X.1 X.2.1 (X.2.2.1.trans hr) (Or.inl ⟨n, rfl⟩) (va_rf_or _) (fun t ht hW => ⟨some (vR r), st, ad, rfl, hQ, he, ha, fun y hy => by cases hy; exact hoS.1, by rw [ht]; exact hR⟩) hlc hd X.2.2.2.1
/-! a method's start -/
def jm_ent : List aV → List (Option aV)
  | [] => []
  | .inr (.inl y) :: vs => some (vL y) :: none :: jm_ent vs
  | v :: vs => some v :: jm_ent vs
theorem jm_ent_len (ad : Nat → Nat → Nat) : ∀ av : List aV, (lg_sl (av.map (jm_c ad))).length = (jm_ent av).length
  | [] => rfl
  | .inl x :: vs => by
    have h := jm_ent_len ad vs
    unfold lg_sl at h ⊢
    rw [List.map_cons, List.flatMap_cons, List.length_append, h]
    show 1 + _ = _ + 1
    omega
  | .inr (.inl y) :: vs => by
    have h := jm_ent_len ad vs
    unfold lg_sl at h ⊢
    rw [List.map_cons, List.flatMap_cons, List.length_append, h]
    show 2 + _ = _ + 1 + 1
    omega
  | .inr (.inr none) :: vs => by
    have h := jm_ent_len ad vs
    unfold lg_sl at h ⊢
    rw [List.map_cons, List.flatMap_cons, List.length_append, h]
    show 1 + _ = _ + 1
    omega
  | .inr (.inr (some q)) :: vs => by
    have h := jm_ent_len ad vs
    unfold lg_sl at h ⊢
    rw [List.map_cons, List.flatMap_cons, List.length_append, h]
    show 1 + _ = _ + 1
    omega
theorem jm_ent_mem (ad : Nat → Nat → Nat) : ∀ (av : List aV) (o i : Nat) (v : aV), (jm_ent av)[i]? = some (some v) → (o + i, jm_c ad v) ∈ lv_args o (av.map (jm_c ad)) ∧ v ∈ av
  | [], o, i, v, h => by simp [jm_ent] at h
  | .inl x :: vs, o, 0, v, h => by
    simp [jm_ent] at h
    subst h
    exact ⟨by simp [lv_args], List.mem_cons_self⟩
  | .inl x :: vs, o, i + 1, v, h => by
    simp [jm_ent] at h
    obtain ⟨h1, h2⟩ := jm_ent_mem ad vs (o + 1) i v h
    refine ⟨?_, List.mem_cons_of_mem _ h2⟩
    rw [show o + (i + 1) = o + 1 + i by omega]
    exact List.mem_cons_of_mem _ h1
  | .inr (.inl y) :: vs, o, 0, v, h => by
    simp [jm_ent] at h
    subst h
    exact ⟨by simp [lv_args], List.mem_cons_self⟩
  | .inr (.inl y) :: vs, o, 1, v, h => by simp [jm_ent] at h
  | .inr (.inl y) :: vs, o, i + 2, v, h => by
    simp [jm_ent] at h
    obtain ⟨h1, h2⟩ := jm_ent_mem ad vs (o + 2) i v h
    refine ⟨?_, List.mem_cons_of_mem _ h2⟩
    rw [show o + (i + 2) = o + 2 + i by omega]
    exact List.mem_cons_of_mem _ h1
  | .inr (.inr none) :: vs, o, 0, v, h => by
    simp [jm_ent] at h
    subst h
    exact ⟨by simp [lv_args], List.mem_cons_self⟩
  | .inr (.inr none) :: vs, o, i + 1, v, h => by
    simp [jm_ent] at h
    obtain ⟨h1, h2⟩ := jm_ent_mem ad vs (o + 1) i v h
    refine ⟨?_, List.mem_cons_of_mem _ h2⟩
    rw [show o + (i + 1) = o + 1 + i by omega]
    exact List.mem_cons_of_mem _ h1
  | .inr (.inr (some q)) :: vs, o, 0, v, h => by
    simp [jm_ent] at h
    subst h
    exact ⟨by simp [lv_args], List.mem_cons_self⟩
  | .inr (.inr (some q)) :: vs, o, i + 1, v, h => by
    simp [jm_ent] at h
    obtain ⟨h1, h2⟩ := jm_ent_mem ad vs (o + 1) i v h
    refine ⟨?_, List.mem_cons_of_mem _ h2⟩
    rw [show o + (i + 1) = o + 1 + i by omega]
    exact List.mem_cons_of_mem _ h1
theorem jm_okS_mem {al : Nat → Nat} : ∀ {av : List aV} {v : aV}, jm_okS al av → v ∈ av → jm_ok al v
  | [], _, _, h => by cases h
  | _ :: _, _, ho, h => by
    rcases List.mem_cons.mp h with rfl | h
    · exact ho.1
    · exact jm_okS_mem ho.2 h
theorem jm_start {av : List aV} {ls0 : List (Option aV)} (hy : plainName M.1.cls = true) (hl : (jm_ent av).length ≤ M.2.2.1) (hls : ls0 = jm_ent av ++ List.replicate (M.2.2.1 - (jm_ent av).length) none) (h : MS l D M d mc ms Q 0 0 0 ls0 [] st) : MC l D M d mc ms av st Q := by
  subst hls
  intro ad hok
  refine Met.ofW (cc := M.2.1) (maxL := M.2.2.1) (ret := M.2.2.2) hy rfl ?_
  intro p e s m args below meth c s₁ B hml hv
  obtain ⟨rfl, hR, hK⟩ := hv
  have X : jm_X M D p s m (av.map (jm_c ad)).toArray meth c := ⟨B.exec, B.bytes, B.returns, B.notSynchronized, hml, findClass_of_methodNamed B.named, (name_of_methodNamed B.named B.method).1, fun w hw => atoms_spec (ws := jm_ws M) B.pre w (List.mem_cons_of_mem _ hw), hK⟩
  have hle := lv_entry (av.map (jm_c ad)) (n := M.2.2.1) (by rw [jm_ent_len]; exact hl)
  rw [lg_entry_eq]
  have ent : ∀ (i : Nat) (v : aV), (jm_ent av ++ List.replicate (M.2.2.1 - (jm_ent av).length) none)[i]? = some (some v) → (jm_ent av)[i]? = some (some v) := by
    intro i v h
    by_cases hi : i < (jm_ent av).length
    · rw [List.getElem?_append_left hi] at h; exact h
    · rw [List.getElem?_append_right (by omega)] at h
      rw [List.getElem?_replicate] at h
      split at h <;> simp at h
  refine h p e s m _ below meth c X ad st.2.2.2 ad s.heap [] _ (fun _ _ _ => rfl) (fun _ => Nat.le_refl _) hR (fun i v hv => ?_) trivial ⟨hle.1, hle.2.1, fun i v hv => ?_⟩ (fun _ h => by cases h)
  · exact jm_okS_mem hok (jm_ent_mem ad av 0 i v (ent i v hv)).2
  · have h1 := (jm_ent_mem ad av 0 i v (ent i v hv)).1
    rw [Nat.zero_add] at h1
    exact hle.2.2 _ h1
theorem MC.mono {av : List aV} {Q' : Option aV → aS → Prop} (h : MC l D M d mc ms av st Q) (hq : ∀ v s', Q v s' → Q' v s') : MC l D M d mc ms av st Q' := by
  intro ad hok
  refine jm_MetMono (h ad hok) ?_
  rintro a s0 o t ⟨v, st', ad', h1, h2, h3⟩
  exact ⟨v, st', ad', h1, hq v st' h2, h3⟩
theorem MS.mono {Q' : Option aV → aS → Prop} (h : MS l D M d mc ms Q uc us pc ls sk st) (hq : ∀ v s', Q v s' → Q' v s') : MS l D M d mc ms Q' uc us pc ls sk st := by
  intro p e s m args below meth c X ad0 al0 ad H locs lsA he ha hR hoL hoS hlo hlc
  intro T hT Xs
  obtain ⟨t, h1, o, h2, h3, ⟨v, st', ad', g1, g2, g3⟩, h5⟩ := h p e s m args below meth c X ad0 al0 ad H locs lsA he ha hR hoL hoS hlo hlc T hT Xs
  exact ⟨t, h1, o, h2, h3, ⟨v, st', ad', g1, hq v st' g2, g3⟩, h5⟩
end JMC


