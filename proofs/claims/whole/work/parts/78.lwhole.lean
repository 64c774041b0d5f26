/-- THE LAW, from its entry -/
theorem whole_start {p : Program} {e : Env} {s : State} {m : MethodId} {below : List Frame} {meth : Method} {c : Code} (l : Launch) {b L : Nat} {xs : Nat → Int32} (hL : L ≤ 2048) (C0 : lw_At p s m meth c b L xs) : W p l e room_1 s m #[Value.ref b] below meth c s.heap [] 0 0 (lw_Z below #[Value.ref b] s) (entryFrame m ([Value.ref b] : List Value).toArray 4) := by
  obtain ⟨G, ci, hK⟩ := L_K C0
  obtain ⟨hx, hb, hr, hml, hown, hts, hX, hbl, hlocks, hgv⟩ := id C0
  have X : LC p s m meth c b L xs G ci := ⟨hx, hb, hml, hown, fun w hw => hts w (List.mem_filter.mp hw).1, hK, hr, hlocks, hX, hbl⟩
  have hl := lv_entry ([.ref b]) (n := 4) (Nat.le_of_ble_eq_true rfl)
  rw [lg_entry_eq]
  generalize (lg_sl ([.ref b]) ++ List.replicate (4 - (lg_sl ([.ref b])).length) Slot.unset).toArray = ls at hl ⊢
  have hl : lv_has ls 4 [(0, .ref b)] := hl
  have non : ∀ (i : Nat) (v : aV), ([none, none, none, none] : List (Option aV))[i]? = some (some v) → False := by
    intro i v h
    match i, h with
    | 0, h => simp at h
    | 1, h => simp at h
    | 2, h => simp at h
    | 3, h => simp at h
    | i + 4, h => simp at h
  have z0 : ∀ (k i : Nat), i < s00.2.2.2 k → False := fun k i h => Nat.not_lt_zero i h
  exact law_start hL X (fun _ _ => 0) s.heap [] ls ⟨fun k i h => (z0 k i h).elim, fun k i k' i' h => (z0 k i h).elim, fun k i h => (z0 k i h).elim, fun k i j c h => (z0 k i h).elim, fun q _ => rfl, Nat.le_refl _⟩ (fun i v h => (non i v h).elim) trivial ⟨hl.1, hl.2.1, fun i v h => (non i v h).elim⟩ (fun q h => by cases h) (hl.2.2 (0, .ref b) List.mem_cons_self)
