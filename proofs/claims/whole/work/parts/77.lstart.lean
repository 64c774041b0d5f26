section LSTART
variable {p : Program} {l : Launch} {e : Env} {s : State} {m : MethodId} {below : List Frame} {meth : Method} {c : Code} {b L : Nat} {xs : Nat → Int32}
theorem L_cls (htb : ∀ w ∈ jm_tb, w.before #[Value.ref b] s = true) (k : Nat) : ∃ z : ClassId × (Nat → Nat), ∀ q : vw_C, vwCl[k]? = some q → u_Kn s q.1 q.2.1 q.2.2 z.1 z.2 := by
  by_cases hk : k < 6
  · rcases (show k = 0 ∨ k = 1 ∨ k = 2 ∨ k = 3 ∨ k = 4 ∨ k = 5 by omega) with rfl | rfl | rfl | rfl | rfl | rfl
    · obtain ⟨c0, i0, h0⟩ := u_known (C := RX0) (T := TX0) (N := 20) (n := 20) htb (jm_lays 0 _ rfl) (htb _ niN)
      exact ⟨(c0, i0), fun q hq => by cases hq; exact h0⟩
    · obtain ⟨c0, i0, h0⟩ := u_known (C := RX1) (T := TX1) (N := 4) (n := 4) htb (jm_lays 1 _ rfl) (htb _ niP)
      exact ⟨(c0, i0), fun q hq => by cases hq; exact h0⟩
    · obtain ⟨c0, i0, h0⟩ := u_known (C := RX2) (T := TX2) (N := 3) (n := 3) htb (jm_lays 2 _ rfl) (htb _ niT)
      exact ⟨(c0, i0), fun q hq => by cases hq; exact h0⟩
    · obtain ⟨c0, i0, h0⟩ := u_known (C := RX3) (T := TX3) (N := 4) (n := 4) htb (jm_lays 3 _ rfl) (htb _ niR)
      exact ⟨(c0, i0), fun q hq => by cases hq; exact h0⟩
    · obtain ⟨c0, i0, h0⟩ := u_known (C := RX4) (T := TX4) (N := 9) (n := 9) htb (jm_lays 4 _ rfl) (htb _ niG)
      exact ⟨(c0, i0), fun q hq => by cases hq; exact h0⟩
    · obtain ⟨c0, i0, h0⟩ := u_known (C := RX5) (T := TX5) (N := 42) (n := 42) htb (jm_lays 5 _ rfl) (htb _ niM)
      exact ⟨(c0, i0), fun q hq => by cases hq; exact h0⟩
  · exact ⟨(0, fun _ => 0), fun q hq => absurd (List.getElem?_eq_some_iff.mp hq).1 hk⟩
theorem L_arr (htb : ∀ w ∈ jm_tb, w.before #[Value.ref b] s = true) {ty : FieldType} (hw : Cond.arrayClass ty ∈ jm_tb) : ∃ cA : Nat, ArrOfT s cA ty ∧ s.vm.findClass ("[" ++ ty.toString) = some cA := by
  obtain ⟨cA, kA, comp, h1, h2, h3⟩ := Cond.arrayClass_spec (htb _ hw)
  exact ⟨cA, fun N z => ⟨fun k h => (by cases h), kA, h2, comp, h3⟩, h1⟩
theorem L_stat {nm : String} {tab : List Int32} {args : Array Value} (hl : (Cond.laysStatic "GoalOrder" nm "[I").before args s = true) (hini : (Cond.initialized "GoalOrder").before args s = true) (harr : (Cond.arrayOf (.static "GoalOrder" nm "[I") .int).before args s = true) (hlen : (Cond.eq (.length (.static "GoalOrder" nm "[I")) (.int 13)).before args s = true) (hel : ∀ j : Nat, j < 13 → (Cond.eq (.elem (.static "GoalOrder" nm "[I") (.int (Int32.ofNat j))) (.int (tab.getD j 0))).before args s = true) : ∃ t : Nat, va_Z "GoalOrder" nm "[I" (.ref t) (fun q => s.heap.size ≤ q) s s.heap ∧ va_T .int t 13 (fun j => .int (tab.getD j 0)) (fun q => s.heap.size ≤ q) s s.heap := by
  obtain ⟨t, ht, hT⟩ := va_Tof (f := fun j => .int (tab.getD j 0)) (N := 13) (A := fun q => s.heap.size ≤ q) (by decide) harr (va_eqt hlen) (fun j hj => va_eqt (hel j hj)) (fun a h9 => Nat.not_le.mpr h9)
  exact ⟨t, va_Zref hl hini ht (fun a h9 => Nat.not_le.mpr h9), hT⟩
set_option maxRecDepth 100000 in
theorem L_K (C0 : lw_At p s m meth c b L xs) : ∃ (G : va_G) (ci : Nat → Nat), jm_K (G, s.heap, ci) s := by
  obtain ⟨hx, hb, hr, hml, hown, hts, hX, hbl, hlocks, hgv⟩ := id C0
  have htb : ∀ w ∈ jm_tb, w.before #[Value.ref b] s = true := fun w hw => hts w (List.mem_filter.mp hw).1
  obtain ⟨g, hg⟩ := Classical.axiomOfChoice (L_cls htb)
  obtain ⟨cI, aI, fI⟩ := L_arr htb ac_int
  obtain ⟨cL, aL, fL⟩ := L_arr htb ac_long
  obtain ⟨cB, aB, fB⟩ := L_arr htb ac_boolean
  have hO : (Cond.arrayOver (.object "GoalOrder$Node")).before #[Value.ref b] s = true := hts _ (List.mem_append_right _ (jm_tb1 (List.mem_of_getElem? (i := 135) rfl)))
  obtain ⟨comp, cN, kN, o1, o2, o3, o4, o5⟩ := Cond.arrayOver_spec hO
  have aN : ArrOfT s cN (.object "GoalOrder$Node") := fun N z => ⟨fun k h => (by cases h), kN, o3, comp, o4⟩
  have hs := flat_of_before _ hgv
  have e1 : ∀ j : Nat, j < 13 → (Cond.eq (.elem (.static "GoalOrder" "FEWEST" "[I") (.int (Int32.ofNat j))) (.int (([0, 0, 0, 0, 0, 0, 2, 2, 1, 1, 1, 0, 0] : List Int32).getD j 0))).before #[Value.ref b] s = true := by
    intro j hj
    rcases (show j = 0 ∨ j = 1 ∨ j = 2 ∨ j = 3 ∨ j = 4 ∨ j = 5 ∨ j = 6 ∨ j = 7 ∨ j = 8 ∨ j = 9 ∨ j = 10 ∨ j = 11 ∨ j = 12 by omega) with rfl | rfl | rfl | rfl | rfl | rfl | rfl | rfl | rfl | rfl | rfl | rfl | rfl
    · exact hs _ (by decide +kernel)
    · exact hs _ (by decide +kernel)
    · exact hs _ (by decide +kernel)
    · exact hs _ (by decide +kernel)
    · exact hs _ (by decide +kernel)
    · exact hs _ (by decide +kernel)
    · exact hs _ (by decide +kernel)
    · exact hs _ (by decide +kernel)
    · exact hs _ (by decide +kernel)
    · exact hs _ (by decide +kernel)
    · exact hs _ (by decide +kernel)
    · exact hs _ (by decide +kernel)
    · exact hs _ (by decide +kernel)
  obtain ⟨t1, z1, y1⟩ := L_stat (hts _ (List.mem_append_right _ (jm_tb2 (List.mem_of_getElem? (i := 29) rfl)))) (htb _ nzG) (hs (Cond.arrayOf (.static "GoalOrder" "FEWEST" "[I") .int) (by decide +kernel)) (hs (Cond.eq (.length (.static "GoalOrder" "FEWEST" "[I")) (.int 13)) (by decide +kernel)) e1
  have e2 : ∀ j : Nat, j < 13 → (Cond.eq (.elem (.static "GoalOrder" "MOST" "[I") (.int (Int32.ofNat j))) (.int (([0, 0, 0, 0, 0, 0, 2, 2, 5, 1, 7, 6, 0] : List Int32).getD j 0))).before #[Value.ref b] s = true := by
    intro j hj
    rcases (show j = 0 ∨ j = 1 ∨ j = 2 ∨ j = 3 ∨ j = 4 ∨ j = 5 ∨ j = 6 ∨ j = 7 ∨ j = 8 ∨ j = 9 ∨ j = 10 ∨ j = 11 ∨ j = 12 by omega) with rfl | rfl | rfl | rfl | rfl | rfl | rfl | rfl | rfl | rfl | rfl | rfl | rfl
    · exact hs _ (by decide +kernel)
    · exact hs _ (by decide +kernel)
    · exact hs _ (by decide +kernel)
    · exact hs _ (by decide +kernel)
    · exact hs _ (by decide +kernel)
    · exact hs _ (by decide +kernel)
    · exact hs _ (by decide +kernel)
    · exact hs _ (by decide +kernel)
    · exact hs _ (by decide +kernel)
    · exact hs _ (by decide +kernel)
    · exact hs _ (by decide +kernel)
    · exact hs _ (by decide +kernel)
    · exact hs _ (by decide +kernel)
  obtain ⟨t2, z2, y2⟩ := L_stat (hts _ (List.mem_append_right _ (jm_tb2 (List.mem_of_getElem? (i := 31) rfl)))) (htb _ nzG) (hs (Cond.arrayOf (.static "GoalOrder" "MOST" "[I") .int) (by decide +kernel)) (hs (Cond.eq (.length (.static "GoalOrder" "MOST" "[I")) (.int 13)) (by decide +kernel)) e2
  refine ⟨(fun k => (g k).1, fun k => (g k).2), fun t => if t = 0 then cI else if t = 1 then cN else if t = 2 then cL else if t = 3 then cB else if t = 10 then t1 else t2, ⟨fun k q hq => hg k q hq, fun k q h => by simp at h⟩, fun t ht => ?_, fun w hw => va_Nw.of ?_ (hts w (List.mem_append_right _ (jm_nestIn w hw))), fun C hC => ?_, fun z hz => ?_⟩
  · rcases (show t = 0 ∨ t = 1 ∨ t = 2 ∨ t = 3 by have : t < 4 := ht; omega) with rfl | rfl | rfl | rfl
    · exact ⟨aI, fI⟩
    · exact ⟨aN, kN, comp, o3, o4, o1, o5⟩
    · exact ⟨aL, fL⟩
    · exact ⟨aB, fB⟩
  · have h9 := jm_nestOk w hw
    cases w <;> first | (simp [jm_isN] at h9; done) | rfl
  · have h9 : C = "GoalOrder$Node" := by simpa [jm_over] using hC
    subst h9
    exact va_AO.of hO
  · simp only [jm_statics, List.mem_cons, List.not_mem_nil, or_false] at hz
    rcases hz with rfl | rfl
    · exact ⟨z1, y1⟩
    · exact ⟨z2, y2⟩
end LSTART
