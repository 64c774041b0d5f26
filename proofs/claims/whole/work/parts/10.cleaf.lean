section CLeaf
variable {l : Launch} {D : mD} {d : Nat} {st : aS}
set_option maxRecDepth 100000 in
set_option maxHeartbeats 4000000 in
theorem c_G_isVariable (x : Int32)  : MC l D mG_isVariable d 0 0 [vI x] st (fun v s' => st = s' ∧ v = some (vI (jb (¬ x < 0 ∧ ¬ 60 ≤ x)))) := by
  refine jm_start (ls0 := [some (vI x)]) (by decide) (Nat.le_of_ble_eq_true rfl) rfl ?_
  refine jm_iload_n (pc := 0) dG_isVariable_0 rfl ?_
  refine jm_if_lt (pc := 1) (tgt := 14) dG_isVariable_1 (by decide) (fun h1 => ?_) (fun h1 => ?_)
  · refine jm_iconst (pc := 14) (v := 0) dG_isVariable_14 (by decide) ?_
    refine jm_zret (pc := 15) dG_isVariable_15 rfl (by first | exact Or.inl rfl | exact Or.inr rfl | assumption) ⟨Nat.le_refl _, Nat.le_refl _⟩ ?_
    refine ⟨rfl, ?_⟩
    first | exact jbt ⟨h1, h7⟩ | exact jbf (fun q => q.1 h1) | exact jbf (fun q => q.2 h7)
  · refine jm_iload_n (pc := 4) dG_isVariable_4 rfl ?_
    refine jm_bipush (pc := 5) (v := 60) dG_isVariable_5 (by decide) ?_
    refine jm_icmp_ge (pc := 7) (tgt := 14) dG_isVariable_7 (by decide) (fun h7 => ?_) (fun h7 => ?_)
    · refine jm_iconst (pc := 14) (v := 0) dG_isVariable_14 (by decide) ?_
      refine jm_zret (pc := 15) dG_isVariable_15 rfl (by first | exact Or.inl rfl | exact Or.inr rfl | assumption) ⟨Nat.le_refl _, Nat.le_refl _⟩ ?_
      refine ⟨rfl, ?_⟩
      first | exact jbt ⟨h1, h7⟩ | exact jbf (fun q => q.1 h1) | exact jbf (fun q => q.2 h7)
    · refine jm_iconst (pc := 10) (v := 1) dG_isVariable_10 (by decide) ?_
      refine jm_goto (pc := 11) (tgt := 15) dG_isVariable_11 (by decide) ?_
      refine jm_zret (pc := 15) dG_isVariable_15 rfl (by first | exact Or.inl rfl | exact Or.inr rfl | assumption) ⟨Nat.le_refl _, Nat.le_refl _⟩ ?_
      refine ⟨rfl, ?_⟩
      first | exact jbt ⟨h1, h7⟩ | exact jbf (fun q => q.1 h1) | exact jbf (fun q => q.2 h7)
set_option maxRecDepth 100000 in
set_option maxHeartbeats 4000000 in
theorem c_G_holds (S : Int64) (x : Int32)  : MC l D mG_holds d 0 0 [vL S, vI x] st (fun v s' => st = s' ∧ v = some (vI (jb (¬ hB S x = 0)))) := by
  refine jm_start (ls0 := [some (vL S), none, some (vI x)]) (by decide) (Nat.le_of_ble_eq_true rfl) rfl ?_
  refine jm_lload_n (pc := 0) dG_holds_0 rfl ?_
  refine jm_iload_n (pc := 1) dG_holds_1 rfl ?_
  refine jm_lushr (pc := 2) dG_holds_2 ?_
  refine jm_lconst (pc := 3) (v := 1) dG_holds_3 (by decide) ?_
  refine jm_land (pc := 4) dG_holds_4 ?_
  refine jm_lconst (pc := 5) (v := 0) dG_holds_5 (by decide) ?_
  refine jm_lcmp (pc := 6) dG_holds_6 ?_
  refine jm_if_eq (pc := 7) (tgt := 14) dG_holds_7 (by decide) (fun h7 => ?_) (fun h7 => ?_)
  · refine jm_iconst (pc := 14) (v := 0) dG_holds_14 (by decide) ?_
    refine jm_zret (pc := 15) dG_holds_15 rfl (by first | exact Or.inl rfl | exact Or.inr rfl | assumption) ⟨Nat.le_refl _, Nat.le_refl _⟩ ?_
    refine ⟨rfl, ?_⟩
    first | exact jbt (fun q => h7 (lg0.mpr q)) | exact jbf (fun q => q (lg0.mp h7))
  · refine jm_iconst (pc := 10) (v := 1) dG_holds_10 (by decide) ?_
    refine jm_goto (pc := 11) (tgt := 15) dG_holds_11 (by decide) ?_
    refine jm_zret (pc := 15) dG_holds_15 rfl (by first | exact Or.inl rfl | exact Or.inr rfl | assumption) ⟨Nat.le_refl _, Nat.le_refl _⟩ ?_
    refine ⟨rfl, ?_⟩
    first | exact jbt (fun q => h7 (lg0.mpr q)) | exact jbf (fun q => q (lg0.mp h7))
set_option maxRecDepth 100000 in
set_option maxHeartbeats 4000000 in
theorem c_G_hasPlace (p k : Int32)  : MC l D mG_hasPlace d 0 0 [vI p, vI k] st (fun v s' => st = s' ∧ v = some (vI (jb (¬ hP p k = 0)))) := by
  refine jm_start (ls0 := [some (vI p), some (vI k)]) (by decide) (Nat.le_of_ble_eq_true rfl) rfl ?_
  refine jm_iload_n (pc := 0) dG_hasPlace_0 rfl ?_
  refine jm_iload_n (pc := 1) dG_hasPlace_1 rfl ?_
  refine jm_iushr (pc := 2) dG_hasPlace_2 ?_
  refine jm_iconst (pc := 3) (v := 1) dG_hasPlace_3 (by decide) ?_
  refine jm_iand (pc := 4) dG_hasPlace_4 ?_
  refine jm_if_eq (pc := 5) (tgt := 12) dG_hasPlace_5 (by decide) (fun h5 => ?_) (fun h5 => ?_)
  · refine jm_iconst (pc := 12) (v := 0) dG_hasPlace_12 (by decide) ?_
    refine jm_zret (pc := 13) dG_hasPlace_13 rfl (by first | exact Or.inl rfl | exact Or.inr rfl | assumption) ⟨Nat.le_refl _, Nat.le_refl _⟩ ?_
    refine ⟨rfl, ?_⟩
    first | exact jbt h5 | exact jbf (fun q => q h5)
  · refine jm_iconst (pc := 8) (v := 1) dG_hasPlace_8 (by decide) ?_
    refine jm_goto (pc := 9) (tgt := 13) dG_hasPlace_9 (by decide) ?_
    refine jm_zret (pc := 13) dG_hasPlace_13 rfl (by first | exact Or.inl rfl | exact Or.inr rfl | assumption) ⟨Nat.le_refl _, Nat.le_refl _⟩ ?_
    refine ⟨rfl, ?_⟩
    first | exact jbt h5 | exact jbf (fun q => q h5)
set_option maxRecDepth 100000 in
set_option maxHeartbeats 4000000 in
theorem c_N_variableAt {i j w : Nat} {vr : Nat → Nat} (hv : nV st i w vr) (hj : j < w) : MC l D mN_variableAt d 0 0 [vR (some (0, i)), vI (nI j)] st (fun v s' => st = s' ∧ v = some (vL (b1 (vr j)))) := by
  refine jm_start (ls0 := [some (vR (some (0, i))), some (vI (nI j))]) (by decide) (Nat.le_of_ble_eq_true rfl) rfl ?_
  refine jm_iload_n (pc := 0) dN_variableAt_0 rfl ?_
  refine jm_if_lt (pc := 1) (tgt := 23) dN_variableAt_1 (by decide) (fun h1 => ?_) (fun h1 => ?_)
  · first
      | exact absurd h1 (nI_pos (by have := hv.2.1; omega))
      | exact absurd (by rw [hv.1] at h9; exact h9) (nI_ge hj (by have := hv.2.1; omega))
  · refine jm_iload_n (pc := 4) dN_variableAt_4 rfl ?_
    refine jm_aload_n (pc := 5) dN_variableAt_5 rfl ?_
    refine jm_geti (pc := 6) lN_25 dN_variableAt_6 rfl (fun _ => rfl) ?_
    refine jm_icmp_ge (pc := 9) (tgt := 23) dN_variableAt_9 (by decide) (fun h9 => ?_) (fun h9 => ?_)
    · first
        | exact absurd h1 (nI_pos (by have := hv.2.1; omega))
        | exact absurd (by rw [hv.1] at h9; exact h9) (nI_ge hj (by have := hv.2.1; omega))
    · refine jm_lconst (pc := 12) (v := 1) dN_variableAt_12 (by decide) ?_
      refine jm_aload_n (pc := 13) dN_variableAt_13 rfl ?_
      refine jm_getq (pc := 14) lN_15 dN_variableAt_14 rfl rfl (hv.2.2.1) ?_
      refine jm_iload_n (pc := 17) dN_variableAt_17 rfl ?_
      refine jm_iald (pc := 18) dN_variableAt_18 rfl (by decide) rfl (fun _ => rfl) ?hin ?_
      case hin =>
        exact vp_in_nI (N := 7) (by have := hv.2.1; omega) (by decide)
      refine jm_lshl (pc := 19) dN_variableAt_19 ?_
      refine jm_goto (pc := 20) (tgt := 24) dN_variableAt_20 (by decide) ?_
      refine jm_lret (pc := 24) dN_variableAt_24 rfl ⟨Nat.le_refl _, Nat.le_refl _⟩ ?_
      exact ⟨rfl, by rw [nI_clamp (by have := hv.2.1; omega), (hv.2.2.2 j hj).1]; rfl⟩
set_option maxRecDepth 100000 in
set_option maxHeartbeats 4000000 in
theorem lp_N_variablesFrom {i w fr : Nat} {vr : Nat → Nat} {fx : Int32} (hv : nV st i w vr) : ∀ (n : Nat) (k : Nat) (x : Int32) (S : Int64), x = nI k → k ≤ w → w - k < n → rsF vr (w - k) k S = rowS w vr fr → MS l D mN_variablesFrom d 0 0 (fun v s' => st = s' ∧ v = some (vL (rowS w vr fr))) 0 0 5 [some (vR (some (0, i))), some (vI fx), some (vL S), none, some (vI x)] [] st := by
  intro n
  induction n with
  | zero =>
    intro k x S hx hk hn hS
    omega
  | succ n ih =>
    intro k x S hx hk hn hS
    refine jm_iload (pc := 5) dN_variablesFrom_5 rfl ?_
    refine jm_aload_n (pc := 7) dN_variablesFrom_7 rfl ?_
    refine jm_geti (pc := 8) lN_25 dN_variablesFrom_8 rfl (fun _ => rfl) ?_
    refine jm_icmp_ge (pc := 11) (tgt := 32) dN_variablesFrom_11 (by decide) (fun h11 => ?_) (fun h11 => ?_)
    · refine jm_lload_n (pc := 32) dN_variablesFrom_32 rfl ?_
      refine jm_lret (pc := 33) dN_variablesFrom_33 rfl ⟨Nat.le_refl _, Nat.le_refl _⟩ ?_
      have hkw : ¬ k < w := fun q => nI_ge q (by have := hv.2.1; omega) (by rw [hv.1, hx] at h11; exact h11)
      rw [show w - k = 0 by omega] at hS
      exact ⟨rfl, by rw [← hS]; rfl⟩
    · have h7 := hv.2.1
      have hkw : k < w := Nat.lt_of_not_le fun q => h11 (by rw [hv.1, hx]; exact nI_le q (by omega))
      refine jm_lload_n (pc := 14) dN_variablesFrom_14 rfl ?_
      refine jm_lconst (pc := 15) (v := 1) dN_variablesFrom_15 (by decide) ?_
      refine jm_aload_n (pc := 16) dN_variablesFrom_16 rfl ?_
      refine jm_getq (pc := 17) lN_15 dN_variablesFrom_17 rfl rfl (hv.2.2.1) ?_
      refine jm_iload (pc := 20) dN_variablesFrom_20 rfl ?_
      refine jm_iald (pc := 22) dN_variablesFrom_22 rfl (by decide) rfl (fun _ => rfl) ?hin ?_
      case hin =>
        rw [hx]; exact vp_in_nI (N := 7) (by omega) (by decide)
      refine jm_lshl (pc := 23) dN_variablesFrom_23 ?_
      refine jm_lor (pc := 24) dN_variablesFrom_24 ?_
      refine jm_lstore_n (pc := 25) dN_variablesFrom_25 (by decide) ?_
      refine jm_iinc (pc := 26) dN_variablesFrom_26 rfl (by decide) ?_
      refine jm_goto (pc := 29) (tgt := 5) dN_variablesFrom_29 (by decide) ?_
      refine ih (k + 1) _ _ (by rw [hx]; exact ni1 k) (by omega) (by omega) ?_
      rw [← hS, show w - k = (w - (k + 1)) + 1 by omega]
      show rsF vr (w - (k + 1)) (k + 1) _ = rsF vr (w - (k + 1)) (k + 1) _
      rw [hx, nI_clamp (by omega), (hv.2.2.2 k hkw).1]
      rfl
set_option maxRecDepth 100000 in
set_option maxHeartbeats 4000000 in
theorem c_N_variablesFrom {i w fr : Nat} {vr : Nat → Nat} (hv : nV st i w vr) (hf : fr ≤ w) : MC l D mN_variablesFrom d 0 0 [vR (some (0, i)), vI (nI fr)] st (fun v s' => st = s' ∧ v = some (vL (rowS w vr fr))) := by
  refine jm_start (ls0 := [some (vR (some (0, i))), some (vI (nI fr)), none, none, none]) (by decide) (Nat.le_of_ble_eq_true rfl) rfl ?_
  refine jm_lconst (pc := 0) (v := 0) dN_variablesFrom_0 (by decide) ?_
  refine jm_lstore_n (pc := 1) dN_variablesFrom_1 (by decide) ?_
  refine jm_iload_n (pc := 2) dN_variablesFrom_2 rfl ?_
  refine jm_istore (pc := 3) dN_variablesFrom_3 (by decide) ?_
  exact lp_N_variablesFrom hv (w - fr + 1) fr _ _ rfl hf (by omega) rfl
set_option maxRecDepth 100000 in
set_option maxHeartbeats 4000000 in
theorem c_R_isGround {i : Nat} (S : Int64)  : MC l D mR_isGround d 0 0 [vR (some (0, i)), vL S] st (fun v s' => st = s' ∧ v = some (vI (jb (S &&& nt (st.2.1 0 i 13) = 0)))) := by
  refine jm_start (ls0 := [some (vR (some (0, i))), some (vL S), none]) (by decide) (Nat.le_of_ble_eq_true rfl) rfl ?_
  refine jm_lload_n (pc := 0) dR_isGround_0 rfl ?_
  refine jm_aload_n (pc := 1) dR_isGround_1 rfl ?_
  refine jm_getl (pc := 2) lR_31 dR_isGround_2 rfl (fun _ => rfl) ?_
  refine jm_ldc2 (pc := 5) dR_isGround_5 klR_91 ?_
  refine jm_lxor (pc := 8) dR_isGround_8 ?_
  refine jm_land (pc := 9) dR_isGround_9 ?_
  refine jm_lconst (pc := 10) (v := 0) dR_isGround_10 (by decide) ?_
  refine jm_lcmp (pc := 11) dR_isGround_11 ?_
  refine jm_if_ne (pc := 12) (tgt := 19) dR_isGround_12 (by decide) (fun h12 => ?_) (fun h12 => ?_)
  · refine jm_iconst (pc := 19) (v := 0) dR_isGround_19 (by decide) ?_
    refine jm_zret (pc := 20) dR_isGround_20 rfl (by first | exact Or.inl rfl | exact Or.inr rfl | assumption) ⟨Nat.le_refl _, Nat.le_refl _⟩ ?_
    refine ⟨rfl, ?_⟩
    first | exact jbt (lg0.mp h12) | exact jbf (fun q => h12 (lg0.mpr q))
  · refine jm_iconst (pc := 15) (v := 1) dR_isGround_15 (by decide) ?_
    refine jm_goto (pc := 16) (tgt := 20) dR_isGround_16 (by decide) ?_
    refine jm_zret (pc := 20) dR_isGround_20 rfl (by first | exact Or.inl rfl | exact Or.inr rfl | assumption) ⟨Nat.le_refl _, Nat.le_refl _⟩ ?_
    refine ⟨rfl, ?_⟩
    first | exact jbt (lg0.mp h12) | exact jbf (fun q => h12 (lg0.mpr q))
set_option maxRecDepth 100000 in
set_option maxHeartbeats 4000000 in
theorem c_R_settle {i : Nat} (w : Int32) (S : Int64)  : MC l D mR_settle d 0 0 [vR (some (0, i)), vI w, vL S] st (fun v s' => s' = sL (sI st 0 i 15 w) 0 i 14 (st.2.1 0 i 13 ||| S) ∧ v = some (vI 1)) := by
  refine jm_start (ls0 := [some (vR (some (0, i))), some (vI w), some (vL S), none]) (by decide) (Nat.le_of_ble_eq_true rfl) rfl ?_
  refine jm_aload_n (pc := 0) dR_settle_0 rfl ?_
  refine jm_iload_n (pc := 1) dR_settle_1 rfl ?_
  refine jm_puti (pc := 2) pR_settle_168 dR_settle_2 rfl rfl ?_
  refine jm_aload_n (pc := 5) dR_settle_5 rfl ?_
  refine jm_aload_n (pc := 6) dR_settle_6 rfl ?_
  refine jm_getl (pc := 7) lR_31 dR_settle_7 rfl (fun _ => rfl) ?_
  refine jm_lload_n (pc := 10) dR_settle_10 rfl ?_
  refine jm_lor (pc := 11) dR_settle_11 ?_
  refine jm_putl (pc := 12) pR_settle_36 dR_settle_12 rfl rfl ?_
  refine jm_iconst (pc := 15) (v := 1) dR_settle_15 (by decide) ?_
  refine jm_zret (pc := 16) dR_settle_16 rfl (by first | exact Or.inl rfl | exact Or.inr rfl | assumption) ⟨Nat.le_refl _, Nat.le_refl _⟩ ?_
  exact ⟨rfl, rfl⟩
set_option maxRecDepth 100000 in
set_option maxHeartbeats 4000000 in
theorem c_R_outerOf {i t : Nat}  : MC l D mR_outerOf d 0 0 [vR (some (3, t)), vR (some (0, i))] st (fun v s' => st = s' ∧ v = some (vL (st.2.1 0 i 12 ||| st.2.1 3 t 1))) := by
  refine jm_start (ls0 := [some (vR (some (3, t))), some (vR (some (0, i)))]) (by decide) (Nat.le_of_ble_eq_true rfl) rfl ?_
  refine jm_aload_n (pc := 0) dR_outerOf_0 rfl ?_
  refine jm_getl (pc := 1) lR_115 dR_outerOf_1 rfl (fun _ => rfl) ?_
  refine jm_aload_n (pc := 4) dR_outerOf_4 rfl ?_
  refine jm_getl (pc := 5) lR_15 dR_outerOf_5 rfl (fun _ => rfl) ?_
  refine jm_lor (pc := 8) dR_outerOf_8 ?_
  refine jm_lret (pc := 9) dR_outerOf_9 rfl ⟨Nat.le_refl _, Nat.le_refl _⟩ ?_
  exact ⟨rfl, rfl⟩
set_option maxRecDepth 100000 in
set_option maxHeartbeats 4000000 in
theorem c_R_madeBy {i : Nat}  : MC l D mR_madeBy d 0 0 [vR (some (0, i))] st (fun v s' => st = s' ∧ v = some (vL (st.2.1 0 i 14 &&& nt (st.2.1 0 i 13)))) := by
  refine jm_start (ls0 := [some (vR (some (0, i)))]) (by decide) (Nat.le_of_ble_eq_true rfl) rfl ?_
  refine jm_aload_n (pc := 0) dR_madeBy_0 rfl ?_
  refine jm_getl (pc := 1) lR_36 dR_madeBy_1 rfl (fun _ => rfl) ?_
  refine jm_aload_n (pc := 4) dR_madeBy_4 rfl ?_
  refine jm_getl (pc := 5) lR_31 dR_madeBy_5 rfl (fun _ => rfl) ?_
  refine jm_ldc2 (pc := 8) dR_madeBy_8 klR_91 ?_
  refine jm_lxor (pc := 11) dR_madeBy_11 ?_
  refine jm_land (pc := 12) dR_madeBy_12 ?_
  refine jm_lret (pc := 13) dR_madeBy_13 rfl ⟨Nat.le_refl _, Nat.le_refl _⟩ ?_
  exact ⟨rfl, rfl⟩
end CLeaf
