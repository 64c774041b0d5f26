section CM1
variable {l : Launch} {D : mD} {d : Nat} {st : aS} {E : EE}
set_option maxRecDepth 100000 in
set_option maxHeartbeats 4000000 in
theorem c_M_isIn {x : Nat} (S : Int64) (hv : x < 60) : MC l D mM_isIn d 0 0 [vR (some (5, 0)), vL S, vI (nI x)] st (fun v s' => st = s' ∧ v = some (vI (jb (S.toBitVec.getLsbD x = true)))) := by
  refine jm_start (ls0 := [some (vR (some (5, 0))), some (vL S), none, some (vI (nI x))]) (by decide) (Nat.le_of_ble_eq_true rfl) rfl ?_
  refine jm_lload_n (pc := 0) dM_isIn_0 rfl ?_
  refine jm_iload_n (pc := 1) dM_isIn_1 rfl ?_
  refine jm_lshr (pc := 2) dM_isIn_2 ?_
  refine jm_lconst (pc := 3) (v := 1) dM_isIn_3 (by decide) ?_
  refine jm_land (pc := 4) dM_isIn_4 ?_
  refine jm_lconst (pc := 5) (v := 1) dM_isIn_5 (by decide) ?_
  refine jm_lcmp (pc := 6) dM_isIn_6 ?_
  refine jm_if_ne (pc := 7) (tgt := 14) dM_isIn_7 (by decide) (fun h7 => ?_) (fun h7 => ?_)
  · refine jm_iconst (pc := 14) (v := 0) dM_isIn_14 (by decide) ?_
    refine jm_zret (pc := 15) dM_isIn_15 rfl (by first | exact Or.inl rfl | exact Or.inr rfl | assumption) ⟨Nat.le_refl _, Nat.le_refl _⟩ ?_
    refine ⟨rfl, ?_⟩
    first
      | exact jbt ((isIn_iff (by omega)).mp (lg1.mp h7))
      | exact jbf (fun q => h7 (lg1.mpr ((isIn_iff (by omega)).mpr q)))
  · refine jm_iconst (pc := 10) (v := 1) dM_isIn_10 (by decide) ?_
    refine jm_goto (pc := 11) (tgt := 15) dM_isIn_11 (by decide) ?_
    refine jm_zret (pc := 15) dM_isIn_15 rfl (by first | exact Or.inl rfl | exact Or.inr rfl | assumption) ⟨Nat.le_refl _, Nat.le_refl _⟩ ?_
    refine ⟨rfl, ?_⟩
    first
      | exact jbt ((isIn_iff (by omega)).mp (lg1.mp h7))
      | exact jbf (fun q => h7 (lg1.mpr ((isIn_iff (by omega)).mpr q)))
set_option maxRecDepth 100000 in
set_option maxHeartbeats 4000000 in
theorem c_M_areIn (S a : Int64)  : MC l D mM_areIn d 0 0 [vR (some (5, 0)), vL S, vL a] st (fun v s' => st = s' ∧ v = some (vI (jb (a &&& S = a)))) := by
  refine jm_start (ls0 := [some (vR (some (5, 0))), some (vL S), none, some (vL a), none]) (by decide) (Nat.le_of_ble_eq_true rfl) rfl ?_
  refine jm_lload_n (pc := 0) dM_areIn_0 rfl ?_
  refine jm_lload_n (pc := 1) dM_areIn_1 rfl ?_
  refine jm_land (pc := 2) dM_areIn_2 ?_
  refine jm_lload_n (pc := 3) dM_areIn_3 rfl ?_
  refine jm_lcmp (pc := 4) dM_areIn_4 ?_
  refine jm_if_ne (pc := 5) (tgt := 12) dM_areIn_5 (by decide) (fun h5 => ?_) (fun h5 => ?_)
  · refine jm_iconst (pc := 12) (v := 0) dM_areIn_12 (by decide) ?_
    refine jm_zret (pc := 13) dM_areIn_13 rfl (by first | exact Or.inl rfl | exact Or.inr rfl | assumption) ⟨Nat.le_refl _, Nat.le_refl _⟩ ?_
    refine ⟨rfl, ?_⟩
    first
      | exact jbt (lg1.mp h5)
      | exact jbf (fun q => h5 (lg1.mpr q))
  · refine jm_iconst (pc := 8) (v := 1) dM_areIn_8 (by decide) ?_
    refine jm_goto (pc := 9) (tgt := 13) dM_areIn_9 (by decide) ?_
    refine jm_zret (pc := 13) dM_areIn_13 rfl (by first | exact Or.inl rfl | exact Or.inr rfl | assumption) ⟨Nat.le_refl _, Nat.le_refl _⟩ ?_
    refine ⟨rfl, ?_⟩
    first
      | exact jbt (lg1.mp h5)
      | exact jbf (fun q => h5 (lg1.mpr q))
set_option maxRecDepth 100000 in
set_option maxHeartbeats 4000000 in
theorem c_M_comes {i : Nat} (w : Int32) (S : Int64) (hm : mF st) (hi : i < 250) : MC l D mM_comes d 0 0 [vR (some (5, 0)), vI (nI i), vI w, vL S] st (fun v s' => s' = sL (sI (sI st 31 0 i 1) 34 0 i w) 30 0 i S ∧ v = none) := by
  refine jm_start (ls0 := [some (vR (some (5, 0))), some (vI (nI i)), some (vI w), some (vL S), none]) (by decide) (Nat.le_of_ble_eq_true rfl) rfl ?_
  refine jm_aload_n (pc := 0) dM_comes_0 rfl ?_
  refine jm_getq (pc := 1) lM_68 dM_comes_1 rfl rfl (hm 25 rfl) ?_
  refine jm_iload_n (pc := 4) dM_comes_4 rfl ?_
  refine jm_iconst (pc := 5) (v := 1) dM_comes_5 (by decide) ?_
  refine jm_zast (pc := 6) dM_comes_6 rfl (by decide) rfl (fun _ => rfl) ?hin (by first | exact Or.inl rfl | exact Or.inr rfl | assumption) ?_
  case hin =>
    exact vp_in_nI (N := 250) (by omega) (by decide)
  refine jm_aload_n (pc := 7) dM_comes_7 rfl ?_
  refine jm_getq (pc := 8) lM_78 dM_comes_8 rfl rfl (hm 28 rfl) ?_
  refine jm_iload_n (pc := 11) dM_comes_11 rfl ?_
  refine jm_iload_n (pc := 12) dM_comes_12 rfl ?_
  refine jm_iast (pc := 13) dM_comes_13 rfl (by decide) rfl (fun _ => rfl) ?hin ?_
  case hin =>
    exact vp_in_nI (N := 250) (by omega) (by decide)
  refine jm_aload_n (pc := 14) dM_comes_14 rfl ?_
  refine jm_getq (pc := 15) lM_65 dM_comes_15 rfl rfl (hm 24 rfl) ?_
  refine jm_iload_n (pc := 18) dM_comes_18 rfl ?_
  refine jm_lload_n (pc := 19) dM_comes_19 rfl ?_
  refine jm_last (pc := 20) dM_comes_20 rfl (by decide) rfl (fun _ => rfl) ?hin ?_
  case hin =>
    exact vp_in_nI (N := 250) (by omega) (by decide)
  refine jm_vret (pc := 21) dM_comes_21 rfl ⟨Nat.le_refl _, Nat.le_refl _⟩ ?_
  rw [nI_clamp (by omega)]
  exact ⟨rfl, rfl⟩
set_option maxRecDepth 100000 in
set_option maxHeartbeats 4000000 in
theorem lp_M_rowOf {i w fr : Nat} {vr : Nat → Nat} {fx : Int32} (hm : mF st) (hv : mV st i w vr) : ∀ (n : Nat) (k : Nat) (x : Int32) (S : Int64), x = nI k → k ≤ w → w - k < n → rsF vr (w - k) k S = rowS w vr fr → MS l D mM_rowOf d 0 0 (fun v s' => st = s' ∧ v = some (vL (rowS w vr fr))) 0 0 5 [some (vR (some (5, 0))), some (vI (nI i)), some (vI fx), some (vL S), none, some (vI x)] [] st := by
  intro n
  induction n with
  | zero =>
    intro k x S hx hk hn hS
    omega
  | succ n ih =>
    intro k x S hx hk hn hS
    refine jm_iload (pc := 5) dM_rowOf_5 rfl ?_
    refine jm_aload_n (pc := 7) dM_rowOf_7 rfl ?_
    refine jm_getq (pc := 8) lM_43 dM_rowOf_8 rfl rfl (hm 14 rfl) ?_
    refine jm_iload_n (pc := 11) dM_rowOf_11 rfl ?_
    refine jm_iald (pc := 12) dM_rowOf_12 rfl (by decide) rfl (fun _ => rfl) ?hin ?_
    case hin =>
      have h250 := hv.2.2.1
      exact vp_in_nI (N := 250) (by omega) (by decide)
    have h250 := hv.2.2.1
    have hw7 := hv.2.1
    rw [nI_clamp (by omega), hv.1]
    refine jm_icmp_ge (pc := 13) (tgt := 39) dM_rowOf_13 (by decide) (fun h13 => ?_) (fun h13 => ?_)
    · refine jm_lload_n (pc := 39) dM_rowOf_39 rfl ?_
      refine jm_lret (pc := 40) dM_rowOf_40 rfl ⟨Nat.le_refl _, Nat.le_refl _⟩ ?_
      have hkw : ¬ k < w := fun q => nI_ge q (by omega) (by rw [hx] at h13; exact h13)
      rw [show w - k = 0 by omega] at hS
      exact ⟨rfl, by rw [← hS]; rfl⟩
    · have hkw : k < w := Nat.lt_of_not_le fun q => h13 (by rw [hx]; exact nI_le q (by omega))
      subst hx
      refine jm_lload_n (pc := 16) dM_rowOf_16 rfl ?_
      refine jm_lconst (pc := 17) (v := 1) dM_rowOf_17 (by decide) ?_
      refine jm_aload_n (pc := 18) dM_rowOf_18 rfl ?_
      refine jm_getq (pc := 19) lM_46 dM_rowOf_19 rfl rfl (hm 15 rfl) ?_
      refine jm_bipush (pc := 22) (v := 7) dM_rowOf_22 (by decide) ?_
      refine jm_iload_n (pc := 24) dM_rowOf_24 rfl ?_
      refine jm_imul (pc := 25) dM_rowOf_25 ?_
      refine jm_iload (pc := 26) dM_rowOf_26 rfl ?_
      refine jm_iadd (pc := 28) dM_rowOf_28 ?_
      rw [e7]
      refine jm_iald (pc := 29) dM_rowOf_29 rfl (by decide) rfl (fun _ => rfl) ?hin ?_
      case hin =>
        exact vp_in_nI (N := 1750) (by omega) (by decide)
      refine jm_lshl (pc := 30) dM_rowOf_30 ?_
      refine jm_lor (pc := 31) dM_rowOf_31 ?_
      refine jm_lstore_n (pc := 32) dM_rowOf_32 (by decide) ?_
      refine jm_iinc (pc := 33) dM_rowOf_33 rfl (by decide) ?_
      refine jm_goto (pc := 36) (tgt := 5) dM_rowOf_36 (by decide) ?_
      refine ih (k + 1) _ _ (ni1 k) (by omega) (by omega) ?_
      rw [← hS, show w - k = (w - (k + 1)) + 1 by omega]
      show rsF vr (w - (k + 1)) (k + 1) _ = rsF vr (w - (k + 1)) (k + 1) _
      rw [nI_clamp (by omega), (hv.2.2.2 k hkw).1]
      rfl
set_option maxRecDepth 100000 in
set_option maxHeartbeats 4000000 in
theorem c_M_rowOf {i w fr : Nat} {vr : Nat → Nat} (hm : mF st) (hv : mV st i w vr) (hf : fr ≤ w) : MC l D mM_rowOf d 0 0 [vR (some (5, 0)), vI (nI i), vI (nI fr)] st (fun v s' => st = s' ∧ v = some (vL (rowS w vr fr))) := by
  refine jm_start (ls0 := [some (vR (some (5, 0))), some (vI (nI i)), some (vI (nI fr)), none, none, none]) (by decide) (Nat.le_of_ble_eq_true rfl) rfl ?_
  refine jm_lconst (pc := 0) (v := 0) dM_rowOf_0 (by decide) ?_
  refine jm_lstore_n (pc := 1) dM_rowOf_1 (by decide) ?_
  refine jm_iload_n (pc := 2) dM_rowOf_2 rfl ?_
  refine jm_istore (pc := 3) dM_rowOf_3 (by decide) ?_
  exact lp_M_rowOf hm hv (w - fr + 1) fr _ _ rfl hf (by omega) rfl
set_option maxRecDepth 100000 in
set_option maxHeartbeats 4000000 in
theorem c_M_ended {i F : Nat} (g : Int32) (S : Int64) (hm : mF st) (hi : i < 250) (hF : st.1 5 0 38 = nI (F + 1)) (hg : g = 0 ∨ g = 1) : MC l D mM_ended d 0 0 [vR (some (5, 0)), vI (nI i), vI g, vL S] st (fun v s' => s' = sL (sI (sI st 5 0 38 (nI F)) 31 0 i g) 30 0 i S ∧ v = none) := by
  refine jm_start (ls0 := [some (vR (some (5, 0))), some (vI (nI i)), some (vI g), some (vL S), none]) (by decide) (Nat.le_of_ble_eq_true rfl) rfl ?_
  refine jm_aload_n (pc := 0) dM_ended_0 rfl ?_
  refine jm_dup (pc := 1) dM_ended_1 rfl ?_
  refine jm_geti (pc := 2) lM_193 dM_ended_2 rfl (fun _ => rfl) ?_
  refine jm_iconst (pc := 5) (v := 1) dM_ended_5 (by decide) ?_
  refine jm_isub (pc := 6) dM_ended_6 ?_
  rw [hF, show nI (F + 1) - 1 = nI F from nI_pred F]
  refine jm_puti (pc := 7) pM_ended_193 dM_ended_7 rfl rfl ?_
  refine jm_aload_n (pc := 10) dM_ended_10 rfl ?_
  refine jm_getq (pc := 11) lM_68 dM_ended_11 rfl rfl (hm 25 rfl) ?_
  refine jm_iload_n (pc := 14) dM_ended_14 rfl ?_
  refine jm_iload_n (pc := 15) dM_ended_15 rfl ?_
  refine jm_zast (pc := 16) dM_ended_16 rfl (by decide) rfl (fun _ => rfl) ?hin (by first | exact Or.inl rfl | exact Or.inr rfl | assumption) ?_
  case hin =>
    exact vp_in_nI (N := 250) (by omega) (by decide)
  refine jm_aload_n (pc := 17) dM_ended_17 rfl ?_
  refine jm_getq (pc := 18) lM_65 dM_ended_18 rfl rfl (hm 24 rfl) ?_
  refine jm_iload_n (pc := 21) dM_ended_21 rfl ?_
  refine jm_lload_n (pc := 22) dM_ended_22 rfl ?_
  refine jm_last (pc := 23) dM_ended_23 rfl (by decide) rfl (fun _ => rfl) ?hin ?_
  case hin =>
    exact vp_in_nI (N := 250) (by omega) (by decide)
  refine jm_vret (pc := 24) dM_ended_24 rfl ⟨Nat.le_refl _, Nat.le_refl _⟩ ?_
  rw [nI_clamp (by omega)]
  exact ⟨rfl, rfl⟩
end CM1
