section CG2
variable {l : Launch} {D : mD} {d : Nat} {st : aS}
set_option maxRecDepth 100000 in
set_option maxHeartbeats 4000000 in
theorem c_G_fits_n (x p : Int32) (m : Nat) (hx : ¬ isN 13 x) : MC l D mG_fits d 0 0 [vR (some (4, 0)), vI x, vI p, vI (nI m)] st (fun v s' => st = s' ∧ v = some (vI (jb (False)))) := by
  refine jm_start (ls0 := [some (vR (some (4, 0))), some (vI x), some (vI p), some (vI (nI m))]) (by decide) (Nat.le_of_ble_eq_true rfl) rfl ?_
  refine jm_iload_n (pc := 0) dG_fits_0 rfl ?_
  refine jm_if_lt (pc := 1) (tgt := 10) dG_fits_1 (by decide) (fun h1 => ?_) (fun h1 => ?_)
  · refine jm_iconst (pc := 10) (v := 0) dG_fits_10 (by decide) ?_
    refine jm_zret (pc := 11) dG_fits_11 rfl (by first | exact Or.inl rfl | exact Or.inr rfl | assumption) ⟨Nat.le_refl _, Nat.le_refl _⟩ ?_
    exact ⟨rfl, jbf id⟩
  · refine jm_iload_n (pc := 4) dG_fits_4 rfl ?_
    refine jm_bipush (pc := 5) (v := 12) dG_fits_5 (by decide) ?_
    refine jm_icmp_le (pc := 7) (tgt := 12) dG_fits_7 (by decide) (fun h7 => ?_) (fun h7 => ?_)
    · exact absurd ⟨h1, fun q => absurd h7 (fun z => absurd (Int32.le_trans q z) (by decide))⟩ hx
    · refine jm_iconst (pc := 10) (v := 0) dG_fits_10 (by decide) ?_
      refine jm_zret (pc := 11) dG_fits_11 rfl (by first | exact Or.inl rfl | exact Or.inr rfl | assumption) ⟨Nat.le_refl _, Nat.le_refl _⟩ ?_
      exact ⟨rfl, jbf id⟩
set_option maxRecDepth 100000 in
set_option maxHeartbeats 4000000 in
theorem c_G_fits_c {np : Nat} {ar md : Nat → Nat} {ou : Nat → Nat → Int32} (p : Int32) (m : Nat) (hF : CF st) (hp : pR st np ar md ou) (hm : m ≤ 7) (hd : 2 ≤ d) : MC l D mG_fits d 0 0 [vR (some (4, 0)), vI 12, vI p, vI (nI m)] st (fun v s' => st = s' ∧ v = some (vI (jb (isN np p ∧ m = ar p.toNatClampNeg)))) := by
  refine jm_start (ls0 := [some (vR (some (4, 0))), some (vI 12), some (vI p), some (vI (nI m))]) (by decide) (Nat.le_of_ble_eq_true rfl) rfl ?_
  obtain ⟨k0_, k1_, k2_, k3_, k4_, k5_, k6_⟩ := hF
  obtain ⟨p1_, p2_, p3_, p4_, p5_, p6_, p7_, p8_⟩ := hp
  refine jm_iload_n (pc := 0) dG_fits_0 rfl ?_
  refine jm_if_lt (pc := 1) (tgt := 10) dG_fits_1 (by decide) (fun h1 => ?_) (fun h1 => ?_)
  · exact absurd h1 (by decide)
  · refine jm_iload_n (pc := 4) dG_fits_4 rfl ?_
    refine jm_bipush (pc := 5) (v := 12) dG_fits_5 (by decide) ?_
    refine jm_icmp_le (pc := 7) (tgt := 12) dG_fits_7 (by decide) (fun h7 => ?_) (fun h7 => ?_)
    · refine jm_iload_n (pc := 12) dG_fits_12 rfl ?_
      refine jm_bipush (pc := 13) (v := 12) dG_fits_13 (by decide) ?_
      refine jm_icmp_ne (pc := 15) (tgt := 47) dG_fits_15 (by decide) (fun h15 => ?_) (fun h15 => ?_)
      · exact absurd rfl h15
      · refine jm_aload_n (pc := 18) dG_fits_18 rfl ?_
        refine jm_getq (pc := 19) lG_10 dG_fits_19 rfl rfl (k0_) ?_
        refine jm_iload_n (pc := 22) dG_fits_22 rfl ?_
        refine jm_callV (pc := 23) (c_P_has (d := d - 1) p) fP_has vP_has cG_161 dG_fits_23 rfl rfl rfl rfl (by omega) ⟨Nat.le_refl _, Nat.le_refl _⟩ rfl (Nat.le_of_ble_eq_true rfl) (fun v s2 hq => ?_)
        obtain ⟨rfl, rfl⟩ := hq
        refine jm_if_eq (pc := 26) (tgt := 45) dG_fits_26 (by decide) (fun h26 => ?_) (fun h26 => ?_)
        · refine jm_iconst (pc := 45) (v := 0) dG_fits_45 (by decide) ?_
          refine jm_zret (pc := 46) dG_fits_46 rfl (by first | exact Or.inl rfl | exact Or.inr rfl | assumption) ⟨Nat.le_refl _, Nat.le_refl _⟩ ?_
          refine ⟨rfl, ?_⟩
          first
            | exact jbf (fun q => jb_eq0 h26 (by rw [p4_]; exact q.1))
            | exact jbf (fun q => h38 (by have := q.2; rw [ej] at this; rw [this]))
            | exact jbt ⟨hN, by rw [ej]; exact (nI_eq (by omega) (by omega)).mp h38⟩
        · rw [p4_] at h26
          have hN : isN np p := jb_ne0 h26
          obtain ⟨j, hj, rfl⟩ := isN_of hN (by omega)
          have ej : (nI j).toNatClampNeg = j := nI_clamp (by omega)
          have a2_ := (p6_ j hj).2.1
          refine jm_iload_n (pc := 29) dG_fits_29 rfl ?_
          refine jm_aload_n (pc := 30) dG_fits_30 rfl ?_
          refine jm_getq (pc := 31) lG_10 dG_fits_31 rfl rfl (k0_) ?_
          refine jm_iload_n (pc := 34) dG_fits_34 rfl ?_
          refine jm_callV (pc := 35) (c_P_argumentsOf (d := d - 1) ⟨p1_, p2_, p3_, p4_, p5_, p6_, p7_, p8_⟩ hj (by omega)) fP_argumentsOf vP_argumentsOf cG_164 dG_fits_35 rfl rfl rfl rfl (by omega) ⟨Nat.le_refl _, Nat.le_refl _⟩ rfl (Nat.le_of_ble_eq_true rfl) (fun v s2 hq => ?_)
          obtain ⟨rfl, rfl⟩ := hq
          refine jm_icmp_ne (pc := 38) (tgt := 45) dG_fits_38 (by decide) (fun h38 => ?_) (fun h38 => ?_)
          · refine jm_iconst (pc := 45) (v := 0) dG_fits_45 (by decide) ?_
            refine jm_zret (pc := 46) dG_fits_46 rfl (by first | exact Or.inl rfl | exact Or.inr rfl | assumption) ⟨Nat.le_refl _, Nat.le_refl _⟩ ?_
            refine ⟨rfl, ?_⟩
            first
              | exact jbf (fun q => jb_eq0 h26 (by rw [p4_]; exact q.1))
              | exact jbf (fun q => h38 (by have := q.2; rw [ej] at this; rw [this]))
              | exact jbt ⟨hN, by rw [ej]; exact (nI_eq (by omega) (by omega)).mp h38⟩
          · refine jm_iconst (pc := 41) (v := 1) dG_fits_41 (by decide) ?_
            refine jm_goto (pc := 42) (tgt := 46) dG_fits_42 (by decide) ?_
            refine jm_zret (pc := 46) dG_fits_46 rfl (by first | exact Or.inl rfl | exact Or.inr rfl | assumption) ⟨Nat.le_refl _, Nat.le_refl _⟩ ?_
            refine ⟨rfl, ?_⟩
            first
              | exact jbf (fun q => jb_eq0 h26 (by rw [p4_]; exact q.1))
              | exact jbf (fun q => h38 (by have := q.2; rw [ej] at this; rw [this]))
              | exact jbt ⟨hN, by rw [ej]; exact (nI_eq (by omega) (by omega)).mp h38⟩
    · exact absurd (by decide) h7
set_option maxRecDepth 100000 in
set_option maxHeartbeats 4000000 in
theorem c_G_fits_o {k : Nat} (p : Int32) (m : Nat) (hk : k < 12) : MC l D mG_fits d 0 0 [vR (some (4, 0)), vI (nI k), vI p, vI (nI m)] st (fun v s' => st = s' ∧ v = some (vI (jb (fitP k m)))) := by
  refine jm_start (ls0 := [some (vR (some (4, 0))), some (vI (nI k)), some (vI p), some (vI (nI m))]) (by decide) (Nat.le_of_ble_eq_true rfl) rfl ?_
  refine jm_iload_n (pc := 0) dG_fits_0 rfl ?_
  refine jm_if_lt (pc := 1) (tgt := 10) dG_fits_1 (by decide) (fun h1 => ?_) (fun h1 => ?_)
  · exact absurd h1 (nI_pos (by omega))
  · refine jm_iload_n (pc := 4) dG_fits_4 rfl ?_
    refine jm_bipush (pc := 5) (v := 12) dG_fits_5 (by decide) ?_
    refine jm_icmp_le (pc := 7) (tgt := 12) dG_fits_7 (by decide) (fun h7 => ?_) (fun h7 => ?_)
    · refine jm_iload_n (pc := 12) dG_fits_12 rfl ?_
      refine jm_bipush (pc := 13) (v := 12) dG_fits_13 (by decide) ?_
      refine jm_icmp_ne (pc := 15) (tgt := 47) dG_fits_15 (by decide) (fun h15 => ?_) (fun h15 => ?_)
      · refine jm_iload_n (pc := 47) dG_fits_47 rfl ?_
        refine jm_stat (pc := 48) dG_fits_48 dG_fits_51 dG_fits_52 (C := "GoalOrder") (nm := "FEWEST") (List.mem_of_getElem? (i := 0) rfl) st_FEWEST rfl ?hin ?_
        case hin =>
          exact vp_in_nI (N := 13) (by omega) (by decide)
        rw [nI_clamp (by omega)]
        refine jm_icmp_lt (pc := 53) (tgt := 69) dG_fits_53 (by decide) (fun h53 => ?_) (fun h53 => ?_)
        · refine jm_iconst (pc := 69) (v := 0) dG_fits_69 (by decide) ?_
          refine jm_zret (pc := 70) dG_fits_70 rfl (by first | exact Or.inl rfl | exact Or.inr rfl | assumption) ⟨Nat.le_refl _, Nat.le_refl _⟩ ?_
          refine ⟨rfl, ?_⟩
          first
            | exact jbf (p := fitP k m) (fun q => Int32.not_lt.mpr q.1 h53)
            | exact jbf (p := fitP k m) (fun q => q.2 h62)
            | exact jbt (p := fitP k m) ⟨Int32.not_lt.mp h53, h62⟩
        · refine jm_iload_n (pc := 56) dG_fits_56 rfl ?_
          refine jm_stat (pc := 57) dG_fits_57 dG_fits_60 dG_fits_61 (C := "GoalOrder") (nm := "MOST") (List.mem_of_getElem? (i := 1) rfl) st_MOST rfl ?hin ?_
          case hin =>
            exact vp_in_nI (N := 13) (by omega) (by decide)
          rw [nI_clamp (by omega)]
          refine jm_icmp_gt (pc := 62) (tgt := 69) dG_fits_62 (by decide) (fun h62 => ?_) (fun h62 => ?_)
          · refine jm_iconst (pc := 69) (v := 0) dG_fits_69 (by decide) ?_
            refine jm_zret (pc := 70) dG_fits_70 rfl (by first | exact Or.inl rfl | exact Or.inr rfl | assumption) ⟨Nat.le_refl _, Nat.le_refl _⟩ ?_
            refine ⟨rfl, ?_⟩
            first
              | exact jbf (p := fitP k m) (fun q => Int32.not_lt.mpr q.1 h53)
              | exact jbf (p := fitP k m) (fun q => q.2 h62)
              | exact jbt (p := fitP k m) ⟨Int32.not_lt.mp h53, h62⟩
          · refine jm_iconst (pc := 65) (v := 1) dG_fits_65 (by decide) ?_
            refine jm_goto (pc := 66) (tgt := 70) dG_fits_66 (by decide) ?_
            refine jm_zret (pc := 70) dG_fits_70 rfl (by first | exact Or.inl rfl | exact Or.inr rfl | assumption) ⟨Nat.le_refl _, Nat.le_refl _⟩ ?_
            refine ⟨rfl, ?_⟩
            first
              | exact jbf (p := fitP k m) (fun q => Int32.not_lt.mpr q.1 h53)
              | exact jbf (p := fitP k m) (fun q => q.2 h62)
              | exact jbt (p := fitP k m) ⟨Int32.not_lt.mp h53, h62⟩
      · exact absurd ((nI_eq (b := 12) (by omega) (by decide)).mp h15) (by omega)
    · exact absurd (nI_le (b := 12) (by omega) (by decide)) h7
set_option maxRecDepth 100000 in
set_option maxHeartbeats 4000000 in
theorem c_N_become {i : Nat} (s p : Int32)  : MC l D mN_become d 0 0 [vR (some (0, i)), vI s, vI p] st (fun v s' => s' = bec st i s p ∧ v = none) := by
  refine jm_start (ls0 := [some (vR (some (0, i))), some (vI s), some (vI p)]) (by decide) (Nat.le_of_ble_eq_true rfl) rfl ?_
  refine jm_aload_n (pc := 0) dN_become_0 rfl ?_
  refine jm_iload_n (pc := 1) dN_become_1 rfl ?_
  refine jm_puti (pc := 2) pN_become_19 dN_become_2 rfl rfl ?_
  refine jm_aload_n (pc := 5) dN_become_5 rfl ?_
  refine jm_iload_n (pc := 6) dN_become_6 rfl ?_
  refine jm_puti (pc := 7) pN_become_22 dN_become_7 rfl rfl ?_
  refine jm_aload_n (pc := 10) dN_become_10 rfl ?_
  refine jm_iconst (pc := 11) (v := 0) dN_become_11 (by decide) ?_
  refine jm_puti (pc := 12) pN_become_25 dN_become_12 rfl rfl ?_
  refine jm_aload_n (pc := 15) dN_become_15 rfl ?_
  refine jm_iconst (pc := 16) (v := 0) dN_become_16 (by decide) ?_
  refine jm_puti (pc := 17) pN_become_28 dN_become_17 rfl rfl ?_
  refine jm_aload_n (pc := 20) dN_become_20 rfl ?_
  refine jm_iconst (pc := 21) (v := 0) dN_become_21 (by decide) ?_
  refine jm_puti (pc := 22) pN_become_31 dN_become_22 rfl rfl ?_
  refine jm_aload_n (pc := 25) dN_become_25 rfl ?_
  refine jm_null (pc := 26) dN_become_26 ?_
  first | refine jm_putr (pc := 27) none rfl pN_become_34 dN_become_27 rfl rfl (fun w => by cases w <;> exact ⟨rfl, rfl⟩) ?_ | refine jm_putr (pc := 27) (some _) rfl pN_become_34 dN_become_27 rfl rfl (fun w => by cases w <;> exact ⟨rfl, rfl⟩) ?_ | refine jm_putr (pc := 27) _ rfl pN_become_34 dN_become_27 rfl rfl (fun w => by cases w <;> exact ⟨rfl, rfl⟩) ?_
  refine jm_aload_n (pc := 30) dN_become_30 rfl ?_
  refine jm_null (pc := 31) dN_become_31 ?_
  first | refine jm_putr (pc := 32) none rfl pN_become_38 dN_become_32 rfl rfl (fun w => by cases w <;> exact ⟨rfl, rfl⟩) ?_ | refine jm_putr (pc := 32) (some _) rfl pN_become_38 dN_become_32 rfl rfl (fun w => by cases w <;> exact ⟨rfl, rfl⟩) ?_ | refine jm_putr (pc := 32) _ rfl pN_become_38 dN_become_32 rfl rfl (fun w => by cases w <;> exact ⟨rfl, rfl⟩) ?_
  refine jm_aload_n (pc := 35) dN_become_35 rfl ?_
  refine jm_null (pc := 36) dN_become_36 ?_
  first | refine jm_putr (pc := 37) none rfl pN_become_41 dN_become_37 rfl rfl (fun w => by cases w <;> exact ⟨rfl, rfl⟩) ?_ | refine jm_putr (pc := 37) (some _) rfl pN_become_41 dN_become_37 rfl rfl (fun w => by cases w <;> exact ⟨rfl, rfl⟩) ?_ | refine jm_putr (pc := 37) _ rfl pN_become_41 dN_become_37 rfl rfl (fun w => by cases w <;> exact ⟨rfl, rfl⟩) ?_
  refine jm_aload_n (pc := 40) dN_become_40 rfl ?_
  refine jm_null (pc := 41) dN_become_41 ?_
  first | refine jm_putr (pc := 42) none rfl pN_become_44 dN_become_42 rfl rfl (fun w => by cases w <;> exact ⟨rfl, rfl⟩) ?_ | refine jm_putr (pc := 42) (some _) rfl pN_become_44 dN_become_42 rfl rfl (fun w => by cases w <;> exact ⟨rfl, rfl⟩) ?_ | refine jm_putr (pc := 42) _ rfl pN_become_44 dN_become_42 rfl rfl (fun w => by cases w <;> exact ⟨rfl, rfl⟩) ?_
  refine jm_aload_n (pc := 45) dN_become_45 rfl ?_
  refine jm_lconst (pc := 46) (v := 0) dN_become_46 (by decide) ?_
  refine jm_putl (pc := 47) pN_become_47 dN_become_47 rfl rfl ?_
  refine jm_aload_n (pc := 50) dN_become_50 rfl ?_
  refine jm_lconst (pc := 51) (v := 0) dN_become_51 (by decide) ?_
  refine jm_putl (pc := 52) pN_become_51 dN_become_52 rfl rfl ?_
  refine jm_vret (pc := 55) dN_become_55 rfl ⟨Nat.le_refl _, Nat.le_refl _⟩ ?_
  exact ⟨rfl, rfl⟩
set_option maxRecDepth 100000 in
set_option maxHeartbeats 4000000 in
theorem c_T_reset  (hr : st.2.2.1 2 0 0 = some 0) (hd : 1 ≤ d) : MC l D mT_reset d 0 0 [vR (some (2, 0))] st (fun v s' => s' = sI (bec st 0 0 (-1)) 2 0 2 1 ∧ v = none) := by
  refine jm_start (ls0 := [some (vR (some (2, 0)))]) (by decide) (Nat.le_of_ble_eq_true rfl) rfl ?_
  refine jm_aload_n (pc := 0) dT_reset_0 rfl ?_
  refine jm_getq (pc := 1) lT_14 dT_reset_1 rfl rfl (hr) ?_
  refine jm_iconst (pc := 4) (v := 0) dT_reset_4 (by decide) ?_
  refine jm_iconst (pc := 5) (v := -1) dT_reset_5 (by decide) ?_
  refine jm_callV (pc := 6) (c_N_become (d := d - 1) 0 (-1)) fN_become vN_become cT_27 dT_reset_6 rfl rfl rfl rfl (by omega) ⟨Nat.le_refl _, Nat.le_refl _⟩ rfl (Nat.le_of_ble_eq_true rfl) (fun v s2 hq => ?_)
  obtain ⟨rfl, rfl⟩ := hq
  refine jm_aload_n (pc := 9) dT_reset_9 rfl ?_
  refine jm_iconst (pc := 10) (v := 1) dT_reset_10 (by decide) ?_
  refine jm_puti (pc := 11) pT_reset_31 dT_reset_11 rfl rfl ?_
  refine jm_vret (pc := 14) dT_reset_14 rfl ⟨Nat.le_refl _, Nat.le_refl _⟩ ?_
  exact ⟨rfl, rfl⟩
set_option maxRecDepth 100000 in
set_option maxHeartbeats 4000000 in
theorem c_G_clear  (hF : CF st) (hd : 2 ≤ d) : MC l D mG_clear d 0 0 [vR (some (4, 0))] st (fun v s' => s' = fgt (sL (sL (sI (sI (bec st 0 0 (-1)) 2 0 2 1) 4 0 4 0) 4 0 5 0) 4 0 6 0) ∧ v = none) := by
  refine jm_start (ls0 := [some (vR (some (4, 0)))]) (by decide) (Nat.le_of_ble_eq_true rfl) rfl ?_
  obtain ⟨k0_, k1_, k2_, k3_, k4_, k5_, k6_⟩ := hF
  refine jm_aload_n (pc := 0) dG_clear_0 rfl ?_
  refine jm_getq (pc := 1) lG_19 dG_clear_1 rfl rfl (k1_) ?_
  refine jm_callV (pc := 4) (c_T_reset (d := d - 1) k5_ (by omega)) fT_reset vT_reset cG_65 dG_clear_4 rfl rfl rfl rfl (by omega) ⟨Nat.le_refl _, Nat.le_refl _⟩ rfl (Nat.le_of_ble_eq_true rfl) (fun v s2 hq => ?_)
  obtain ⟨rfl, rfl⟩ := hq
  refine jm_aload_n (pc := 7) dG_clear_7 rfl ?_
  refine jm_iconst (pc := 8) (v := 0) dG_clear_8 (by decide) ?_
  refine jm_puti (pc := 9) pG_clear_36 dG_clear_9 rfl rfl ?_
  refine jm_aload_n (pc := 12) dG_clear_12 rfl ?_
  refine jm_lconst (pc := 13) (v := 0) dG_clear_13 (by decide) ?_
  refine jm_putl (pc := 14) pG_clear_40 dG_clear_14 rfl rfl ?_
  refine jm_aload_n (pc := 17) dG_clear_17 rfl ?_
  refine jm_lconst (pc := 18) (v := 0) dG_clear_18 (by decide) ?_
  refine jm_putl (pc := 19) pG_clear_44 dG_clear_19 rfl rfl ?_
  refine jm_aload_n (pc := 22) dG_clear_22 rfl ?_
  refine jm_callV (pc := 23) (c_G_forgetOrdering (d := d - 1)) fG_forgetOrdering vG_forgetOrdering cG_62 dG_clear_23 rfl rfl rfl rfl (by omega) ⟨Nat.le_refl _, Nat.le_refl _⟩ rfl (Nat.le_of_ble_eq_true rfl) (fun v s2 hq => ?_)
  obtain ⟨rfl, rfl⟩ := hq
  refine jm_vret (pc := 26) dG_clear_26 rfl ⟨Nat.le_refl _, Nat.le_refl _⟩ ?_
  exact ⟨rfl, rfl⟩
set_option maxRecDepth 100000 in
set_option maxHeartbeats 4000000 in
theorem lp_N_takeVariables {i m : Nat} {rv : Nat → Nat} (hm : m ≤ 7) : ∀ (n k : Nat) (st : aS), k + n = m → st.2.2.1 0 i 1 = some i → st.1 0 i 2 = nI k → (∀ j, j < m → st.1 11 0 j = nI (rv j)) → MS l D mN_takeVariables d 0 0 (fun v s' => s' = tvF i rv n k st ∧ v = none) 0 0 2 [some (vR (some (0, i))), some (vR (some (11, 0))), some (vI (nI m)), some (vI (nI k))] [] st := by
  intro n
  induction n with
  | zero =>
    intro k st hk h1 h2 hr
    obtain rfl : k = m := by omega
    refine jm_iload_n (pc := 2) dN_takeVariables_2 rfl ?_
    refine jm_iload_n (pc := 3) dN_takeVariables_3 rfl ?_
    refine jm_icmp_ge (pc := 4) (tgt := 52) dN_takeVariables_4 (by decide) (fun h4 => ?_) (fun h4 => ?_)
    · refine jm_vret (pc := 52) dN_takeVariables_52 rfl ⟨Nat.le_refl _, Nat.le_refl _⟩ ?_
      exact ⟨rfl, rfl⟩
    · exact absurd (nI_le (Nat.le_refl k) (by omega)) h4
  | succ n ih =>
    intro k st hk h1 h2 hr
    have er := hr k (by omega)
    refine jm_iload_n (pc := 2) dN_takeVariables_2 rfl ?_
    refine jm_iload_n (pc := 3) dN_takeVariables_3 rfl ?_
    refine jm_icmp_ge (pc := 4) (tgt := 52) dN_takeVariables_4 (by decide) (fun h4 => ?_) (fun h4 => ?_)
    · exact absurd h4 (nI_ge (by omega) (by omega))
    · refine jm_iload_n (pc := 7) dN_takeVariables_7 rfl ?_
      refine jm_bipush (pc := 8) (v := 7) dN_takeVariables_8 (by decide) ?_
      refine jm_icmp_ge (pc := 10) (tgt := 52) dN_takeVariables_10 (by decide) (fun h10 => ?_) (fun h10 => ?_)
      · exact absurd h10 (nI_ge (b := 7) (by omega) (by decide))
      · refine jm_aload_n (pc := 13) dN_takeVariables_13 rfl ?_
        refine jm_getq (pc := 14) lN_15 dN_takeVariables_14 rfl rfl (h1) ?_
        refine jm_iload_n (pc := 17) dN_takeVariables_17 rfl ?_
        refine jm_aload_n (pc := 18) dN_takeVariables_18 rfl ?_
        refine jm_iload_n (pc := 19) dN_takeVariables_19 rfl ?_
        refine jm_iald (pc := 20) dN_takeVariables_20 rfl (by decide) rfl (fun _ => rfl) ?hin ?_
        case hin =>
          exact vp_in_nI (N := 7) (by omega) (by decide)
        rw [nI_clamp (by omega), er]
        refine jm_iast (pc := 21) dN_takeVariables_21 rfl (by decide) rfl (fun _ => rfl) ?hin ?_
        case hin =>
          exact vp_in_nI (N := 7) (by omega) (by decide)
        rw [nI_clamp (by omega)]
        refine jm_aload_n (pc := 22) dN_takeVariables_22 rfl ?_
        refine jm_dup (pc := 23) dN_takeVariables_23 rfl ?_
        refine jm_getl (pc := 24) lN_47 dN_takeVariables_24 rfl (fun _ => rfl) ?_
        rw [show (sI st 6 i k (nI (rv k))).2.1 0 i 11 = st.2.1 0 i 11 from rfl]
        refine jm_lconst (pc := 27) (v := 1) dN_takeVariables_27 (by decide) ?_
        refine jm_aload_n (pc := 28) dN_takeVariables_28 rfl ?_
        refine jm_iload_n (pc := 29) dN_takeVariables_29 rfl ?_
        refine jm_iald (pc := 30) dN_takeVariables_30 rfl (by decide) rfl (fun _ => rfl) ?hin ?_
        case hin =>
          exact vp_in_nI (N := 7) (by omega) (by decide)
        rw [nI_clamp (by omega), show (sI st 6 i k (nI (rv k))).1 11 0 k = nI (rv k) from (sI_ne (by omega)).trans er]
        refine jm_lshl (pc := 31) dN_takeVariables_31 ?_
        rw [show (1 : Int64) <<< ((nI (rv k)).toInt64 &&& 63) = b1 (rv k) from rfl]
        refine jm_lor (pc := 32) dN_takeVariables_32 ?_
        refine jm_putl (pc := 33) pN_takeVariables_47 dN_takeVariables_33 rfl rfl ?_
        refine jm_aload_n (pc := 36) dN_takeVariables_36 rfl ?_
        refine jm_dup (pc := 37) dN_takeVariables_37 rfl ?_
        refine jm_geti (pc := 38) lN_25 dN_takeVariables_38 rfl (fun _ => rfl) ?_
        rw [show (sL (sI st 6 i k (nI (rv k))) 0 i 11 (st.2.1 0 i 11 ||| b1 (rv k))).1 0 i 2 = nI k from (show (sI st 6 i k (nI (rv k))).1 0 i 2 = nI k from (sI_ne (by omega)).trans h2)]
        refine jm_iconst (pc := 41) (v := 1) dN_takeVariables_41 (by decide) ?_
        refine jm_iadd (pc := 42) dN_takeVariables_42 ?_
        rw [show nI k + 1 = nI (k + 1) from nI_1 k]
        refine jm_puti (pc := 43) pN_takeVariables_25 dN_takeVariables_43 rfl rfl ?_
        refine jm_iinc (pc := 46) dN_takeVariables_46 rfl (by decide) ?_
        refine jm_goto (pc := 49) (tgt := 2) dN_takeVariables_49 (by decide) ?_
        rw [show nI k + Int32.ofInt 1 = nI (k + 1) from ni1 k]
        refine ih (k + 1) _ (by omega) h1 sI_eq (fun j hj => ?_)
        rw [sI_ne (by omega)]
        exact (show (sI st 6 i k (nI (rv k))).1 11 0 j = _ from (sI_ne (by omega)).trans (hr j hj))
set_option maxRecDepth 100000 in
set_option maxHeartbeats 4000000 in
theorem c_N_takeVariables {i m : Nat} {rv : Nat → Nat} (hm : m ≤ 7) (h1 : st.2.2.1 0 i 1 = some i) (h2 : st.1 0 i 2 = 0) (hr : ∀ j, j < m → st.1 11 0 j = nI (rv j)) : MC l D mN_takeVariables d 0 0 [vR (some (0, i)), vR (some (11, 0)), vI (nI m)] st (fun v s' => s' = tvF i rv m 0 st ∧ v = none) := by
  refine jm_start (ls0 := [some (vR (some (0, i))), some (vR (some (11, 0))), some (vI (nI m)), none]) (by decide) (Nat.le_of_ble_eq_true rfl) rfl ?_
  refine jm_iconst (pc := 0) (v := 0) dN_takeVariables_0 (by decide) ?_
  refine jm_istore_n (pc := 1) dN_takeVariables_1 (by decide) ?_
  exact lp_N_takeVariables hm m 0 st (by omega) h1 h2 hr
set_option maxRecDepth 100000 in
set_option maxHeartbeats 4000000 in
theorem c_N_append_0 {u c dp len : Nat} (hne : u ≠ c) (hD : st.1 0 u 5 = nI dp) (hL : st.1 0 u 6 = nI len) (hla : st.2.2.1 0 u 9 = none) : MC l D mN_append d 0 0 [vR (some (0, u)), vR (some (0, c))] st (fun v s' => s' = apd st u c dp len none ∧ v = none) := by
  refine jm_start (ls0 := [some (vR (some (0, u))), some (vR (some (0, c)))]) (by decide) (Nat.le_of_ble_eq_true rfl) rfl ?_
  refine jm_aload_n (pc := 0) dN_append_0 rfl ?_
  refine jm_aload_n (pc := 1) dN_append_1 rfl ?_
  first | refine jm_putr (pc := 2) none rfl pN_append_34 dN_append_2 rfl rfl (fun w => by cases w <;> exact ⟨rfl, rfl⟩) ?_ | refine jm_putr (pc := 2) (some _) rfl pN_append_34 dN_append_2 rfl rfl (fun w => by cases w <;> exact ⟨rfl, rfl⟩) ?_ | refine jm_putr (pc := 2) _ rfl pN_append_34 dN_append_2 rfl rfl (fun w => by cases w <;> exact ⟨rfl, rfl⟩) ?_
  refine jm_aload_n (pc := 5) dN_append_5 rfl ?_
  refine jm_aload_n (pc := 6) dN_append_6 rfl ?_
  refine jm_geti (pc := 7) lN_28 dN_append_7 rfl (fun _ => rfl) ?_
  rw [show (sR st 0 c 7 (some u)).1 0 u 5 = nI dp from hD]
  refine jm_iconst (pc := 10) (v := 1) dN_append_10 (by decide) ?_
  refine jm_iadd (pc := 11) dN_append_11 ?_
  rw [show nI dp + 1 = nI (dp + 1) from nI_1 dp]
  refine jm_puti (pc := 12) pN_append_28 dN_append_12 rfl rfl ?_
  refine jm_aload_n (pc := 15) dN_append_15 rfl ?_
  refine jm_getr (pc := 16) lN_41 dN_append_16 rfl rfl ?_
  rw [show (sI (sR st 0 c 7 (some u)) 0 c 5 (nI (dp + 1))).2.2.1 0 u 9 = none from (sR_ne (by omega)).trans hla]
  refine jm_ifnonnull (pc := 19) (tgt := 30) dN_append_19 (by decide) (fun q19 h19 => ?_) (fun h19 => ?_)
  · cases h19
  · refine jm_aload_n (pc := 22) dN_append_22 rfl ?_
    refine jm_aload_n (pc := 23) dN_append_23 rfl ?_
    first | refine jm_putr (pc := 24) none rfl pN_append_38 dN_append_24 rfl rfl (fun w => by cases w <;> exact ⟨rfl, rfl⟩) ?_ | refine jm_putr (pc := 24) (some _) rfl pN_append_38 dN_append_24 rfl rfl (fun w => by cases w <;> exact ⟨rfl, rfl⟩) ?_ | refine jm_putr (pc := 24) _ rfl pN_append_38 dN_append_24 rfl rfl (fun w => by cases w <;> exact ⟨rfl, rfl⟩) ?_
    refine jm_goto (pc := 27) (tgt := 38) dN_append_27 (by decide) ?_
    refine jm_aload_n (pc := 38) dN_append_38 rfl ?_
    refine jm_aload_n (pc := 39) dN_append_39 rfl ?_
    first | refine jm_putr (pc := 40) none rfl pN_append_41 dN_append_40 rfl rfl (fun w => by cases w <;> exact ⟨rfl, rfl⟩) ?_ | refine jm_putr (pc := 40) (some _) rfl pN_append_41 dN_append_40 rfl rfl (fun w => by cases w <;> exact ⟨rfl, rfl⟩) ?_ | refine jm_putr (pc := 40) _ rfl pN_append_41 dN_append_40 rfl rfl (fun w => by cases w <;> exact ⟨rfl, rfl⟩) ?_
    refine jm_aload_n (pc := 43) dN_append_43 rfl ?_
    refine jm_dup (pc := 44) dN_append_44 rfl ?_
    refine jm_geti (pc := 45) lN_31 dN_append_45 rfl (fun _ => rfl) ?_
    rw [show (sR (sR (sI (sR st 0 c 7 (some u)) 0 c 5 (nI (dp + 1))) 0 u 8 (some c)) 0 u 9 (some c)).1 0 u 6 = nI len from (show (sI (sR st 0 c 7 (some u)) 0 c 5 (nI (dp + 1))).1 0 u 6 = nI len from (sI_ne (by omega)).trans hL)]
    refine jm_iconst (pc := 48) (v := 1) dN_append_48 (by decide) ?_
    refine jm_iadd (pc := 49) dN_append_49 ?_
    rw [show nI len + 1 = nI (len + 1) from nI_1 len]
    refine jm_puti (pc := 50) pN_append_31 dN_append_50 rfl rfl ?_
    refine jm_vret (pc := 53) dN_append_53 rfl ⟨Nat.le_refl _, Nat.le_refl _⟩ ?_
    exact ⟨rfl, rfl⟩
set_option maxRecDepth 100000 in
set_option maxHeartbeats 4000000 in
theorem c_N_append_1 {u c dp len : Nat} {z : Nat} (hne : u ≠ c) (hD : st.1 0 u 5 = nI dp) (hL : st.1 0 u 6 = nI len) (hla : st.2.2.1 0 u 9 = (some z)) : MC l D mN_append d 0 0 [vR (some (0, u)), vR (some (0, c))] st (fun v s' => s' = apd st u c dp len (some z) ∧ v = none) := by
  refine jm_start (ls0 := [some (vR (some (0, u))), some (vR (some (0, c)))]) (by decide) (Nat.le_of_ble_eq_true rfl) rfl ?_
  refine jm_aload_n (pc := 0) dN_append_0 rfl ?_
  refine jm_aload_n (pc := 1) dN_append_1 rfl ?_
  first | refine jm_putr (pc := 2) none rfl pN_append_34 dN_append_2 rfl rfl (fun w => by cases w <;> exact ⟨rfl, rfl⟩) ?_ | refine jm_putr (pc := 2) (some _) rfl pN_append_34 dN_append_2 rfl rfl (fun w => by cases w <;> exact ⟨rfl, rfl⟩) ?_ | refine jm_putr (pc := 2) _ rfl pN_append_34 dN_append_2 rfl rfl (fun w => by cases w <;> exact ⟨rfl, rfl⟩) ?_
  refine jm_aload_n (pc := 5) dN_append_5 rfl ?_
  refine jm_aload_n (pc := 6) dN_append_6 rfl ?_
  refine jm_geti (pc := 7) lN_28 dN_append_7 rfl (fun _ => rfl) ?_
  rw [show (sR st 0 c 7 (some u)).1 0 u 5 = nI dp from hD]
  refine jm_iconst (pc := 10) (v := 1) dN_append_10 (by decide) ?_
  refine jm_iadd (pc := 11) dN_append_11 ?_
  rw [show nI dp + 1 = nI (dp + 1) from nI_1 dp]
  refine jm_puti (pc := 12) pN_append_28 dN_append_12 rfl rfl ?_
  refine jm_aload_n (pc := 15) dN_append_15 rfl ?_
  refine jm_getr (pc := 16) lN_41 dN_append_16 rfl rfl ?_
  rw [show (sI (sR st 0 c 7 (some u)) 0 c 5 (nI (dp + 1))).2.2.1 0 u 9 = (some z) from (sR_ne (by omega)).trans hla]
  refine jm_ifnonnull (pc := 19) (tgt := 30) dN_append_19 (by decide) (fun q19 h19 => ?_) (fun h19 => ?_)
  · refine jm_aload_n (pc := 30) dN_append_30 rfl ?_
    refine jm_getr (pc := 31) lN_41 dN_append_31 rfl rfl ?_
    rw [show (sI (sR st 0 c 7 (some u)) 0 c 5 (nI (dp + 1))).2.2.1 0 u 9 = some z from (sR_ne (by omega)).trans hla]
    refine jm_aload_n (pc := 34) dN_append_34 rfl ?_
    first | refine jm_putr (pc := 35) none rfl pN_append_44 dN_append_35 rfl rfl (fun w => by cases w <;> exact ⟨rfl, rfl⟩) ?_ | refine jm_putr (pc := 35) (some _) rfl pN_append_44 dN_append_35 rfl rfl (fun w => by cases w <;> exact ⟨rfl, rfl⟩) ?_ | refine jm_putr (pc := 35) _ rfl pN_append_44 dN_append_35 rfl rfl (fun w => by cases w <;> exact ⟨rfl, rfl⟩) ?_
    refine jm_aload_n (pc := 38) dN_append_38 rfl ?_
    refine jm_aload_n (pc := 39) dN_append_39 rfl ?_
    first | refine jm_putr (pc := 40) none rfl pN_append_41 dN_append_40 rfl rfl (fun w => by cases w <;> exact ⟨rfl, rfl⟩) ?_ | refine jm_putr (pc := 40) (some _) rfl pN_append_41 dN_append_40 rfl rfl (fun w => by cases w <;> exact ⟨rfl, rfl⟩) ?_ | refine jm_putr (pc := 40) _ rfl pN_append_41 dN_append_40 rfl rfl (fun w => by cases w <;> exact ⟨rfl, rfl⟩) ?_
    refine jm_aload_n (pc := 43) dN_append_43 rfl ?_
    refine jm_dup (pc := 44) dN_append_44 rfl ?_
    refine jm_geti (pc := 45) lN_31 dN_append_45 rfl (fun _ => rfl) ?_
    rw [show (sR (sR (sI (sR st 0 c 7 (some u)) 0 c 5 (nI (dp + 1))) 0 z 10 (some c)) 0 u 9 (some c)).1 0 u 6 = nI len from (show (sI (sR st 0 c 7 (some u)) 0 c 5 (nI (dp + 1))).1 0 u 6 = nI len from (sI_ne (by omega)).trans hL)]
    refine jm_iconst (pc := 48) (v := 1) dN_append_48 (by decide) ?_
    refine jm_iadd (pc := 49) dN_append_49 ?_
    rw [show nI len + 1 = nI (len + 1) from nI_1 len]
    refine jm_puti (pc := 50) pN_append_31 dN_append_50 rfl rfl ?_
    refine jm_vret (pc := 53) dN_append_53 rfl ⟨Nat.le_refl _, Nat.le_refl _⟩ ?_
    exact ⟨rfl, rfl⟩
  · cases h19
set_option maxRecDepth 100000 in
set_option maxHeartbeats 4000000 in
theorem c_N_init {i : Nat} (hal : st.2.2.2 6 = i) (hd : 1 ≤ d) : MC l D mN_init d 1 7 [vR (some (0, i)), vI (nI i)] st (fun v s' => s' = sR (sNew (sI st 0 i 0 (nI i)) 6) 0 i 1 (some i) ∧ v = none) := by
  refine jm_start (ls0 := [some (vR (some (0, i))), some (vI (nI i))]) (by decide) (Nat.le_of_ble_eq_true rfl) rfl ?_
  refine jm_aload_n (pc := 0) dN_init_0 rfl ?_
  refine jm_objInit (pc := 1) dN_init_1 oiN_3 oi_inst oi_code (by omega) (Nat.le_of_ble_eq_true rfl) ?_
  refine jm_aload_n (pc := 4) dN_init_4 rfl ?_
  refine jm_iload_n (pc := 5) dN_init_5 rfl ?_
  refine jm_puti (pc := 6) pN_init_9 dN_init_6 rfl rfl ?_
  refine jm_aload_n (pc := 9) dN_init_9 rfl ?_
  refine jm_bipush (pc := 10) (v := 7) dN_init_10 (by decide) ?_
  refine jm_newa (pc := 12) (k := 6) dN_init_12 rfl (by decide) rfl ac_int (by decide) (by decide) (by decide) (fun _ => rfl) (by decide) ?_
  rw [show (sI st 0 i 0 (nI i)).2.2.2 6 = i from hal]
  first | refine jm_putr (pc := 14) none rfl pN_init_15 dN_init_14 rfl rfl (fun w => by cases w <;> exact ⟨rfl, rfl⟩) ?_ | refine jm_putr (pc := 14) (some _) rfl pN_init_15 dN_init_14 rfl rfl (fun w => by cases w <;> exact ⟨rfl, rfl⟩) ?_ | refine jm_putr (pc := 14) _ rfl pN_init_15 dN_init_14 rfl rfl (fun w => by cases w <;> exact ⟨rfl, rfl⟩) ?_
  refine jm_vret (pc := 17) dN_init_17 rfl ⟨Nat.le_refl _, Nat.le_refl _⟩ ?_
  exact ⟨rfl, rfl⟩
theorem nsub1 (k : Nat) : nI k + Int32.ofInt (-1) = nI k - 1 := by
  rw [Int32.sub_eq_add_neg]
  rfl
set_option maxRecDepth 100000 in
set_option maxHeartbeats 4000000 in
theorem lp_T_spread {P : Nat → Nat} {n : Nat} {V : Int64} (hn : n < 250) (hP : ∀ j, P j ≤ j) : ∀ (k : Nat) (a : Option Nat) (x4 : Option aV) (st : aS), k ≤ n → SPI P n k a → st.2.2.1 2 0 1 = some 0 → (∀ i, i < n → st.2.2.1 10 0 i = some i) → (∀ i, i < n → st.2.2.1 0 i 7 = if i = 0 then none else some (P i)) → (∀ i, 0 < i → i < n → P i < i) → st.2.1 0 n 11 = V → MS l D mT_spreadVariables d 0 0 (fun v s' => SPQ P n k V st s' ∧ v = none) 0 0 12 [some (vR (some (2, 0))), some (vR (some (0, n))), some (vR (a.map (Prod.mk 0))), some (vI (nI k - 1)), x4] [] st := by
  intro k
  induction k with
  | zero =>
    intro a x4 st hk hI hr hA hp hlt hV
    refine jm_iload_n (pc := 12) dT_spreadVariables_12 rfl ?_
    refine jm_if_lt (pc := 13) (tgt := 81) dT_spreadVariables_13 (by decide) (fun h13 => ?_) (fun h13 => ?_)
    · refine jm_vret (pc := 81) dT_spreadVariables_81 rfl ⟨Nat.le_refl _, Nat.le_refl _⟩ ?_
      exact ⟨⟨rfl, rfl, fun _ _ _ _ => rfl, fun i hi => absurd hi (by omega)⟩, rfl⟩
    · exact absurd (by decide) h13
  | succ k ih =>
    intro a x4 st hk hI hr hA hp hlt hV
    have eA := hA k (by omega)
    have ep := hp k (by omega)
    rw [show nI (k + 1) - 1 = nI k from nI_pred k]
    refine jm_iload_n (pc := 12) dT_spreadVariables_12 rfl ?_
    refine jm_if_lt (pc := 13) (tgt := 81) dT_spreadVariables_13 (by decide) (fun h13 => ?_) (fun h13 => ?_)
    · exact absurd h13 (nI_pos (by omega))
    · refine jm_aload_n (pc := 16) dT_spreadVariables_16 rfl ?_
      refine jm_getq (pc := 17) lT_20 dT_spreadVariables_17 rfl rfl (hr) ?_
      refine jm_iload_n (pc := 20) dT_spreadVariables_20 rfl ?_
      refine jm_aald (pc := 21) dT_spreadVariables_21 rfl (by decide) rfl (fun _ => rfl) ?hin ?_
      case hin =>
        exact vp_in_nI (N := 250) (by omega) (by decide)
      rw [nI_clamp (by omega), eA]
      refine jm_astore (pc := 22) dT_spreadVariables_22 (by decide) ?_
      refine jm_aload (pc := 24) dT_spreadVariables_24 rfl ?_
      refine jm_ifnonnull (pc := 26) (tgt := 32) dT_spreadVariables_26 (by decide) (fun q26 h26 => ?_) (fun h26 => ?_)
      · refine jm_aload (pc := 32) dT_spreadVariables_32 rfl ?_
        refine jm_aload_n (pc := 34) dT_spreadVariables_34 rfl ?_
        refine jm_acmp_ne (pc := 35) (tgt := 61) dT_spreadVariables_35 (by decide) (fun h35 => ?_) (fun h35 => ?_)
        · have hna : a ≠ some k := fun q => h35 (by rw [q])
          refine jm_aload (pc := 61) dT_spreadVariables_61 rfl ?_
          refine jm_dup (pc := 63) dT_spreadVariables_63 rfl ?_
          refine jm_getl (pc := 64) lT_43 dT_spreadVariables_64 rfl (fun _ => rfl) ?_
          refine jm_aload_n (pc := 67) dT_spreadVariables_67 rfl ?_
          refine jm_getl (pc := 68) lT_39 dT_spreadVariables_68 rfl (fun _ => rfl) ?_
          rw [hV]
          refine jm_lor (pc := 71) dT_spreadVariables_71 ?_
          refine jm_putl (pc := 72) pT_spreadVariables_43 dT_spreadVariables_72 rfl rfl ?_
          refine jm_iinc (pc := 75) dT_spreadVariables_75 rfl (by decide) ?_
          refine jm_goto (pc := 78) (tgt := 12) dT_spreadVariables_78 (by decide) ?_
          rw [show nI k + Int32.ofInt (-1) = nI k - 1 from nsub1 k]
          first
            | (refine MS.mono (ih _ _ _ (by omega) ?_ hr hA hp hlt (by rw [sL_ne (by omega)]; exact hV)) (fun v s9 h => ⟨SPQ_step (by omega) (Or.inl rfl) ⟨fun _ => rfl, fun _ => (hI.2 k (by omega)).mpr subP_self⟩ h.1, h.2⟩)
               by_cases e0 : k = 0
               · rw [if_pos e0]
                 exact fun j hj => absurd hj (by omega)
               · rw [if_neg e0]
                 have := hlt k (by omega) (by omega)
                 exact ⟨this, fun j hj => ((hI.2 j (by omega)).trans (subP_par (by omega)))⟩)
            | (have hnk : ¬ subP P k n := by
                 cases a with
                 | none => exact hI k (by omega)
                 | some a' =>
                   intro q
                   have h1 := subP_gt hP ((hI.2 k (by omega)).mp q)
                   have h2 := hI.1
                   exact hna (congrArg some (by omega))
               refine MS.mono (ih _ _ _ (by omega) ?_ hr hA hp hlt (by rw [sL_ne (by omega)]; exact hV)) (fun v s9 h => ⟨SPQ_step (by omega) (Or.inr rfl) ⟨fun w => absurd w hnk, fun w => absurd w (by omega)⟩ h.1, h.2⟩)
               cases a with
               | none => exact fun j hj => hI j (by omega)
               | some a' =>
                 have h2 := hI.1
                 exact ⟨by have : a' ≠ k := fun q => hna (by rw [q])
                           omega, fun j hj => hI.2 j (by omega)⟩)
        · have ea : a = some k := by
            cases a with
            | none => cases h35
            | some a' => exact congrArg some (by simpa using h35.symm)
          subst ea
          refine jm_aload (pc := 38) dT_spreadVariables_38 rfl ?_
          refine jm_dup (pc := 40) dT_spreadVariables_40 rfl ?_
          refine jm_getl (pc := 41) lT_39 dT_spreadVariables_41 rfl (fun _ => rfl) ?_
          rw [show st.2.1 0 k 11 = st.2.1 0 k 11 from rfl]
          refine jm_aload_n (pc := 44) dT_spreadVariables_44 rfl ?_
          refine jm_getl (pc := 45) lT_39 dT_spreadVariables_45 rfl (fun _ => rfl) ?_
          rw [hV]
          refine jm_lor (pc := 48) dT_spreadVariables_48 ?_
          refine jm_putl (pc := 49) pT_spreadVariables_39 dT_spreadVariables_49 rfl rfl ?_
          refine jm_aload (pc := 52) dT_spreadVariables_52 rfl ?_
          refine jm_getr (pc := 54) lT_60 dT_spreadVariables_54 rfl rfl ?_
          rw [show (sL st 0 k 11 (st.2.1 0 k 11 ||| V)).2.2.1 0 k 7 = (if k = 0 then none else some (P k)) from ep]
          refine jm_astore_n (pc := 57) dT_spreadVariables_57 (by decide) ?_
          refine jm_goto (pc := 58) (tgt := 75) dT_spreadVariables_58 (by decide) ?_
          refine jm_iinc (pc := 75) dT_spreadVariables_75 rfl (by decide) ?_
          refine jm_goto (pc := 78) (tgt := 12) dT_spreadVariables_78 (by decide) ?_
          rw [show nI k + Int32.ofInt (-1) = nI k - 1 from nsub1 k]
          first
            | (refine MS.mono (ih _ _ _ (by omega) ?_ hr hA hp hlt (by rw [sL_ne (by omega)]; exact hV)) (fun v s9 h => ⟨SPQ_step (by omega) (Or.inl rfl) ⟨fun _ => rfl, fun _ => (hI.2 k (by omega)).mpr subP_self⟩ h.1, h.2⟩)
               by_cases e0 : k = 0
               · rw [if_pos e0]
                 exact fun j hj => absurd hj (by omega)
               · rw [if_neg e0]
                 have := hlt k (by omega) (by omega)
                 exact ⟨this, fun j hj => ((hI.2 j (by omega)).trans (subP_par (by omega)))⟩)
            | (have hnk : ¬ subP P k n := by
                 cases a with
                 | none => exact hI k (by omega)
                 | some a' =>
                   intro q
                   have h1 := subP_gt hP ((hI.2 k (by omega)).mp q)
                   have h2 := hI.1
                   exact hna (congrArg some (by omega))
               refine MS.mono (ih _ _ _ (by omega) ?_ hr hA hp hlt (by rw [sL_ne (by omega)]; exact hV)) (fun v s9 h => ⟨SPQ_step (by omega) (Or.inr rfl) ⟨fun w => absurd w hnk, fun w => absurd w (by omega)⟩ h.1, h.2⟩)
               cases a with
               | none => exact fun j hj => hI j (by omega)
               | some a' =>
                 have h2 := hI.1
                 exact ⟨by have : a' ≠ k := fun q => hna (by rw [q])
                           omega, fun j hj => hI.2 j (by omega)⟩)
      · cases h26
end CG2
