section CI1
variable {l : Launch} {D : mD} {d : Nat} {st : aS}
set_option maxRecDepth 100000 in
set_option maxHeartbeats 1000000 in
theorem c_P_init  (h7 : st.2.2.2 7 = 0) (h8 : st.2.2.2 8 = 0) (h9 : st.2.2.2 9 = 0) (hd : 1 ≤ d) : MC l D mP_init d 3 360 [vR (some (1, 0))] st (fun v s' => s' = pIn st ∧ v = none) := by
  refine jm_start (ls0 := [some (vR (some (1, 0)))]) (by decide) (Nat.le_of_ble_eq_true rfl) rfl ?_
  refine jm_aload_n (pc := 0) dP_init_0 rfl ?_
  refine jm_objInit (pc := 1) dP_init_1 oiP_3 oi_inst oi_code (by omega) (Nat.le_of_ble_eq_true rfl) ?_
  refine jm_aload_n (pc := 4) dP_init_4 rfl ?_
  refine jm_bipush (pc := 5) (v := 60) dP_init_5 (by decide) ?_
  refine jm_newa (pc := 7) (k := 7) dP_init_7 rfl (by decide) rfl ac_int (by decide) (by decide) (by decide) (fun _ => rfl) (by decide) ?_
  rw [h7]
  first | refine jm_putr (pc := 9) none rfl pP_init_9 dP_init_9 rfl rfl (fun w => by cases w <;> exact ⟨rfl, rfl⟩) ?_ | refine jm_putr (pc := 9) (some _) rfl pP_init_9 dP_init_9 rfl rfl (fun w => by cases w <;> exact ⟨rfl, rfl⟩) ?_ | refine jm_putr (pc := 9) _ rfl pP_init_9 dP_init_9 rfl rfl (fun w => by cases w <;> exact ⟨rfl, rfl⟩) ?_
  refine jm_aload_n (pc := 12) dP_init_12 rfl ?_
  refine jm_bipush (pc := 13) (v := 60) dP_init_13 (by decide) ?_
  refine jm_newa (pc := 15) (k := 8) dP_init_15 rfl (by decide) rfl ac_int (by decide) (by decide) (by decide) (fun _ => rfl) (by decide) ?_
  rw [alR, sNew_an (k := 7) (a := 8) (by decide), h8]
  first | refine jm_putr (pc := 17) none rfl pP_init_15 dP_init_17 rfl rfl (fun w => by cases w <;> exact ⟨rfl, rfl⟩) ?_ | refine jm_putr (pc := 17) (some _) rfl pP_init_15 dP_init_17 rfl rfl (fun w => by cases w <;> exact ⟨rfl, rfl⟩) ?_ | refine jm_putr (pc := 17) _ rfl pP_init_15 dP_init_17 rfl rfl (fun w => by cases w <;> exact ⟨rfl, rfl⟩) ?_
  refine jm_aload_n (pc := 20) dP_init_20 rfl ?_
  refine jm_sipush (pc := 21) (v := 240) dP_init_21 (by decide) ?_
  refine jm_newa (pc := 24) (k := 9) dP_init_24 rfl (by decide) rfl ac_int (by decide) (by decide) (by decide) (fun _ => rfl) (by decide) ?_
  rw [alR, sNew_an (k := 8) (a := 9) (by decide), alR, sNew_an (k := 7) (a := 9) (by decide), h9]
  first | refine jm_putr (pc := 26) none rfl pP_init_18 dP_init_26 rfl rfl (fun w => by cases w <;> exact ⟨rfl, rfl⟩) ?_ | refine jm_putr (pc := 26) (some _) rfl pP_init_18 dP_init_26 rfl rfl (fun w => by cases w <;> exact ⟨rfl, rfl⟩) ?_ | refine jm_putr (pc := 26) _ rfl pP_init_18 dP_init_26 rfl rfl (fun w => by cases w <;> exact ⟨rfl, rfl⟩) ?_
  refine jm_aload_n (pc := 29) dP_init_29 rfl ?_
  refine jm_iconst (pc := 30) (v := 0) dP_init_30 (by decide) ?_
  refine jm_puti (pc := 31) pP_init_21 dP_init_31 rfl rfl ?_
  refine jm_vret (pc := 34) dP_init_34 rfl ⟨Nat.le_refl _, Nat.le_refl _⟩ ?_
  exact ⟨rfl, rfl⟩
set_option maxRecDepth 100000 in
set_option maxHeartbeats 1000000 in
theorem c_R_init  (hd : 1 ≤ d) : MC l D mR_init d 0 0 [vR (some (3, 0)), vR (some (1, 0))] st (fun v s' => s' = sR st 3 0 0 (some 0) ∧ v = none) := by
  refine jm_start (ls0 := [some (vR (some (3, 0))), some (vR (some (1, 0)))]) (by decide) (Nat.le_of_ble_eq_true rfl) rfl ?_
  refine jm_aload_n (pc := 0) dR_init_0 rfl ?_
  refine jm_objInit (pc := 1) dR_init_1 oiR_3 oi_inst oi_code (by omega) (Nat.le_of_ble_eq_true rfl) ?_
  refine jm_aload_n (pc := 4) dR_init_4 rfl ?_
  refine jm_aload_n (pc := 5) dR_init_5 rfl ?_
  first | refine jm_putr (pc := 6) none rfl pR_init_9 dR_init_6 rfl rfl (fun w => by cases w <;> exact ⟨rfl, rfl⟩) ?_ | refine jm_putr (pc := 6) (some _) rfl pR_init_9 dR_init_6 rfl rfl (fun w => by cases w <;> exact ⟨rfl, rfl⟩) ?_ | refine jm_putr (pc := 6) _ rfl pR_init_9 dR_init_6 rfl rfl (fun w => by cases w <;> exact ⟨rfl, rfl⟩) ?_
  refine jm_vret (pc := 9) dR_init_9 rfl ⟨Nat.le_refl _, Nat.le_refl _⟩ ?_
  exact ⟨rfl, rfl⟩
set_option maxRecDepth 100000 in
set_option maxHeartbeats 1000000 in
theorem c_T_init  (h0 : st.2.2.2 0 = 0) (h6 : st.2.2.2 6 = 0) (h10 : st.2.2.2 10 = 0) (hd : 3 ≤ d) : MC l D mT_init d 3 277 [vR (some (2, 0))] st (fun v s' => s' = tIn st ∧ v = none) := by
  refine jm_start (ls0 := [some (vR (some (2, 0)))]) (by decide) (Nat.le_of_ble_eq_true rfl) rfl ?_
  refine jm_aload_n (pc := 0) dT_init_0 rfl ?_
  refine jm_objInit (pc := 1) dT_init_1 oiT_3 oi_inst oi_code (by omega) (Nat.le_of_ble_eq_true rfl) ?_
  refine jm_aload_n (pc := 4) dT_init_4 rfl ?_
  refine jm_new (pc := 5) (k := 0) dT_init_5 rfl rfl nkT_9 niN nzN (by decide) ?_
  rw [h0]
  refine jm_dup (pc := 8) dT_init_8 rfl ?_
  refine jm_iconst (pc := 9) (v := 0) dT_init_9 (by decide) ?_
  refine jm_callI (pc := 10) (c_N_init (d := d - 1) (i := 0) (st := sNew st 0) ((sNew_an (by decide)).trans h6) (by omega)) fN_init rfl vN_init cT_11 dT_init_10 rfl (by omega) (by decide) rfl (Nat.le_of_ble_eq_true rfl) (fun v s2 hq => ?_)
  obtain ⟨rfl, rfl⟩ := hq
  first | refine jm_putr (pc := 13) none rfl pT_init_14 dT_init_13 rfl rfl (fun w => by cases w <;> exact ⟨rfl, rfl⟩) ?_ | refine jm_putr (pc := 13) (some _) rfl pT_init_14 dT_init_13 rfl rfl (fun w => by cases w <;> exact ⟨rfl, rfl⟩) ?_ | refine jm_putr (pc := 13) _ rfl pT_init_14 dT_init_13 rfl rfl (fun w => by cases w <;> exact ⟨rfl, rfl⟩) ?_
  refine jm_aload_n (pc := 16) dT_init_16 rfl ?_
  refine jm_sipush (pc := 17) (v := 250) dT_init_17 (by decide) ?_
  refine jm_anew (pc := 20) (k := 10) dT_init_20 rfl (by decide) rfl (by decide) nkT_9 (by decide) (by decide) (by decide) (fun _ => rfl) (by decide) ?_
  rw [alR, alR, sNew_an (k := 6) (a := 10) (by decide), alI, sNew_an (k := 0) (a := 10) (by decide), h10]
  first | refine jm_putr (pc := 23) none rfl pT_init_20 dT_init_23 rfl rfl (fun w => by cases w <;> exact ⟨rfl, rfl⟩) ?_ | refine jm_putr (pc := 23) (some _) rfl pT_init_20 dT_init_23 rfl rfl (fun w => by cases w <;> exact ⟨rfl, rfl⟩) ?_ | refine jm_putr (pc := 23) _ rfl pT_init_20 dT_init_23 rfl rfl (fun w => by cases w <;> exact ⟨rfl, rfl⟩) ?_
  refine jm_aload_n (pc := 26) dT_init_26 rfl ?_
  refine jm_getq (pc := 27) lT_20 dT_init_27 rfl rfl (sR_eq) ?_
  refine jm_iconst (pc := 30) (v := 0) dT_init_30 (by decide) ?_
  refine jm_aload_n (pc := 31) dT_init_31 rfl ?_
  refine jm_getq (pc := 32) lT_14 dT_init_32 rfl rfl ((sR_ne (by omega)).trans ((sNew_3 (by omega)).trans sR_eq)) ?_
  refine jm_aast (pc := 35) dT_init_35 rfl (by decide) rfl (fun _ => rfl) rfl rfl ?hin ?_
  case hin =>
    exact vp_in_nI (n := 0) (N := 250) (by decide) (by decide)
  rw [show (0 : Int32).toNatClampNeg = 0 from rfl]
  refine jm_aload_n (pc := 36) dT_init_36 rfl ?_
  refine jm_callV (pc := 37) (c_T_reset (d := d - 1) ((sR_ne (by omega)).trans ((sR_ne (by omega)).trans ((sNew_3 (by omega)).trans sR_eq))) (by omega)) fT_reset vT_reset cT_24 dT_init_37 rfl rfl rfl rfl (by omega) (by decide) rfl (Nat.le_of_ble_eq_true rfl) (fun v s2 hq => ?_)
  obtain ⟨rfl, rfl⟩ := hq
  refine jm_vret (pc := 40) dT_init_40 rfl ⟨Nat.le_refl _, Nat.le_refl _⟩ ?_
  exact ⟨rfl, rfl⟩
theorem pIn_al {a : Nat} (h : ¬ a = 7) (h8 : ¬ a = 8) (h9 : ¬ a = 9) : (pIn st).2.2.2 a = st.2.2.2 a := by
  show (sNew (sR (sNew (sR (sNew st 7) 1 0 0 (some 0)) 8) 1 0 1 (some 0)) 9).2.2.2 a = _
  rw [sNew_an h9]
  show (sNew (sR (sNew st 7) 1 0 0 (some 0)) 8).2.2.2 a = _
  rw [sNew_an h8]
  exact sNew_an h
theorem tIn_al {a : Nat} (h : ¬ a = 0) (h6 : ¬ a = 6) (h10 : ¬ a = 10) : (tIn st).2.2.2 a = st.2.2.2 a := by
  show (sNew (sR (sR (sNew (sI (sNew st 0) 0 0 0 (nI 0)) 6) 0 0 1 (some 0)) 2 0 0 (some 0)) 10).2.2.2 a = _
  rw [sNew_an h10]
  show (sNew (sI (sNew st 0) 0 0 0 (nI 0)) 6).2.2.2 a = _
  rw [sNew_an h6]
  exact sNew_an h
theorem tIn_R4 {c : Nat} : (tIn st).2.2.1 4 0 c = st.2.2.1 4 0 c := by
  show (bec _ 0 0 (-1)).2.2.1 4 0 c = _
  rw [bec_R (by omega), sR_ne (by omega), sR_ne (by omega), sNew_3 (by omega), sR_ne (by omega), sR_ne (by omega), sNew_3 (by omega)]
  exact sNew_3 (by omega)
set_option maxRecDepth 100000 in
set_option maxHeartbeats 1000000 in
theorem c_G_init  (hal : ∀ k, k ≠ 4 → st.2.2.2 k = 0) (hd : 5 ≤ d) : MC l D mG_init d 10 655 [vR (some (4, 0))] st (fun v s' => s' = gIn st ∧ v = none) := by
  refine jm_start (ls0 := [some (vR (some (4, 0)))]) (by decide) (Nat.le_of_ble_eq_true rfl) rfl ?_
  refine jm_aload_n (pc := 0) dG_init_0 rfl ?_
  refine jm_objInit (pc := 1) dG_init_1 oiG_1 oi_inst oi_code (by omega) (Nat.le_of_ble_eq_true rfl) ?_
  refine jm_aload_n (pc := 4) dG_init_4 rfl ?_
  refine jm_new (pc := 5) (k := 1) dG_init_5 rfl rfl nkG_7 niP nzP (by decide) ?_
  rw [hal 1 (by decide)]
  refine jm_dup (pc := 8) dG_init_8 rfl ?_
  refine jm_callI (pc := 9) (c_P_init (d := d - 1) (st := sNew st 1) ((sNew_an (by decide)).trans (hal 7 (by decide))) ((sNew_an (by decide)).trans (hal 8 (by decide))) ((sNew_an (by decide)).trans (hal 9 (by decide))) (by omega)) fP_init rfl vP_init cG_9 dG_init_9 rfl (by omega) (by decide) rfl (Nat.le_of_ble_eq_true rfl) (fun v s2 hq => ?_)
  obtain ⟨rfl, rfl⟩ := hq
  first | refine jm_putr (pc := 12) none rfl pG_init_10 dG_init_12 rfl rfl (fun w => by cases w <;> exact ⟨rfl, rfl⟩) ?_ | refine jm_putr (pc := 12) (some _) rfl pG_init_10 dG_init_12 rfl rfl (fun w => by cases w <;> exact ⟨rfl, rfl⟩) ?_ | refine jm_putr (pc := 12) _ rfl pG_init_10 dG_init_12 rfl rfl (fun w => by cases w <;> exact ⟨rfl, rfl⟩) ?_
  refine jm_aload_n (pc := 15) dG_init_15 rfl ?_
  refine jm_new (pc := 16) (k := 2) dG_init_16 rfl rfl nkG_16 niT nzT (by decide) ?_
  rw [alR, pIn_al (a := 2) (by decide) (by decide) (by decide), sNew_an (k := 1) (a := 2) (by decide), hal 2 (by decide)]
  refine jm_dup (pc := 19) dG_init_19 rfl ?_
  refine jm_callI (pc := 20) (c_T_init (d := d - 1) (st := sNew (sR (pIn (sNew st 1)) 4 0 0 (some 0)) 2) (by rw [sNew_an (k := 2) (a := 0) (by decide), alR, pIn_al (a := 0) (by decide) (by decide) (by decide), sNew_an (k := 1) (a := 0) (by decide)]; exact hal 0 (by decide)) (by rw [sNew_an (k := 2) (a := 6) (by decide), alR, pIn_al (a := 6) (by decide) (by decide) (by decide), sNew_an (k := 1) (a := 6) (by decide)]; exact hal 6 (by decide)) (by rw [sNew_an (k := 2) (a := 10) (by decide), alR, pIn_al (a := 10) (by decide) (by decide) (by decide), sNew_an (k := 1) (a := 10) (by decide)]; exact hal 10 (by decide)) (by omega)) fT_init rfl vT_init cG_18 dG_init_20 rfl (by omega) (by decide) rfl (Nat.le_of_ble_eq_true rfl) (fun v s2 hq => ?_)
  obtain ⟨rfl, rfl⟩ := hq
  first | refine jm_putr (pc := 23) none rfl pG_init_19 dG_init_23 rfl rfl (fun w => by cases w <;> exact ⟨rfl, rfl⟩) ?_ | refine jm_putr (pc := 23) (some _) rfl pG_init_19 dG_init_23 rfl rfl (fun w => by cases w <;> exact ⟨rfl, rfl⟩) ?_ | refine jm_putr (pc := 23) _ rfl pG_init_19 dG_init_23 rfl rfl (fun w => by cases w <;> exact ⟨rfl, rfl⟩) ?_
  refine jm_aload_n (pc := 26) dG_init_26 rfl ?_
  refine jm_new (pc := 27) (k := 3) dG_init_27 rfl rfl nkG_23 niR nzR (by decide) ?_
  rw [alR, tIn_al (a := 3) (by decide) (by decide) (by decide), sNew_an (k := 2) (a := 3) (by decide), alR, pIn_al (a := 3) (by decide) (by decide) (by decide), sNew_an (k := 1) (a := 3) (by decide), hal 3 (by decide)]
  refine jm_dup (pc := 30) dG_init_30 rfl ?_
  refine jm_aload_n (pc := 31) dG_init_31 rfl ?_
  refine jm_getq (pc := 32) lG_10 dG_init_32 rfl rfl (by rw [sNew_3 (by omega), sR_ne (by omega), tIn_R4, sNew_3 (by omega), sR_eq]) ?_
  refine jm_callI (pc := 35) (c_R_init (d := d - 1) (by omega)) fR_init rfl vR_init cG_25 dG_init_35 rfl (by omega) (by decide) rfl (Nat.le_of_ble_eq_true rfl) (fun v s2 hq => ?_)
  obtain ⟨rfl, rfl⟩ := hq
  first | refine jm_putr (pc := 38) none rfl pG_init_28 dG_init_38 rfl rfl (fun w => by cases w <;> exact ⟨rfl, rfl⟩) ?_ | refine jm_putr (pc := 38) (some _) rfl pG_init_28 dG_init_38 rfl rfl (fun w => by cases w <;> exact ⟨rfl, rfl⟩) ?_ | refine jm_putr (pc := 38) _ rfl pG_init_28 dG_init_38 rfl rfl (fun w => by cases w <;> exact ⟨rfl, rfl⟩) ?_
  refine jm_aload_n (pc := 41) dG_init_41 rfl ?_
  refine jm_bipush (pc := 42) (v := 7) dG_init_42 (by decide) ?_
  refine jm_newa (pc := 44) (k := 11) dG_init_44 rfl (by decide) rfl ac_int (by decide) (by decide) (by decide) (fun _ => rfl) (by decide) ?_
  rw [alR, alR, sNew_an (k := 3) (a := 11) (by decide), alR, tIn_al (a := 11) (by decide) (by decide) (by decide), sNew_an (k := 2) (a := 11) (by decide), alR, pIn_al (a := 11) (by decide) (by decide) (by decide), sNew_an (k := 1) (a := 11) (by decide), hal 11 (by decide)]
  first | refine jm_putr (pc := 46) none rfl pG_init_32 dG_init_46 rfl rfl (fun w => by cases w <;> exact ⟨rfl, rfl⟩) ?_ | refine jm_putr (pc := 46) (some _) rfl pG_init_32 dG_init_46 rfl rfl (fun w => by cases w <;> exact ⟨rfl, rfl⟩) ?_ | refine jm_putr (pc := 46) _ rfl pG_init_32 dG_init_46 rfl rfl (fun w => by cases w <;> exact ⟨rfl, rfl⟩) ?_
  refine jm_aload_n (pc := 49) dG_init_49 rfl ?_
  refine jm_iconst (pc := 50) (v := 0) dG_init_50 (by decide) ?_
  refine jm_puti (pc := 51) pG_init_36 dG_init_51 rfl rfl ?_
  refine jm_aload_n (pc := 54) dG_init_54 rfl ?_
  refine jm_lconst (pc := 55) (v := 0) dG_init_55 (by decide) ?_
  refine jm_putl (pc := 56) pG_init_40 dG_init_56 rfl rfl ?_
  refine jm_aload_n (pc := 59) dG_init_59 rfl ?_
  refine jm_lconst (pc := 60) (v := 0) dG_init_60 (by decide) ?_
  refine jm_putl (pc := 61) pG_init_44 dG_init_61 rfl rfl ?_
  refine jm_aload_n (pc := 64) dG_init_64 rfl ?_
  refine jm_iconst (pc := 65) (v := 0) dG_init_65 (by decide) ?_
  refine jm_putz (pc := 66) pG_init_47 dG_init_66 rfl rfl (by first | exact Or.inl rfl | exact Or.inr rfl | assumption) ?_
  refine jm_aload_n (pc := 69) dG_init_69 rfl ?_
  refine jm_iconst (pc := 70) (v := -1) dG_init_70 (by decide) ?_
  refine jm_puti (pc := 71) pG_init_51 dG_init_71 rfl rfl ?_
  refine jm_vret (pc := 74) dG_init_74 rfl ⟨Nat.le_refl _, Nat.le_refl _⟩ ?_
  exact ⟨rfl, rfl⟩
set_option maxRecDepth 100000 in
set_option maxHeartbeats 1000000 in
theorem c_M_init  (hal : ∀ k, 12 ≤ k → st.2.2.2 k = 0) (hd : 3 ≤ d) : MC l D mM_init d 32 22147 [vR (some (5, 0))] st (fun v s' => s' = mfg (mk0 (sL (sL (sI (sI (sI (mkA mArr st) 5 0 41 (-1)) 5 0 5 0) 5 0 17 0) 5 0 18 0) 5 0 19 0)) ∧ v = none) := by
  refine jm_start (ls0 := [some (vR (some (5, 0)))]) (by decide) (Nat.le_of_ble_eq_true rfl) rfl ?_
  refine jm_aload_n (pc := 0) dM_init_0 rfl ?_
  refine jm_objInit (pc := 1) dM_init_1 oiM_1 oi_inst oi_code (by omega) (Nat.le_of_ble_eq_true rfl) ?_
  refine jm_aload_n (pc := 4) dM_init_4 rfl ?_
  refine jm_bipush (pc := 5) (v := 60) dM_init_5 (by decide) ?_
  refine jm_newa (pc := 7) (k := 12) dM_init_7 rfl (by decide) rfl ac_int (by decide) (by decide) (by decide) (fun _ => rfl) (by decide) ?_
  first | refine jm_putr (pc := 9) none rfl pM_init_7 dM_init_9 rfl rfl (fun w => by cases w <;> exact ⟨rfl, rfl⟩) ?_ | refine jm_putr (pc := 9) (some _) rfl pM_init_7 dM_init_9 rfl rfl (fun w => by cases w <;> exact ⟨rfl, rfl⟩) ?_ | refine jm_putr (pc := 9) _ rfl pM_init_7 dM_init_9 rfl rfl (fun w => by cases w <;> exact ⟨rfl, rfl⟩) ?_
  refine jm_aload_n (pc := 12) dM_init_12 rfl ?_
  refine jm_bipush (pc := 13) (v := 60) dM_init_13 (by decide) ?_
  refine jm_newa (pc := 15) (k := 13) dM_init_15 rfl (by decide) rfl ac_int (by decide) (by decide) (by decide) (fun _ => rfl) (by decide) ?_
  first | refine jm_putr (pc := 17) none rfl pM_init_13 dM_init_17 rfl rfl (fun w => by cases w <;> exact ⟨rfl, rfl⟩) ?_ | refine jm_putr (pc := 17) (some _) rfl pM_init_13 dM_init_17 rfl rfl (fun w => by cases w <;> exact ⟨rfl, rfl⟩) ?_ | refine jm_putr (pc := 17) _ rfl pM_init_13 dM_init_17 rfl rfl (fun w => by cases w <;> exact ⟨rfl, rfl⟩) ?_
  refine jm_aload_n (pc := 20) dM_init_20 rfl ?_
  refine jm_sipush (pc := 21) (v := 240) dM_init_21 (by decide) ?_
  refine jm_newa (pc := 24) (k := 14) dM_init_24 rfl (by decide) rfl ac_int (by decide) (by decide) (by decide) (fun _ => rfl) (by decide) ?_
  first | refine jm_putr (pc := 26) none rfl pM_init_16 dM_init_26 rfl rfl (fun w => by cases w <;> exact ⟨rfl, rfl⟩) ?_ | refine jm_putr (pc := 26) (some _) rfl pM_init_16 dM_init_26 rfl rfl (fun w => by cases w <;> exact ⟨rfl, rfl⟩) ?_ | refine jm_putr (pc := 26) _ rfl pM_init_16 dM_init_26 rfl rfl (fun w => by cases w <;> exact ⟨rfl, rfl⟩) ?_
  refine jm_aload_n (pc := 29) dM_init_29 rfl ?_
  refine jm_sipush (pc := 30) (v := 250) dM_init_30 (by decide) ?_
  refine jm_newa (pc := 33) (k := 15) dM_init_33 rfl (by decide) rfl ac_int (by decide) (by decide) (by decide) (fun _ => rfl) (by decide) ?_
  first | refine jm_putr (pc := 35) none rfl pM_init_19 dM_init_35 rfl rfl (fun w => by cases w <;> exact ⟨rfl, rfl⟩) ?_ | refine jm_putr (pc := 35) (some _) rfl pM_init_19 dM_init_35 rfl rfl (fun w => by cases w <;> exact ⟨rfl, rfl⟩) ?_ | refine jm_putr (pc := 35) _ rfl pM_init_19 dM_init_35 rfl rfl (fun w => by cases w <;> exact ⟨rfl, rfl⟩) ?_
  refine jm_aload_n (pc := 38) dM_init_38 rfl ?_
  refine jm_sipush (pc := 39) (v := 250) dM_init_39 (by decide) ?_
  refine jm_newa (pc := 42) (k := 16) dM_init_42 rfl (by decide) rfl ac_int (by decide) (by decide) (by decide) (fun _ => rfl) (by decide) ?_
  first | refine jm_putr (pc := 44) none rfl pM_init_22 dM_init_44 rfl rfl (fun w => by cases w <;> exact ⟨rfl, rfl⟩) ?_ | refine jm_putr (pc := 44) (some _) rfl pM_init_22 dM_init_44 rfl rfl (fun w => by cases w <;> exact ⟨rfl, rfl⟩) ?_ | refine jm_putr (pc := 44) _ rfl pM_init_22 dM_init_44 rfl rfl (fun w => by cases w <;> exact ⟨rfl, rfl⟩) ?_
  refine jm_aload_n (pc := 47) dM_init_47 rfl ?_
  refine jm_sipush (pc := 48) (v := 250) dM_init_48 (by decide) ?_
  refine jm_newa (pc := 51) (k := 17) dM_init_51 rfl (by decide) rfl ac_int (by decide) (by decide) (by decide) (fun _ => rfl) (by decide) ?_
  first | refine jm_putr (pc := 53) none rfl pM_init_25 dM_init_53 rfl rfl (fun w => by cases w <;> exact ⟨rfl, rfl⟩) ?_ | refine jm_putr (pc := 53) (some _) rfl pM_init_25 dM_init_53 rfl rfl (fun w => by cases w <;> exact ⟨rfl, rfl⟩) ?_ | refine jm_putr (pc := 53) _ rfl pM_init_25 dM_init_53 rfl rfl (fun w => by cases w <;> exact ⟨rfl, rfl⟩) ?_
  refine jm_aload_n (pc := 56) dM_init_56 rfl ?_
  refine jm_sipush (pc := 57) (v := 250) dM_init_57 (by decide) ?_
  refine jm_newa (pc := 60) (k := 18) dM_init_60 rfl (by decide) rfl ac_int (by decide) (by decide) (by decide) (fun _ => rfl) (by decide) ?_
  first | refine jm_putr (pc := 62) none rfl pM_init_28 dM_init_62 rfl rfl (fun w => by cases w <;> exact ⟨rfl, rfl⟩) ?_ | refine jm_putr (pc := 62) (some _) rfl pM_init_28 dM_init_62 rfl rfl (fun w => by cases w <;> exact ⟨rfl, rfl⟩) ?_ | refine jm_putr (pc := 62) _ rfl pM_init_28 dM_init_62 rfl rfl (fun w => by cases w <;> exact ⟨rfl, rfl⟩) ?_
  refine jm_aload_n (pc := 65) dM_init_65 rfl ?_
  refine jm_sipush (pc := 66) (v := 250) dM_init_66 (by decide) ?_
  refine jm_newa (pc := 69) (k := 19) dM_init_69 rfl (by decide) rfl ac_int (by decide) (by decide) (by decide) (fun _ => rfl) (by decide) ?_
  first | refine jm_putr (pc := 71) none rfl pM_init_31 dM_init_71 rfl rfl (fun w => by cases w <;> exact ⟨rfl, rfl⟩) ?_ | refine jm_putr (pc := 71) (some _) rfl pM_init_31 dM_init_71 rfl rfl (fun w => by cases w <;> exact ⟨rfl, rfl⟩) ?_ | refine jm_putr (pc := 71) _ rfl pM_init_31 dM_init_71 rfl rfl (fun w => by cases w <;> exact ⟨rfl, rfl⟩) ?_
  refine jm_aload_n (pc := 74) dM_init_74 rfl ?_
  refine jm_sipush (pc := 75) (v := 250) dM_init_75 (by decide) ?_
  refine jm_newa (pc := 78) (k := 20) dM_init_78 rfl (by decide) rfl ac_int (by decide) (by decide) (by decide) (fun _ => rfl) (by decide) ?_
  first | refine jm_putr (pc := 80) none rfl pM_init_34 dM_init_80 rfl rfl (fun w => by cases w <;> exact ⟨rfl, rfl⟩) ?_ | refine jm_putr (pc := 80) (some _) rfl pM_init_34 dM_init_80 rfl rfl (fun w => by cases w <;> exact ⟨rfl, rfl⟩) ?_ | refine jm_putr (pc := 80) _ rfl pM_init_34 dM_init_80 rfl rfl (fun w => by cases w <;> exact ⟨rfl, rfl⟩) ?_
  refine jm_aload_n (pc := 83) dM_init_83 rfl ?_
  refine jm_sipush (pc := 84) (v := 250) dM_init_84 (by decide) ?_
  refine jm_newa (pc := 87) (k := 21) dM_init_87 rfl (by decide) rfl ac_int (by decide) (by decide) (by decide) (fun _ => rfl) (by decide) ?_
  first | refine jm_putr (pc := 89) none rfl pM_init_37 dM_init_89 rfl rfl (fun w => by cases w <;> exact ⟨rfl, rfl⟩) ?_ | refine jm_putr (pc := 89) (some _) rfl pM_init_37 dM_init_89 rfl rfl (fun w => by cases w <;> exact ⟨rfl, rfl⟩) ?_ | refine jm_putr (pc := 89) _ rfl pM_init_37 dM_init_89 rfl rfl (fun w => by cases w <;> exact ⟨rfl, rfl⟩) ?_
  refine jm_aload_n (pc := 92) dM_init_92 rfl ?_
  refine jm_sipush (pc := 93) (v := 250) dM_init_93 (by decide) ?_
  refine jm_newa (pc := 96) (k := 22) dM_init_96 rfl (by decide) rfl ac_int (by decide) (by decide) (by decide) (fun _ => rfl) (by decide) ?_
  first | refine jm_putr (pc := 98) none rfl pM_init_40 dM_init_98 rfl rfl (fun w => by cases w <;> exact ⟨rfl, rfl⟩) ?_ | refine jm_putr (pc := 98) (some _) rfl pM_init_40 dM_init_98 rfl rfl (fun w => by cases w <;> exact ⟨rfl, rfl⟩) ?_ | refine jm_putr (pc := 98) _ rfl pM_init_40 dM_init_98 rfl rfl (fun w => by cases w <;> exact ⟨rfl, rfl⟩) ?_
  refine jm_aload_n (pc := 101) dM_init_101 rfl ?_
  refine jm_sipush (pc := 102) (v := 250) dM_init_102 (by decide) ?_
  refine jm_newa (pc := 105) (k := 23) dM_init_105 rfl (by decide) rfl ac_int (by decide) (by decide) (by decide) (fun _ => rfl) (by decide) ?_
  first | refine jm_putr (pc := 107) none rfl pM_init_43 dM_init_107 rfl rfl (fun w => by cases w <;> exact ⟨rfl, rfl⟩) ?_ | refine jm_putr (pc := 107) (some _) rfl pM_init_43 dM_init_107 rfl rfl (fun w => by cases w <;> exact ⟨rfl, rfl⟩) ?_ | refine jm_putr (pc := 107) _ rfl pM_init_43 dM_init_107 rfl rfl (fun w => by cases w <;> exact ⟨rfl, rfl⟩) ?_
  refine jm_aload_n (pc := 110) dM_init_110 rfl ?_
  refine jm_sipush (pc := 111) (v := 1750) dM_init_111 (by decide) ?_
  refine jm_newa (pc := 114) (k := 24) dM_init_114 rfl (by decide) rfl ac_int (by decide) (by decide) (by decide) (fun _ => rfl) (by decide) ?_
  first | refine jm_putr (pc := 116) none rfl pM_init_46 dM_init_116 rfl rfl (fun w => by cases w <;> exact ⟨rfl, rfl⟩) ?_ | refine jm_putr (pc := 116) (some _) rfl pM_init_46 dM_init_116 rfl rfl (fun w => by cases w <;> exact ⟨rfl, rfl⟩) ?_ | refine jm_putr (pc := 116) _ rfl pM_init_46 dM_init_116 rfl rfl (fun w => by cases w <;> exact ⟨rfl, rfl⟩) ?_
  refine jm_aload_n (pc := 119) dM_init_119 rfl ?_
  refine jm_bipush (pc := 120) (v := 7) dM_init_120 (by decide) ?_
  refine jm_newa (pc := 122) (k := 25) dM_init_122 rfl (by decide) rfl ac_int (by decide) (by decide) (by decide) (fun _ => rfl) (by decide) ?_
  first | refine jm_putr (pc := 124) none rfl pM_init_49 dM_init_124 rfl rfl (fun w => by cases w <;> exact ⟨rfl, rfl⟩) ?_ | refine jm_putr (pc := 124) (some _) rfl pM_init_49 dM_init_124 rfl rfl (fun w => by cases w <;> exact ⟨rfl, rfl⟩) ?_ | refine jm_putr (pc := 124) _ rfl pM_init_49 dM_init_124 rfl rfl (fun w => by cases w <;> exact ⟨rfl, rfl⟩) ?_
  refine jm_aload_n (pc := 127) dM_init_127 rfl ?_
  refine jm_sipush (pc := 128) (v := 15000) dM_init_128 (by decide) ?_
  refine jm_newa (pc := 131) (k := 26) dM_init_131 rfl (by decide) rfl ac_int (by decide) (by decide) (by decide) (fun _ => rfl) (by decide) ?_
  first | refine jm_putr (pc := 133) none rfl pM_init_52 dM_init_133 rfl rfl (fun w => by cases w <;> exact ⟨rfl, rfl⟩) ?_ | refine jm_putr (pc := 133) (some _) rfl pM_init_52 dM_init_133 rfl rfl (fun w => by cases w <;> exact ⟨rfl, rfl⟩) ?_ | refine jm_putr (pc := 133) _ rfl pM_init_52 dM_init_133 rfl rfl (fun w => by cases w <;> exact ⟨rfl, rfl⟩) ?_
  refine jm_aload_n (pc := 136) dM_init_136 rfl ?_
  refine jm_sipush (pc := 137) (v := 250) dM_init_137 (by decide) ?_
  refine jm_newa (pc := 140) (k := 27) dM_init_140 rfl (by decide) rfl ac_long (by decide) (by decide) (by decide) (fun _ => rfl) (by decide) ?_
  first | refine jm_putr (pc := 142) none rfl pM_init_55 dM_init_142 rfl rfl (fun w => by cases w <;> exact ⟨rfl, rfl⟩) ?_ | refine jm_putr (pc := 142) (some _) rfl pM_init_55 dM_init_142 rfl rfl (fun w => by cases w <;> exact ⟨rfl, rfl⟩) ?_ | refine jm_putr (pc := 142) _ rfl pM_init_55 dM_init_142 rfl rfl (fun w => by cases w <;> exact ⟨rfl, rfl⟩) ?_
  refine jm_aload_n (pc := 145) dM_init_145 rfl ?_
  refine jm_sipush (pc := 146) (v := 250) dM_init_146 (by decide) ?_
  refine jm_newa (pc := 149) (k := 28) dM_init_149 rfl (by decide) rfl ac_long (by decide) (by decide) (by decide) (fun _ => rfl) (by decide) ?_
  first | refine jm_putr (pc := 151) none rfl pM_init_59 dM_init_151 rfl rfl (fun w => by cases w <;> exact ⟨rfl, rfl⟩) ?_ | refine jm_putr (pc := 151) (some _) rfl pM_init_59 dM_init_151 rfl rfl (fun w => by cases w <;> exact ⟨rfl, rfl⟩) ?_ | refine jm_putr (pc := 151) _ rfl pM_init_59 dM_init_151 rfl rfl (fun w => by cases w <;> exact ⟨rfl, rfl⟩) ?_
  refine jm_aload_n (pc := 154) dM_init_154 rfl ?_
  refine jm_sipush (pc := 155) (v := 250) dM_init_155 (by decide) ?_
  refine jm_newa (pc := 158) (k := 29) dM_init_158 rfl (by decide) rfl ac_long (by decide) (by decide) (by decide) (fun _ => rfl) (by decide) ?_
  first | refine jm_putr (pc := 160) none rfl pM_init_62 dM_init_160 rfl rfl (fun w => by cases w <;> exact ⟨rfl, rfl⟩) ?_ | refine jm_putr (pc := 160) (some _) rfl pM_init_62 dM_init_160 rfl rfl (fun w => by cases w <;> exact ⟨rfl, rfl⟩) ?_ | refine jm_putr (pc := 160) _ rfl pM_init_62 dM_init_160 rfl rfl (fun w => by cases w <;> exact ⟨rfl, rfl⟩) ?_
  refine jm_aload_n (pc := 163) dM_init_163 rfl ?_
  refine jm_sipush (pc := 164) (v := 250) dM_init_164 (by decide) ?_
  refine jm_newa (pc := 167) (k := 30) dM_init_167 rfl (by decide) rfl ac_long (by decide) (by decide) (by decide) (fun _ => rfl) (by decide) ?_
  first | refine jm_putr (pc := 169) none rfl pM_init_65 dM_init_169 rfl rfl (fun w => by cases w <;> exact ⟨rfl, rfl⟩) ?_ | refine jm_putr (pc := 169) (some _) rfl pM_init_65 dM_init_169 rfl rfl (fun w => by cases w <;> exact ⟨rfl, rfl⟩) ?_ | refine jm_putr (pc := 169) _ rfl pM_init_65 dM_init_169 rfl rfl (fun w => by cases w <;> exact ⟨rfl, rfl⟩) ?_
  refine jm_aload_n (pc := 172) dM_init_172 rfl ?_
  refine jm_sipush (pc := 173) (v := 250) dM_init_173 (by decide) ?_
  refine jm_newa (pc := 176) (k := 31) dM_init_176 rfl (by decide) rfl ac_boolean (by decide) (by decide) (by decide) (fun _ => rfl) (by decide) ?_
  first | refine jm_putr (pc := 178) none rfl pM_init_68 dM_init_178 rfl rfl (fun w => by cases w <;> exact ⟨rfl, rfl⟩) ?_ | refine jm_putr (pc := 178) (some _) rfl pM_init_68 dM_init_178 rfl rfl (fun w => by cases w <;> exact ⟨rfl, rfl⟩) ?_ | refine jm_putr (pc := 178) _ rfl pM_init_68 dM_init_178 rfl rfl (fun w => by cases w <;> exact ⟨rfl, rfl⟩) ?_
  refine jm_aload_n (pc := 181) dM_init_181 rfl ?_
  refine jm_sipush (pc := 182) (v := 250) dM_init_182 (by decide) ?_
  refine jm_newa (pc := 185) (k := 32) dM_init_185 rfl (by decide) rfl ac_boolean (by decide) (by decide) (by decide) (fun _ => rfl) (by decide) ?_
  first | refine jm_putr (pc := 187) none rfl pM_init_72 dM_init_187 rfl rfl (fun w => by cases w <;> exact ⟨rfl, rfl⟩) ?_ | refine jm_putr (pc := 187) (some _) rfl pM_init_72 dM_init_187 rfl rfl (fun w => by cases w <;> exact ⟨rfl, rfl⟩) ?_ | refine jm_putr (pc := 187) _ rfl pM_init_72 dM_init_187 rfl rfl (fun w => by cases w <;> exact ⟨rfl, rfl⟩) ?_
  refine jm_aload_n (pc := 190) dM_init_190 rfl ?_
  refine jm_sipush (pc := 191) (v := 250) dM_init_191 (by decide) ?_
  refine jm_newa (pc := 194) (k := 33) dM_init_194 rfl (by decide) rfl ac_int (by decide) (by decide) (by decide) (fun _ => rfl) (by decide) ?_
  first | refine jm_putr (pc := 196) none rfl pM_init_75 dM_init_196 rfl rfl (fun w => by cases w <;> exact ⟨rfl, rfl⟩) ?_ | refine jm_putr (pc := 196) (some _) rfl pM_init_75 dM_init_196 rfl rfl (fun w => by cases w <;> exact ⟨rfl, rfl⟩) ?_ | refine jm_putr (pc := 196) _ rfl pM_init_75 dM_init_196 rfl rfl (fun w => by cases w <;> exact ⟨rfl, rfl⟩) ?_
  refine jm_aload_n (pc := 199) dM_init_199 rfl ?_
  refine jm_sipush (pc := 200) (v := 250) dM_init_200 (by decide) ?_
  refine jm_newa (pc := 203) (k := 34) dM_init_203 rfl (by decide) rfl ac_int (by decide) (by decide) (by decide) (fun _ => rfl) (by decide) ?_
  first | refine jm_putr (pc := 205) none rfl pM_init_78 dM_init_205 rfl rfl (fun w => by cases w <;> exact ⟨rfl, rfl⟩) ?_ | refine jm_putr (pc := 205) (some _) rfl pM_init_78 dM_init_205 rfl rfl (fun w => by cases w <;> exact ⟨rfl, rfl⟩) ?_ | refine jm_putr (pc := 205) _ rfl pM_init_78 dM_init_205 rfl rfl (fun w => by cases w <;> exact ⟨rfl, rfl⟩) ?_
  refine jm_aload_n (pc := 208) dM_init_208 rfl ?_
  refine jm_sipush (pc := 209) (v := 250) dM_init_209 (by decide) ?_
  refine jm_newa (pc := 212) (k := 35) dM_init_212 rfl (by decide) rfl ac_int (by decide) (by decide) (by decide) (fun _ => rfl) (by decide) ?_
  first | refine jm_putr (pc := 214) none rfl pM_init_81 dM_init_214 rfl rfl (fun w => by cases w <;> exact ⟨rfl, rfl⟩) ?_ | refine jm_putr (pc := 214) (some _) rfl pM_init_81 dM_init_214 rfl rfl (fun w => by cases w <;> exact ⟨rfl, rfl⟩) ?_ | refine jm_putr (pc := 214) _ rfl pM_init_81 dM_init_214 rfl rfl (fun w => by cases w <;> exact ⟨rfl, rfl⟩) ?_
  refine jm_aload_n (pc := 217) dM_init_217 rfl ?_
  refine jm_sipush (pc := 218) (v := 250) dM_init_218 (by decide) ?_
  refine jm_newa (pc := 221) (k := 36) dM_init_221 rfl (by decide) rfl ac_int (by decide) (by decide) (by decide) (fun _ => rfl) (by decide) ?_
  first | refine jm_putr (pc := 223) none rfl pM_init_84 dM_init_223 rfl rfl (fun w => by cases w <;> exact ⟨rfl, rfl⟩) ?_ | refine jm_putr (pc := 223) (some _) rfl pM_init_84 dM_init_223 rfl rfl (fun w => by cases w <;> exact ⟨rfl, rfl⟩) ?_ | refine jm_putr (pc := 223) _ rfl pM_init_84 dM_init_223 rfl rfl (fun w => by cases w <;> exact ⟨rfl, rfl⟩) ?_
  refine jm_aload_n (pc := 226) dM_init_226 rfl ?_
  refine jm_bipush (pc := 227) (v := 40) dM_init_227 (by decide) ?_
  refine jm_newa (pc := 229) (k := 37) dM_init_229 rfl (by decide) rfl ac_int (by decide) (by decide) (by decide) (fun _ => rfl) (by decide) ?_
  first | refine jm_putr (pc := 231) none rfl pM_init_87 dM_init_231 rfl rfl (fun w => by cases w <;> exact ⟨rfl, rfl⟩) ?_ | refine jm_putr (pc := 231) (some _) rfl pM_init_87 dM_init_231 rfl rfl (fun w => by cases w <;> exact ⟨rfl, rfl⟩) ?_ | refine jm_putr (pc := 231) _ rfl pM_init_87 dM_init_231 rfl rfl (fun w => by cases w <;> exact ⟨rfl, rfl⟩) ?_
  refine jm_aload_n (pc := 234) dM_init_234 rfl ?_
  refine jm_bipush (pc := 235) (v := 40) dM_init_235 (by decide) ?_
  refine jm_newa (pc := 237) (k := 38) dM_init_237 rfl (by decide) rfl ac_int (by decide) (by decide) (by decide) (fun _ => rfl) (by decide) ?_
  first | refine jm_putr (pc := 239) none rfl pM_init_90 dM_init_239 rfl rfl (fun w => by cases w <;> exact ⟨rfl, rfl⟩) ?_ | refine jm_putr (pc := 239) (some _) rfl pM_init_90 dM_init_239 rfl rfl (fun w => by cases w <;> exact ⟨rfl, rfl⟩) ?_ | refine jm_putr (pc := 239) _ rfl pM_init_90 dM_init_239 rfl rfl (fun w => by cases w <;> exact ⟨rfl, rfl⟩) ?_
  refine jm_aload_n (pc := 242) dM_init_242 rfl ?_
  refine jm_bipush (pc := 243) (v := 40) dM_init_243 (by decide) ?_
  refine jm_newa (pc := 245) (k := 39) dM_init_245 rfl (by decide) rfl ac_int (by decide) (by decide) (by decide) (fun _ => rfl) (by decide) ?_
  first | refine jm_putr (pc := 247) none rfl pM_init_93 dM_init_247 rfl rfl (fun w => by cases w <;> exact ⟨rfl, rfl⟩) ?_ | refine jm_putr (pc := 247) (some _) rfl pM_init_93 dM_init_247 rfl rfl (fun w => by cases w <;> exact ⟨rfl, rfl⟩) ?_ | refine jm_putr (pc := 247) _ rfl pM_init_93 dM_init_247 rfl rfl (fun w => by cases w <;> exact ⟨rfl, rfl⟩) ?_
  refine jm_aload_n (pc := 250) dM_init_250 rfl ?_
  refine jm_bipush (pc := 251) (v := 40) dM_init_251 (by decide) ?_
  refine jm_newa (pc := 253) (k := 40) dM_init_253 rfl (by decide) rfl ac_int (by decide) (by decide) (by decide) (fun _ => rfl) (by decide) ?_
  first | refine jm_putr (pc := 255) none rfl pM_init_96 dM_init_255 rfl rfl (fun w => by cases w <;> exact ⟨rfl, rfl⟩) ?_ | refine jm_putr (pc := 255) (some _) rfl pM_init_96 dM_init_255 rfl rfl (fun w => by cases w <;> exact ⟨rfl, rfl⟩) ?_ | refine jm_putr (pc := 255) _ rfl pM_init_96 dM_init_255 rfl rfl (fun w => by cases w <;> exact ⟨rfl, rfl⟩) ?_
  refine jm_aload_n (pc := 258) dM_init_258 rfl ?_
  refine jm_bipush (pc := 259) (v := 40) dM_init_259 (by decide) ?_
  refine jm_newa (pc := 261) (k := 41) dM_init_261 rfl (by decide) rfl ac_long (by decide) (by decide) (by decide) (fun _ => rfl) (by decide) ?_
  first | refine jm_putr (pc := 263) none rfl pM_init_99 dM_init_263 rfl rfl (fun w => by cases w <;> exact ⟨rfl, rfl⟩) ?_ | refine jm_putr (pc := 263) (some _) rfl pM_init_99 dM_init_263 rfl rfl (fun w => by cases w <;> exact ⟨rfl, rfl⟩) ?_ | refine jm_putr (pc := 263) _ rfl pM_init_99 dM_init_263 rfl rfl (fun w => by cases w <;> exact ⟨rfl, rfl⟩) ?_
  refine jm_aload_n (pc := 266) dM_init_266 rfl ?_
  refine jm_bipush (pc := 267) (v := 40) dM_init_267 (by decide) ?_
  refine jm_newa (pc := 269) (k := 42) dM_init_269 rfl (by decide) rfl ac_long (by decide) (by decide) (by decide) (fun _ => rfl) (by decide) ?_
  first | refine jm_putr (pc := 271) none rfl pM_init_102 dM_init_271 rfl rfl (fun w => by cases w <;> exact ⟨rfl, rfl⟩) ?_ | refine jm_putr (pc := 271) (some _) rfl pM_init_102 dM_init_271 rfl rfl (fun w => by cases w <;> exact ⟨rfl, rfl⟩) ?_ | refine jm_putr (pc := 271) _ rfl pM_init_102 dM_init_271 rfl rfl (fun w => by cases w <;> exact ⟨rfl, rfl⟩) ?_
  refine jm_aload_n (pc := 274) dM_init_274 rfl ?_
  refine jm_bipush (pc := 275) (v := 40) dM_init_275 (by decide) ?_
  refine jm_newa (pc := 277) (k := 43) dM_init_277 rfl (by decide) rfl ac_long (by decide) (by decide) (by decide) (fun _ => rfl) (by decide) ?_
  first | refine jm_putr (pc := 279) none rfl pM_init_105 dM_init_279 rfl rfl (fun w => by cases w <;> exact ⟨rfl, rfl⟩) ?_ | refine jm_putr (pc := 279) (some _) rfl pM_init_105 dM_init_279 rfl rfl (fun w => by cases w <;> exact ⟨rfl, rfl⟩) ?_ | refine jm_putr (pc := 279) _ rfl pM_init_105 dM_init_279 rfl rfl (fun w => by cases w <;> exact ⟨rfl, rfl⟩) ?_
  change MS l D mM_init d 32 22147 _ _ _ 282 _ _ (mkA mArr st)
  refine jm_aload_n (pc := 282) dM_init_282 rfl ?_
  refine jm_iconst (pc := 283) (v := -1) dM_init_283 (by decide) ?_
  refine jm_puti (pc := 284) pM_init_108 dM_init_284 rfl rfl ?_
  refine jm_aload_n (pc := 287) dM_init_287 rfl ?_
  refine jm_callV (pc := 288) (c_M_begin (d := d - 1) (st := sI (mkA mArr st) 5 0 41 (-1)) (mF_mkA hal) (by omega)) fM_begin vM_begin cM_112 dM_init_288 rfl rfl rfl rfl (by omega) (by decide) rfl (Nat.le_of_ble_eq_true rfl) (fun v s2 hq => ?_)
  obtain ⟨rfl, rfl⟩ := hq
  refine jm_vret (pc := 291) dM_init_291 rfl ⟨Nat.le_refl _, Nat.le_refl _⟩ ?_
  exact ⟨rfl, rfl⟩
end CI1
