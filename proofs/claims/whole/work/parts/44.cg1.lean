section CG1
variable {l : Launch} {D : mD} {d : Nat} {st : aS}
set_option maxRecDepth 100000 in
set_option maxHeartbeats 4000000 in
theorem c_G_forgetOrdering   : MC l D mG_forgetOrdering d 0 0 [vR (some (4, 0))] st (fun v s' => s' = fgt st ∧ v = none) := by
  refine jm_start (ls0 := [some (vR (some (4, 0)))]) (by decide) (Nat.le_of_ble_eq_true rfl) rfl ?_
  refine jm_aload_n (pc := 0) dG_forgetOrdering_0 rfl ?_
  refine jm_iconst (pc := 1) (v := 0) dG_forgetOrdering_1 (by decide) ?_
  refine jm_putz (pc := 2) pG_forgetOrdering_47 dG_forgetOrdering_2 rfl rfl (by first | exact Or.inl rfl | exact Or.inr rfl | assumption) ?_
  refine jm_aload_n (pc := 5) dG_forgetOrdering_5 rfl ?_
  refine jm_iconst (pc := 6) (v := -1) dG_forgetOrdering_6 (by decide) ?_
  refine jm_puti (pc := 7) pG_forgetOrdering_51 dG_forgetOrdering_7 rfl rfl ?_
  refine jm_vret (pc := 10) dG_forgetOrdering_10 rfl ⟨Nat.le_refl _, Nat.le_refl _⟩ ?_
  exact ⟨rfl, rfl⟩
abbrev pdP (np : Nat) (x : Int32) : Prop := np < 60 ∧ ¬ x < 0 ∧ x ≤ 6
abbrev moP (np : Nat) (md : Nat → Nat) (x : Int32) : Prop := isN np x ∧ md x.toNatClampNeg < 4
set_option maxRecDepth 100000 in
set_option maxHeartbeats 4000000 in
theorem c_P_define {np : Nat} {ar md : Nat → Nat} {ou : Nat → Nat → Int32} (x : Int32) (hp : pR st np ar md ou) : MC l D mP_define d 0 0 [vR (some (1, 0)), vI x] st (fun v s' => v = some (vI (if pdP np x then nI np else -1)) ∧ s' = (if pdP np x then sI (sI st 7 0 np x) 1 0 3 (nI (np + 1)) else st)) := by
  refine jm_start (ls0 := [some (vR (some (1, 0))), some (vI x)]) (by decide) (Nat.le_of_ble_eq_true rfl) rfl ?_
  obtain ⟨p1_, p2_, p3_, p4_, p5_, p6_, p7_, p8_⟩ := hp
  refine jm_aload_n (pc := 0) dP_define_0 rfl ?_
  refine jm_geti (pc := 1) lP_21 dP_define_1 rfl (fun _ => rfl) ?_
  rw [p4_]
  refine jm_bipush (pc := 4) (v := 60) dP_define_4 (by decide) ?_
  refine jm_icmp_ge (pc := 6) (tgt := 19) dP_define_6 (by decide) (fun h6 => ?_) (fun h6 => ?_)
  · refine jm_iconst (pc := 19) (v := -1) dP_define_19 (by decide) ?_
    refine jm_iret (pc := 20) dP_define_20 rfl ⟨Nat.le_refl _, Nat.le_refl _⟩ ?_
    have hn : ¬ pdP np x := fun q => by
      first
        | exact absurd h6 (nI_ge q.1 (by decide))
        | exact q.2.1 h10
        | exact h16 q.2.2
    exact ⟨by rw [if_neg hn], by rw [if_neg hn]⟩
  · refine jm_iload_n (pc := 9) dP_define_9 rfl ?_
    refine jm_if_lt (pc := 10) (tgt := 19) dP_define_10 (by decide) (fun h10 => ?_) (fun h10 => ?_)
    · refine jm_iconst (pc := 19) (v := -1) dP_define_19 (by decide) ?_
      refine jm_iret (pc := 20) dP_define_20 rfl ⟨Nat.le_refl _, Nat.le_refl _⟩ ?_
      have hn : ¬ pdP np x := fun q => by
        first
          | exact absurd h6 (nI_ge q.1 (by decide))
          | exact q.2.1 h10
          | exact h16 q.2.2
      exact ⟨by rw [if_neg hn], by rw [if_neg hn]⟩
    · refine jm_iload_n (pc := 13) dP_define_13 rfl ?_
      refine jm_bipush (pc := 14) (v := 6) dP_define_14 (by decide) ?_
      refine jm_icmp_le (pc := 16) (tgt := 21) dP_define_16 (by decide) (fun h16 => ?_) (fun h16 => ?_)
      · have hnp : np < 60 := Nat.lt_of_not_le (fun q => h6 (nI_le q (by omega)))
        refine jm_aload_n (pc := 21) dP_define_21 rfl ?_
        refine jm_getq (pc := 22) lP_9 dP_define_22 rfl rfl (p1_) ?_
        refine jm_aload_n (pc := 25) dP_define_25 rfl ?_
        refine jm_geti (pc := 26) lP_21 dP_define_26 rfl (fun _ => rfl) ?_
        rw [p4_]
        refine jm_iload_n (pc := 29) dP_define_29 rfl ?_
        refine jm_iast (pc := 30) dP_define_30 rfl (by decide) rfl (fun _ => rfl) ?hin ?_
        case hin =>
          exact vp_in_nI (N := 60) (by omega) (by decide)
        rw [nI_clamp (by omega)]
        refine jm_aload_n (pc := 31) dP_define_31 rfl ?_
        refine jm_dup (pc := 32) dP_define_32 rfl ?_
        refine jm_geti (pc := 33) lP_21 dP_define_33 rfl (fun _ => rfl) ?_
        rw [show (sI st 7 0 np x).1 1 0 3 = nI np from (sI_ne (by omega)).trans p4_]
        refine jm_iconst (pc := 36) (v := 1) dP_define_36 (by decide) ?_
        refine jm_iadd (pc := 37) dP_define_37 ?_
        rw [show nI np + 1 = nI (np + 1) from nI_1 np]
        refine jm_puti (pc := 38) pP_define_21 dP_define_38 rfl rfl ?_
        refine jm_aload_n (pc := 41) dP_define_41 rfl ?_
        refine jm_geti (pc := 42) lP_21 dP_define_42 rfl (fun _ => rfl) ?_
        rw [sI_eq]
        refine jm_iconst (pc := 45) (v := 1) dP_define_45 (by decide) ?_
        refine jm_isub (pc := 46) dP_define_46 ?_
        rw [show nI (np + 1) - 1 = nI np from nI_pred np]
        refine jm_iret (pc := 47) dP_define_47 rfl ⟨Nat.le_refl _, Nat.le_refl _⟩ ?_
        have hy : pdP np x := ⟨hnp, h10, h16⟩
        exact ⟨by rw [if_pos hy], by rw [if_pos hy]⟩
      · refine jm_iconst (pc := 19) (v := -1) dP_define_19 (by decide) ?_
        refine jm_iret (pc := 20) dP_define_20 rfl ⟨Nat.le_refl _, Nat.le_refl _⟩ ?_
        have hn : ¬ pdP np x := fun q => by
          first
            | exact absurd h6 (nI_ge q.1 (by decide))
            | exact q.2.1 h10
            | exact h16 q.2.2
        exact ⟨by rw [if_neg hn], by rw [if_neg hn]⟩
set_option maxRecDepth 100000 in
set_option maxHeartbeats 4000000 in
theorem c_G_predicate {np : Nat} {ar md : Nat → Nat} {ou : Nat → Nat → Int32} (x : Int32) (hF : CF st) (hp : pR st np ar md ou) (hd : 1 ≤ d) : MC l D mG_predicate d 0 0 [vR (some (4, 0)), vI x] st (fun v s' => v = some (vI (if pdP np x then nI np else -1)) ∧ s' = (if pdP np x then sI (sI st 7 0 np x) 1 0 3 (nI (np + 1)) else st)) := by
  refine jm_start (ls0 := [some (vR (some (4, 0))), some (vI x)]) (by decide) (Nat.le_of_ble_eq_true rfl) rfl ?_
  obtain ⟨k0_, k1_, k2_, k3_, k4_, k5_, k6_⟩ := hF
  refine jm_aload_n (pc := 0) dG_predicate_0 rfl ?_
  refine jm_getq (pc := 1) lG_10 dG_predicate_1 rfl rfl (k0_) ?_
  refine jm_iload_n (pc := 4) dG_predicate_4 rfl ?_
  refine jm_callV (pc := 5) (c_P_define (d := d - 1) x hp) fP_define vP_define cG_54 dG_predicate_5 rfl rfl rfl rfl (by omega) ⟨Nat.le_refl _, Nat.le_refl _⟩ rfl (Nat.le_of_ble_eq_true rfl) (fun v s2 hq => ?_)
  obtain ⟨rfl, rfl⟩ := hq
  refine jm_iret (pc := 8) dG_predicate_8 rfl ⟨Nat.le_refl _, Nat.le_refl _⟩ ?_
  exact ⟨rfl, rfl⟩
theorem e4b (a b : Nat) : nI a * 4 + nI b = nI (4 * a + b) := by
  rw [show nI a * 4 = nI (a * 4) by unfold nI; rw [Int32.ofNat_mul]; rfl, nI_add, Nat.mul_comm]
set_option maxRecDepth 100000 in
set_option maxHeartbeats 4000000 in
theorem c_P_defineMode {np : Nat} {ar md : Nat → Nat} {ou : Nat → Nat → Int32} {j : Nat} (ou2 : Int32) (hp : pR st np ar md ou) (hj : j < np) (hm : md j < 4) (hd : 1 ≤ d) : MC l D mP_defineMode d 0 0 [vR (some (1, 0)), vI (nI j), vI ou2] st (fun v s' => v = some (vI (nI (md j))) ∧ s' = sI (sI st 9 0 (4 * j + md j) ou2) 8 0 j (nI (md j + 1))) := by
  refine jm_start (ls0 := [some (vR (some (1, 0))), some (vI (nI j)), some (vI ou2), none]) (by decide) (Nat.le_of_ble_eq_true rfl) rfl ?_
  obtain ⟨p1_, p2_, p3_, p4_, p5_, p6_, p7_, p8_⟩ := hp
  obtain ⟨a1_, a2_, a3_, a4_⟩ := p6_ j hj
  refine jm_aload_n (pc := 0) dP_defineMode_0 rfl ?_
  refine jm_iload_n (pc := 1) dP_defineMode_1 rfl ?_
  refine jm_callV (pc := 2) (c_P_has (d := d - 1) (nI j)) fP_has vP_has cP_25 dP_defineMode_2 rfl rfl rfl rfl (by omega) ⟨Nat.le_refl _, Nat.le_refl _⟩ rfl (Nat.le_of_ble_eq_true rfl) (fun v s2 hq => ?_)
  obtain ⟨rfl, rfl⟩ := hq
  refine jm_if_eq (pc := 5) (tgt := 18) dP_defineMode_5 (by decide) (fun h5 => ?_) (fun h5 => ?_)
  · exact absurd (isN_nI hj (by omega)) (by rw [p4_] at h5; exact jb_eq0 h5)
  · refine jm_aload_n (pc := 8) dP_defineMode_8 rfl ?_
    refine jm_getq (pc := 9) lP_15 dP_defineMode_9 rfl rfl (p2_) ?_
    refine jm_iload_n (pc := 12) dP_defineMode_12 rfl ?_
    refine jm_iald (pc := 13) dP_defineMode_13 rfl (by decide) rfl (fun _ => rfl) ?hin ?_
    case hin =>
      exact vp_in_nI (N := 60) (by omega) (by decide)
    rw [nI_clamp (by omega), a3_]
    refine jm_iconst (pc := 14) (v := 4) dP_defineMode_14 (by decide) ?_
    refine jm_icmp_lt (pc := 15) (tgt := 20) dP_defineMode_15 (by decide) (fun h15 => ?_) (fun h15 => ?_)
    · refine jm_aload_n (pc := 20) dP_defineMode_20 rfl ?_
      refine jm_getq (pc := 21) lP_15 dP_defineMode_21 rfl rfl (p2_) ?_
      refine jm_iload_n (pc := 24) dP_defineMode_24 rfl ?_
      refine jm_iald (pc := 25) dP_defineMode_25 rfl (by decide) rfl (fun _ => rfl) ?hin ?_
      case hin =>
        exact vp_in_nI (N := 60) (by omega) (by decide)
      rw [nI_clamp (by omega), a3_]
      refine jm_istore_n (pc := 26) dP_defineMode_26 (by decide) ?_
      refine jm_aload_n (pc := 27) dP_defineMode_27 rfl ?_
      refine jm_getq (pc := 28) lP_18 dP_defineMode_28 rfl rfl (p3_) ?_
      refine jm_iload_n (pc := 31) dP_defineMode_31 rfl ?_
      refine jm_iconst (pc := 32) (v := 4) dP_defineMode_32 (by decide) ?_
      refine jm_imul (pc := 33) dP_defineMode_33 ?_
      refine jm_iload_n (pc := 34) dP_defineMode_34 rfl ?_
      refine jm_iadd (pc := 35) dP_defineMode_35 ?_
      rw [e4b]
      refine jm_iload_n (pc := 36) dP_defineMode_36 rfl ?_
      refine jm_iast (pc := 37) dP_defineMode_37 rfl (by decide) rfl (fun _ => rfl) ?hin ?_
      case hin =>
        exact vp_in_nI (N := 240) (by omega) (by decide)
      rw [nI_clamp (by omega)]
      refine jm_aload_n (pc := 38) dP_defineMode_38 rfl ?_
      refine jm_getq (pc := 39) lP_15 dP_defineMode_39 rfl rfl (p2_) ?_
      refine jm_iload_n (pc := 42) dP_defineMode_42 rfl ?_
      refine jm_iload_n (pc := 43) dP_defineMode_43 rfl ?_
      refine jm_iconst (pc := 44) (v := 1) dP_defineMode_44 (by decide) ?_
      refine jm_iadd (pc := 45) dP_defineMode_45 ?_
      rw [show nI (md j) + 1 = nI (md j + 1) from nI_1 (md j)]
      refine jm_iast (pc := 46) dP_defineMode_46 rfl (by decide) rfl (fun _ => rfl) ?hin ?_
      case hin =>
        exact vp_in_nI (N := 60) (by omega) (by decide)
      rw [nI_clamp (by omega)]
      refine jm_iload_n (pc := 47) dP_defineMode_47 rfl ?_
      refine jm_iret (pc := 48) dP_defineMode_48 rfl ⟨Nat.le_refl _, Nat.le_refl _⟩ ?_
      exact ⟨rfl, rfl⟩
    · exact absurd (nI_lt (b := 4) hm (by decide)) h15
set_option maxRecDepth 100000 in
set_option maxHeartbeats 4000000 in
theorem c_P_defineMode_n {np : Nat} {ar md : Nat → Nat} {ou : Nat → Nat → Int32} {x : Int32} (ou2 : Int32) (hp : pR st np ar md ou) (hx : ¬ moP np md x) (hd : 1 ≤ d) : MC l D mP_defineMode d 0 0 [vR (some (1, 0)), vI x, vI ou2] st (fun v s' => v = some (vI (-1)) ∧ st = s') := by
  refine jm_start (ls0 := [some (vR (some (1, 0))), some (vI x), some (vI ou2), none]) (by decide) (Nat.le_of_ble_eq_true rfl) rfl ?_
  obtain ⟨p1_, p2_, p3_, p4_, p5_, p6_, p7_, p8_⟩ := hp
  refine jm_aload_n (pc := 0) dP_defineMode_0 rfl ?_
  refine jm_iload_n (pc := 1) dP_defineMode_1 rfl ?_
  refine jm_callV (pc := 2) (c_P_has (d := d - 1) x) fP_has vP_has cP_25 dP_defineMode_2 rfl rfl rfl rfl (by omega) ⟨Nat.le_refl _, Nat.le_refl _⟩ rfl (Nat.le_of_ble_eq_true rfl) (fun v s2 hq => ?_)
  obtain ⟨rfl, rfl⟩ := hq
  refine jm_if_eq (pc := 5) (tgt := 18) dP_defineMode_5 (by decide) (fun h5 => ?_) (fun h5 => ?_)
  · refine jm_iconst (pc := 18) (v := -1) dP_defineMode_18 (by decide) ?_
    refine jm_iret (pc := 19) dP_defineMode_19 rfl ⟨Nat.le_refl _, Nat.le_refl _⟩ ?_
    exact ⟨rfl, rfl⟩
  · rw [p4_] at h5
    have hN : isN np x := jb_ne0 h5
    obtain ⟨j, hj, rfl⟩ := isN_of hN (by omega)
    have ej : (nI j).toNatClampNeg = j := nI_clamp (by omega)
    obtain ⟨a1_, a2_, a3_, a4_⟩ := p6_ j hj
    refine jm_aload_n (pc := 8) dP_defineMode_8 rfl ?_
    refine jm_getq (pc := 9) lP_15 dP_defineMode_9 rfl rfl (p2_) ?_
    refine jm_iload_n (pc := 12) dP_defineMode_12 rfl ?_
    refine jm_iald (pc := 13) dP_defineMode_13 rfl (by decide) rfl (fun _ => rfl) ?hin ?_
    case hin =>
      exact vp_in_nI (N := 60) (by omega) (by decide)
    rw [nI_clamp (by omega), a3_]
    refine jm_iconst (pc := 14) (v := 4) dP_defineMode_14 (by decide) ?_
    refine jm_icmp_lt (pc := 15) (tgt := 20) dP_defineMode_15 (by decide) (fun h15 => ?_) (fun h15 => ?_)
    · exact absurd ⟨hN, by rw [ej]; exact Nat.lt_of_not_le (fun q => absurd h15 (nI_nlt (b := 4) q (by omega)))⟩ hx
    · refine jm_iconst (pc := 18) (v := -1) dP_defineMode_18 (by decide) ?_
      refine jm_iret (pc := 19) dP_defineMode_19 rfl ⟨Nat.le_refl _, Nat.le_refl _⟩ ?_
      exact ⟨rfl, rfl⟩
set_option maxRecDepth 100000 in
set_option maxHeartbeats 4000000 in
theorem c_G_mode {np : Nat} {ar md : Nat → Nat} {ou : Nat → Nat → Int32} {j : Nat} (ou2 : Int32) (hF : CF st) (hp : pR st np ar md ou) (hj : j < np) (hm : md j < 4) (hd : 2 ≤ d) : MC l D mG_mode d 0 0 [vR (some (4, 0)), vI (nI j), vI ou2] st (fun v s' => v = some (vI (nI (md j))) ∧ s' = fgt (sI (sI st 9 0 (4 * j + md j) ou2) 8 0 j (nI (md j + 1)))) := by
  refine jm_start (ls0 := [some (vR (some (4, 0))), some (vI (nI j)), some (vI ou2), none]) (by decide) (Nat.le_of_ble_eq_true rfl) rfl ?_
  obtain ⟨k0_, k1_, k2_, k3_, k4_, k5_, k6_⟩ := hF
  refine jm_aload_n (pc := 0) dG_mode_0 rfl ?_
  refine jm_getq (pc := 1) lG_10 dG_mode_1 rfl rfl (k0_) ?_
  refine jm_iload_n (pc := 4) dG_mode_4 rfl ?_
  refine jm_iload_n (pc := 5) dG_mode_5 rfl ?_
  refine jm_callV (pc := 6) (c_P_defineMode (d := d - 1) ou2 hp hj hm (by omega)) fP_defineMode vP_defineMode cG_58 dG_mode_6 rfl rfl rfl rfl (by omega) ⟨Nat.le_refl _, Nat.le_refl _⟩ rfl (Nat.le_of_ble_eq_true rfl) (fun v s2 hq => ?_)
  obtain ⟨rfl, rfl⟩ := hq
  refine jm_istore_n (pc := 9) dG_mode_9 (by decide) ?_
  refine jm_iload_n (pc := 10) dG_mode_10 rfl ?_
  refine jm_iconst (pc := 11) (v := -1) dG_mode_11 (by decide) ?_
  refine jm_icmp_eq (pc := 12) (tgt := 19) dG_mode_12 (by decide) (fun h12 => ?_) (fun h12 => ?_)
  · exact absurd h12 (fun z => nI_pos (n := md j) (by omega) (by rw [z]; decide))
  · refine jm_aload_n (pc := 15) dG_mode_15 rfl ?_
    refine jm_callV (pc := 16) (c_G_forgetOrdering (d := d - 1)) fG_forgetOrdering vG_forgetOrdering cG_62 dG_mode_16 rfl rfl rfl rfl (by omega) ⟨Nat.le_refl _, Nat.le_refl _⟩ rfl (Nat.le_of_ble_eq_true rfl) (fun v s2 hq => ?_)
    obtain ⟨rfl, rfl⟩ := hq
    refine jm_iload_n (pc := 19) dG_mode_19 rfl ?_
    refine jm_iret (pc := 20) dG_mode_20 rfl ⟨Nat.le_refl _, Nat.le_refl _⟩ ?_
    exact ⟨rfl, rfl⟩
set_option maxRecDepth 100000 in
set_option maxHeartbeats 4000000 in
theorem c_G_mode_n {np : Nat} {ar md : Nat → Nat} {ou : Nat → Nat → Int32} {x : Int32} (ou2 : Int32) (hF : CF st) (hp : pR st np ar md ou) (hx : ¬ moP np md x) (hd : 2 ≤ d) : MC l D mG_mode d 0 0 [vR (some (4, 0)), vI x, vI ou2] st (fun v s' => v = some (vI (-1)) ∧ st = s') := by
  refine jm_start (ls0 := [some (vR (some (4, 0))), some (vI x), some (vI ou2), none]) (by decide) (Nat.le_of_ble_eq_true rfl) rfl ?_
  obtain ⟨k0_, k1_, k2_, k3_, k4_, k5_, k6_⟩ := hF
  refine jm_aload_n (pc := 0) dG_mode_0 rfl ?_
  refine jm_getq (pc := 1) lG_10 dG_mode_1 rfl rfl (k0_) ?_
  refine jm_iload_n (pc := 4) dG_mode_4 rfl ?_
  refine jm_iload_n (pc := 5) dG_mode_5 rfl ?_
  refine jm_callV (pc := 6) (c_P_defineMode_n (d := d - 1) ou2 hp hx (by omega)) fP_defineMode vP_defineMode cG_58 dG_mode_6 rfl rfl rfl rfl (by omega) ⟨Nat.le_refl _, Nat.le_refl _⟩ rfl (Nat.le_of_ble_eq_true rfl) (fun v s2 hq => ?_)
  obtain ⟨rfl, rfl⟩ := hq
  refine jm_istore_n (pc := 9) dG_mode_9 (by decide) ?_
  refine jm_iload_n (pc := 10) dG_mode_10 rfl ?_
  refine jm_iconst (pc := 11) (v := -1) dG_mode_11 (by decide) ?_
  refine jm_icmp_eq (pc := 12) (tgt := 19) dG_mode_12 (by decide) (fun h12 => ?_) (fun h12 => ?_)
  · refine jm_iload_n (pc := 19) dG_mode_19 rfl ?_
    refine jm_iret (pc := 20) dG_mode_20 rfl ⟨Nat.le_refl _, Nat.le_refl _⟩ ?_
    exact ⟨rfl, rfl⟩
  · exact absurd rfl h12
set_option maxRecDepth 100000 in
set_option maxHeartbeats 4000000 in
theorem c_G_put {rm : Nat} (x : Int32) (hF : CF st) (hr : st.1 4 0 4 = nI rm) (hr7 : rm ≤ 7) (hd : 1 ≤ d) : MC l D mG_put d 0 0 [vR (some (4, 0)), vI x] st (fun v s' => v = some (vI (jb (rm < 7 ∧ isV x))) ∧ s' = (if rm < 7 ∧ isV x then sI (sI st 11 0 rm x) 4 0 4 (nI (rm + 1)) else st)) := by
  refine jm_start (ls0 := [some (vR (some (4, 0))), some (vI x)]) (by decide) (Nat.le_of_ble_eq_true rfl) rfl ?_
  obtain ⟨k0_, k1_, k2_, k3_, k4_, k5_, k6_⟩ := hF
  refine jm_aload_n (pc := 0) dG_put_0 rfl ?_
  refine jm_geti (pc := 1) lG_36 dG_put_1 rfl (fun _ => rfl) ?_
  rw [hr]
  refine jm_bipush (pc := 4) (v := 7) dG_put_4 (by decide) ?_
  refine jm_icmp_ge (pc := 6) (tgt := 16) dG_put_6 (by decide) (fun h6 => ?_) (fun h6 => ?_)
  · refine jm_iconst (pc := 16) (v := 0) dG_put_16 (by decide) ?_
    refine jm_zret (pc := 17) dG_put_17 rfl (by first | exact Or.inl rfl | exact Or.inr rfl | assumption) ⟨Nat.le_refl _, Nat.le_refl _⟩ ?_
    have hn : ¬ (rm < 7 ∧ isV x) := fun q => by
      first
        | exact absurd h6 (nI_ge q.1 (by decide))
        | exact jb_eq0 h13 q.2
    exact ⟨by rw [jb_f hn], by rw [if_neg hn]⟩
  · refine jm_iload_n (pc := 9) dG_put_9 rfl ?_
    refine jm_callS (pc := 10) (c_G_isVariable (d := d - 1) x) fG_isVariable sG_isVariable cG_68 dG_put_10 rfl (by omega) ⟨Nat.le_refl _, Nat.le_refl _⟩ rfl (Nat.le_of_ble_eq_true rfl) (fun v s2 hq => ?_)
    obtain ⟨rfl, rfl⟩ := hq
    refine jm_if_ne (pc := 13) (tgt := 18) dG_put_13 (by decide) (fun h13 => ?_) (fun h13 => ?_)
    · have hy : rm < 7 ∧ isV x := ⟨Nat.lt_of_not_le (fun q => h6 (nI_le q (by omega))), jb_ne0 h13⟩
      refine jm_aload_n (pc := 18) dG_put_18 rfl ?_
      refine jm_getq (pc := 19) lG_32 dG_put_19 rfl rfl (k3_) ?_
      refine jm_aload_n (pc := 22) dG_put_22 rfl ?_
      refine jm_geti (pc := 23) lG_36 dG_put_23 rfl (fun _ => rfl) ?_
      rw [hr]
      refine jm_iload_n (pc := 26) dG_put_26 rfl ?_
      refine jm_iast (pc := 27) dG_put_27 rfl (by decide) rfl (fun _ => rfl) ?hin ?_
      case hin =>
        exact vp_in_nI (N := 7) (by omega) (by decide)
      rw [nI_clamp (by omega)]
      refine jm_aload_n (pc := 28) dG_put_28 rfl ?_
      refine jm_dup (pc := 29) dG_put_29 rfl ?_
      refine jm_geti (pc := 30) lG_36 dG_put_30 rfl (fun _ => rfl) ?_
      rw [show (sI st 11 0 rm x).1 4 0 4 = nI rm from (sI_ne (by omega)).trans hr]
      refine jm_iconst (pc := 33) (v := 1) dG_put_33 (by decide) ?_
      refine jm_iadd (pc := 34) dG_put_34 ?_
      rw [show nI rm + 1 = nI (rm + 1) from nI_1 rm]
      refine jm_puti (pc := 35) pG_put_36 dG_put_35 rfl rfl ?_
      refine jm_iconst (pc := 38) (v := 1) dG_put_38 (by decide) ?_
      refine jm_zret (pc := 39) dG_put_39 rfl (by first | exact Or.inl rfl | exact Or.inr rfl | assumption) ⟨Nat.le_refl _, Nat.le_refl _⟩ ?_
      exact ⟨by rw [jb_t hy], by rw [if_pos hy]⟩
    · refine jm_iconst (pc := 16) (v := 0) dG_put_16 (by decide) ?_
      refine jm_zret (pc := 17) dG_put_17 rfl (by first | exact Or.inl rfl | exact Or.inr rfl | assumption) ⟨Nat.le_refl _, Nat.le_refl _⟩ ?_
      have hn : ¬ (rm < 7 ∧ isV x) := fun q => by
        first
          | exact absurd h6 (nI_ge q.1 (by decide))
          | exact jb_eq0 h13 q.2
      exact ⟨by rw [jb_f hn], by rw [if_neg hn]⟩
set_option maxRecDepth 100000 in
set_option maxHeartbeats 4000000 in
theorem c_G_given (x b : Int32) {S : Int64} (hS : st.2.1 4 0 5 = S) (hd : 1 ≤ d) : MC l D mG_given d 0 0 [vR (some (4, 0)), vI x, vI b] st (fun v s' => v = some (vI (jb (isV x ∧ ¬ jb (¬ hB S x = 0) = b))) ∧ s' = (if isV x ∧ ¬ jb (¬ hB S x = 0) = b then fgt (sL st 4 0 5 (S ^^^ ((1 : Int64) <<< (x.toInt64 &&& 63)))) else st)) := by
  refine jm_start (ls0 := [some (vR (some (4, 0))), some (vI x), some (vI b)]) (by decide) (Nat.le_of_ble_eq_true rfl) rfl ?_
  refine jm_iload_n (pc := 0) dG_given_0 rfl ?_
  refine jm_callS (pc := 1) (c_G_isVariable (d := d - 1) x) fG_isVariable sG_isVariable cG_68 dG_given_1 rfl (by omega) ⟨Nat.le_refl _, Nat.le_refl _⟩ rfl (Nat.le_of_ble_eq_true rfl) (fun v s2 hq => ?_)
  obtain ⟨rfl, rfl⟩ := hq
  refine jm_if_eq (pc := 4) (tgt := 19) dG_given_4 (by decide) (fun h4 => ?_) (fun h4 => ?_)
  · refine jm_iconst (pc := 19) (v := 0) dG_given_19 (by decide) ?_
    refine jm_zret (pc := 20) dG_given_20 rfl (by first | exact Or.inl rfl | exact Or.inr rfl | assumption) ⟨Nat.le_refl _, Nat.le_refl _⟩ ?_
    have hn : ¬ (isV x ∧ ¬ jb (¬ hB S x = 0) = b) := fun q => by
      first
        | exact jb_eq0 h4 q.1
        | exact q.2 h16
    exact ⟨by rw [jb_f hn], by rw [if_neg hn]⟩
  · refine jm_aload_n (pc := 7) dG_given_7 rfl ?_
    refine jm_getl (pc := 8) lG_40 dG_given_8 rfl (fun _ => rfl) ?_
    rw [hS]
    refine jm_iload_n (pc := 11) dG_given_11 rfl ?_
    refine jm_callS (pc := 12) (c_G_holds (d := d - 1) _ x) fG_holds sG_holds cG_93 dG_given_12 rfl (by omega) ⟨Nat.le_refl _, Nat.le_refl _⟩ rfl (Nat.le_of_ble_eq_true rfl) (fun v s2 hq => ?_)
    obtain ⟨rfl, rfl⟩ := hq
    refine jm_iload_n (pc := 15) dG_given_15 rfl ?_
    refine jm_icmp_ne (pc := 16) (tgt := 21) dG_given_16 (by decide) (fun h16 => ?_) (fun h16 => ?_)
    · have hy : isV x ∧ ¬ jb (¬ hB S x = 0) = b := ⟨jb_ne0 h4, h16⟩
      refine jm_aload_n (pc := 21) dG_given_21 rfl ?_
      refine jm_dup (pc := 22) dG_given_22 rfl ?_
      refine jm_getl (pc := 23) lG_40 dG_given_23 rfl (fun _ => rfl) ?_
      rw [hS]
      refine jm_lconst (pc := 26) (v := 1) dG_given_26 (by decide) ?_
      refine jm_iload_n (pc := 27) dG_given_27 rfl ?_
      refine jm_lshl (pc := 28) dG_given_28 ?_
      refine jm_lxor (pc := 29) dG_given_29 ?_
      refine jm_putl (pc := 30) pG_given_40 dG_given_30 rfl rfl ?_
      refine jm_aload_n (pc := 33) dG_given_33 rfl ?_
      refine jm_callV (pc := 34) (c_G_forgetOrdering (d := d - 1)) fG_forgetOrdering vG_forgetOrdering cG_62 dG_given_34 rfl rfl rfl rfl (by omega) ⟨Nat.le_refl _, Nat.le_refl _⟩ rfl (Nat.le_of_ble_eq_true rfl) (fun v s2 hq => ?_)
      obtain ⟨rfl, rfl⟩ := hq
      refine jm_iconst (pc := 37) (v := 1) dG_given_37 (by decide) ?_
      refine jm_zret (pc := 38) dG_given_38 rfl (by first | exact Or.inl rfl | exact Or.inr rfl | assumption) ⟨Nat.le_refl _, Nat.le_refl _⟩ ?_
      exact ⟨by rw [jb_t hy], by rw [if_pos hy]⟩
    · refine jm_iconst (pc := 19) (v := 0) dG_given_19 (by decide) ?_
      refine jm_zret (pc := 20) dG_given_20 rfl (by first | exact Or.inl rfl | exact Or.inr rfl | assumption) ⟨Nat.le_refl _, Nat.le_refl _⟩ ?_
      have hn : ¬ (isV x ∧ ¬ jb (¬ hB S x = 0) = b) := fun q => by
        first
          | exact jb_eq0 h4 q.1
          | exact q.2 h16
      exact ⟨by rw [jb_f hn], by rw [if_neg hn]⟩
set_option maxRecDepth 100000 in
set_option maxHeartbeats 4000000 in
theorem c_G_wanted (x b : Int32) {S : Int64} (hS : st.2.1 4 0 6 = S) (hd : 1 ≤ d) : MC l D mG_wanted d 0 0 [vR (some (4, 0)), vI x, vI b] st (fun v s' => v = some (vI (jb (isV x ∧ ¬ jb (¬ hB S x = 0) = b))) ∧ s' = (if isV x ∧ ¬ jb (¬ hB S x = 0) = b then fgt (sL st 4 0 6 (S ^^^ ((1 : Int64) <<< (x.toInt64 &&& 63)))) else st)) := by
  refine jm_start (ls0 := [some (vR (some (4, 0))), some (vI x), some (vI b)]) (by decide) (Nat.le_of_ble_eq_true rfl) rfl ?_
  refine jm_iload_n (pc := 0) dG_wanted_0 rfl ?_
  refine jm_callS (pc := 1) (c_G_isVariable (d := d - 1) x) fG_isVariable sG_isVariable cG_68 dG_wanted_1 rfl (by omega) ⟨Nat.le_refl _, Nat.le_refl _⟩ rfl (Nat.le_of_ble_eq_true rfl) (fun v s2 hq => ?_)
  obtain ⟨rfl, rfl⟩ := hq
  refine jm_if_eq (pc := 4) (tgt := 19) dG_wanted_4 (by decide) (fun h4 => ?_) (fun h4 => ?_)
  · refine jm_iconst (pc := 19) (v := 0) dG_wanted_19 (by decide) ?_
    refine jm_zret (pc := 20) dG_wanted_20 rfl (by first | exact Or.inl rfl | exact Or.inr rfl | assumption) ⟨Nat.le_refl _, Nat.le_refl _⟩ ?_
    have hn : ¬ (isV x ∧ ¬ jb (¬ hB S x = 0) = b) := fun q => by
      first
        | exact jb_eq0 h4 q.1
        | exact q.2 h16
    exact ⟨by rw [jb_f hn], by rw [if_neg hn]⟩
  · refine jm_aload_n (pc := 7) dG_wanted_7 rfl ?_
    refine jm_getl (pc := 8) lG_44 dG_wanted_8 rfl (fun _ => rfl) ?_
    rw [hS]
    refine jm_iload_n (pc := 11) dG_wanted_11 rfl ?_
    refine jm_callS (pc := 12) (c_G_holds (d := d - 1) _ x) fG_holds sG_holds cG_93 dG_wanted_12 rfl (by omega) ⟨Nat.le_refl _, Nat.le_refl _⟩ rfl (Nat.le_of_ble_eq_true rfl) (fun v s2 hq => ?_)
    obtain ⟨rfl, rfl⟩ := hq
    refine jm_iload_n (pc := 15) dG_wanted_15 rfl ?_
    refine jm_icmp_ne (pc := 16) (tgt := 21) dG_wanted_16 (by decide) (fun h16 => ?_) (fun h16 => ?_)
    · have hy : isV x ∧ ¬ jb (¬ hB S x = 0) = b := ⟨jb_ne0 h4, h16⟩
      refine jm_aload_n (pc := 21) dG_wanted_21 rfl ?_
      refine jm_dup (pc := 22) dG_wanted_22 rfl ?_
      refine jm_getl (pc := 23) lG_44 dG_wanted_23 rfl (fun _ => rfl) ?_
      rw [hS]
      refine jm_lconst (pc := 26) (v := 1) dG_wanted_26 (by decide) ?_
      refine jm_iload_n (pc := 27) dG_wanted_27 rfl ?_
      refine jm_lshl (pc := 28) dG_wanted_28 ?_
      refine jm_lxor (pc := 29) dG_wanted_29 ?_
      refine jm_putl (pc := 30) pG_wanted_44 dG_wanted_30 rfl rfl ?_
      refine jm_aload_n (pc := 33) dG_wanted_33 rfl ?_
      refine jm_callV (pc := 34) (c_G_forgetOrdering (d := d - 1)) fG_forgetOrdering vG_forgetOrdering cG_62 dG_wanted_34 rfl rfl rfl rfl (by omega) ⟨Nat.le_refl _, Nat.le_refl _⟩ rfl (Nat.le_of_ble_eq_true rfl) (fun v s2 hq => ?_)
      obtain ⟨rfl, rfl⟩ := hq
      refine jm_iconst (pc := 37) (v := 1) dG_wanted_37 (by decide) ?_
      refine jm_zret (pc := 38) dG_wanted_38 rfl (by first | exact Or.inl rfl | exact Or.inr rfl | assumption) ⟨Nat.le_refl _, Nat.le_refl _⟩ ?_
      exact ⟨by rw [jb_t hy], by rw [if_pos hy]⟩
    · refine jm_iconst (pc := 19) (v := 0) dG_wanted_19 (by decide) ?_
      refine jm_zret (pc := 20) dG_wanted_20 rfl (by first | exact Or.inl rfl | exact Or.inr rfl | assumption) ⟨Nat.le_refl _, Nat.le_refl _⟩ ?_
      have hn : ¬ (isV x ∧ ¬ jb (¬ hB S x = 0) = b) := fun q => by
        first
          | exact jb_eq0 h4 q.1
          | exact q.2 h16
      exact ⟨by rw [jb_f hn], by rw [if_neg hn]⟩
set_option maxRecDepth 100000 in
set_option maxHeartbeats 4000000 in
theorem c_G_stuck   : MC l D mG_stuck d 0 0 [vR (some (4, 0))] st (fun v s' => v = some (vI (st.1 4 0 8)) ∧ st = s') := by
  refine jm_start (ls0 := [some (vR (some (4, 0)))]) (by decide) (Nat.le_of_ble_eq_true rfl) rfl ?_
  refine jm_aload_n (pc := 0) dG_stuck_0 rfl ?_
  refine jm_geti (pc := 1) lG_51 dG_stuck_1 rfl (fun _ => rfl) ?_
  refine jm_iret (pc := 4) dG_stuck_4 rfl ⟨Nat.le_refl _, Nat.le_refl _⟩ ?_
  exact ⟨rfl, rfl⟩
set_option maxRecDepth 100000 in
set_option maxHeartbeats 4000000 in
theorem c_T_find_n {n : Nat} {x : Int32} (hc : st.1 2 0 2 = nI n) (hx : ¬ isN n x) : MC l D mT_find d 0 0 [vR (some (2, 0)), vI x] st (fun v s' => v = some (vR none) ∧ st = s') := by
  refine jm_start (ls0 := [some (vR (some (2, 0))), some (vI x)]) (by decide) (Nat.le_of_ble_eq_true rfl) rfl ?_
  refine jm_iload_n (pc := 0) dT_find_0 rfl ?_
  refine jm_if_lt (pc := 1) (tgt := 21) dT_find_1 (by decide) (fun h1 => ?_) (fun h1 => ?_)
  · refine jm_null (pc := 21) dT_find_21 ?_
    refine jm_aret (pc := 22) dT_find_22 rfl ⟨Nat.le_refl _, Nat.le_refl _⟩ ?_
    exact ⟨rfl, rfl⟩
  · refine jm_iload_n (pc := 4) dT_find_4 rfl ?_
    refine jm_aload_n (pc := 5) dT_find_5 rfl ?_
    refine jm_geti (pc := 6) lT_31 dT_find_6 rfl (fun _ => rfl) ?_
    rw [hc]
    refine jm_icmp_ge (pc := 9) (tgt := 21) dT_find_9 (by decide) (fun h9 => ?_) (fun h9 => ?_)
    · refine jm_null (pc := 21) dT_find_21 ?_
      refine jm_aret (pc := 22) dT_find_22 rfl ⟨Nat.le_refl _, Nat.le_refl _⟩ ?_
      exact ⟨rfl, rfl⟩
    · exact absurd ⟨h1, h9⟩ hx
set_option maxRecDepth 100000 in
set_option maxHeartbeats 4000000 in
theorem c_T_find {E : EE} {i : Nat} (hc : st.1 2 0 2 = nI (eN E)) (hF : CF st) (hA : CA E st) (hi : i < eN E) : MC l D mT_find d 0 0 [vR (some (2, 0)), vI (nI i)] st (fun v s' => v = some (vR (some (0, i))) ∧ st = s') := by
  refine jm_start (ls0 := [some (vR (some (2, 0))), some (vI (nI i))]) (by decide) (Nat.le_of_ble_eq_true rfl) rfl ?_
  obtain ⟨k0_, k1_, k2_, k3_, k4_, k5_, k6_⟩ := hF
  have h250 : eN E ≤ 250 := Nat.le_trans hA.1 hA.2.1
  have ei : st.2.2.1 10 0 i = some i := by rw [hA.2.2.2.1 i (by omega), if_pos (by have := hA.1; omega)]
  refine jm_iload_n (pc := 0) dT_find_0 rfl ?_
  refine jm_if_lt (pc := 1) (tgt := 21) dT_find_1 (by decide) (fun h1 => ?_) (fun h1 => ?_)
  · first
      | exact absurd h1 (nI_pos (by omega))
      | exact absurd h9 (nI_ge hi (by omega))
  · refine jm_iload_n (pc := 4) dT_find_4 rfl ?_
    refine jm_aload_n (pc := 5) dT_find_5 rfl ?_
    refine jm_geti (pc := 6) lT_31 dT_find_6 rfl (fun _ => rfl) ?_
    rw [hc]
    refine jm_icmp_ge (pc := 9) (tgt := 21) dT_find_9 (by decide) (fun h9 => ?_) (fun h9 => ?_)
    · first
        | exact absurd h1 (nI_pos (by omega))
        | exact absurd h9 (nI_ge hi (by omega))
    · refine jm_aload_n (pc := 12) dT_find_12 rfl ?_
      refine jm_getq (pc := 13) lT_20 dT_find_13 rfl rfl (k6_) ?_
      refine jm_iload_n (pc := 16) dT_find_16 rfl ?_
      refine jm_aald (pc := 17) dT_find_17 rfl (by decide) rfl (fun _ => rfl) ?hin ?_
      case hin =>
        exact vp_in_nI (N := 250) (by omega) (by decide)
      rw [nI_clamp (by omega), ei]
      refine jm_goto (pc := 18) (tgt := 22) dT_find_18 (by decide) ?_
      refine jm_aret (pc := 22) dT_find_22 rfl ⟨Nat.le_refl _, Nat.le_refl _⟩ ?_
      exact ⟨rfl, rfl⟩
set_option maxRecDepth 100000 in
set_option maxHeartbeats 4000000 in
theorem c_T_isFull {n : Nat} (hc : st.1 2 0 2 = nI n) (hn : n ≤ 250) : MC l D mT_isFull d 0 0 [vR (some (2, 0))] st (fun v s' => st = s' ∧ v = some (vI (jb (250 ≤ n)))) := by
  refine jm_start (ls0 := [some (vR (some (2, 0)))]) (by decide) (Nat.le_of_ble_eq_true rfl) rfl ?_
  refine jm_aload_n (pc := 0) dT_isFull_0 rfl ?_
  refine jm_geti (pc := 1) lT_31 dT_isFull_1 rfl (fun _ => rfl) ?_
  rw [hc]
  refine jm_sipush (pc := 4) (v := 250) dT_isFull_4 (by decide) ?_
  refine jm_icmp_lt (pc := 7) (tgt := 14) dT_isFull_7 (by decide) (fun h7 => ?_) (fun h7 => ?_)
  · refine jm_iconst (pc := 14) (v := 0) dT_isFull_14 (by decide) ?_
    refine jm_zret (pc := 15) dT_isFull_15 rfl (by first | exact Or.inl rfl | exact Or.inr rfl | assumption) ⟨Nat.le_refl _, Nat.le_refl _⟩ ?_
    refine ⟨rfl, ?_⟩
    first | exact jbf (fun q => nI_nlt q (by omega) h7) | exact jbt (Nat.le_of_not_lt fun q => h7 (nI_lt q (by decide)))
  · refine jm_iconst (pc := 10) (v := 1) dT_isFull_10 (by decide) ?_
    refine jm_goto (pc := 11) (tgt := 15) dT_isFull_11 (by decide) ?_
    refine jm_zret (pc := 15) dT_isFull_15 rfl (by first | exact Or.inl rfl | exact Or.inr rfl | assumption) ⟨Nat.le_refl _, Nat.le_refl _⟩ ?_
    refine ⟨rfl, ?_⟩
    first | exact jbf (fun q => nI_nlt q (by omega) h7) | exact jbt (Nat.le_of_not_lt fun q => h7 (nI_lt q (by decide)))
set_option maxRecDepth 100000 in
set_option maxHeartbeats 4000000 in
theorem c_N_isAtom {i s : Nat} (hs : st.1 0 i 3 = nI s) (hs12 : s ≤ 12) : MC l D mN_isAtom d 0 0 [vR (some (0, i))] st (fun v s' => st = s' ∧ v = some (vI (jb (3 < s)))) := by
  refine jm_start (ls0 := [some (vR (some (0, i)))]) (by decide) (Nat.le_of_ble_eq_true rfl) rfl ?_
  refine jm_aload_n (pc := 0) dN_isAtom_0 rfl ?_
  refine jm_geti (pc := 1) lN_19 dN_isAtom_1 rfl (fun _ => rfl) ?_
  rw [hs]
  refine jm_iconst (pc := 4) (v := 3) dN_isAtom_4 (by decide) ?_
  refine jm_icmp_le (pc := 5) (tgt := 12) dN_isAtom_5 (by decide) (fun h5 => ?_) (fun h5 => ?_)
  · refine jm_iconst (pc := 12) (v := 0) dN_isAtom_12 (by decide) ?_
    refine jm_zret (pc := 13) dN_isAtom_13 rfl (by first | exact Or.inl rfl | exact Or.inr rfl | assumption) ⟨Nat.le_refl _, Nat.le_refl _⟩ ?_
    refine ⟨rfl, ?_⟩
    first | exact jbf (fun q => nI_ge q (by omega) h5) | exact jbt (Nat.lt_of_not_le fun q => h5 (nI_le q (by decide)))
  · refine jm_iconst (pc := 8) (v := 1) dN_isAtom_8 (by decide) ?_
    refine jm_goto (pc := 9) (tgt := 13) dN_isAtom_9 (by decide) ?_
    refine jm_zret (pc := 13) dN_isAtom_13 rfl (by first | exact Or.inl rfl | exact Or.inr rfl | assumption) ⟨Nat.le_refl _, Nat.le_refl _⟩ ?_
    refine ⟨rfl, ?_⟩
    first | exact jbf (fun q => nI_ge q (by omega) h5) | exact jbt (Nat.lt_of_not_le fun q => h5 (nI_le q (by decide)))
abbrev tkP (E : EE) (i : Nat) : Prop := eS E i ≤ 3 ∧ eD E i < 20 ∧ ¬ (eS E i = 2 ∧ 1 ≤ (eK E i).length) ∧ ¬ (eS E i = 3 ∧ 3 ≤ (eK E i).length)
set_option maxRecDepth 100000 in
set_option maxHeartbeats 4000000 in
theorem c_N_takesPart {E : EE} {i : Nat} (hT : TR E) (hi : i < eN E) (hs : st.1 0 i 3 = nI (eS E i)) (hD : st.1 0 i 5 = nI (eD E i)) (hK : st.1 0 i 6 = nI (eK E i).length) (hd : 1 ≤ d) : MC l D mN_takesPart d 0 0 [vR (some (0, i))] st (fun v s' => st = s' ∧ v = some (vI (jb (tkP E i)))) := by
  refine jm_start (ls0 := [some (vR (some (0, i)))]) (by decide) (Nat.le_of_ble_eq_true rfl) rfl ?_
  have q1 := (hT.2.2 i hi).1
  have q2 := (hT.2.2 i hi).2.1
  have q3 := eK_len hT hi
  refine jm_aload_n (pc := 0) dN_takesPart_0 rfl ?_
  refine jm_callV (pc := 1) (c_N_isAtom (d := d - 1) hs q1) fN_isAtom vN_isAtom cN_54 dN_takesPart_1 rfl rfl rfl rfl (by omega) ⟨Nat.le_refl _, Nat.le_refl _⟩ rfl (Nat.le_of_ble_eq_true rfl) (fun v s2 hq => ?_)
  obtain ⟨rfl, rfl⟩ := hq
  refine jm_if_ne (pc := 4) (tgt := 16) dN_takesPart_4 (by decide) (fun h4 => ?_) (fun h4 => ?_)
  · refine jm_iconst (pc := 16) (v := 0) dN_takesPart_16 (by decide) ?_
    refine jm_zret (pc := 17) dN_takesPart_17 rfl (by first | exact Or.inl rfl | exact Or.inr rfl | assumption) ⟨Nat.le_refl _, Nat.le_refl _⟩ ?_
    refine ⟨rfl, ?_⟩
    have z2 : nI (eS E i) = 2 → eS E i = 2 := fun z => (nI_eq (b := 2) (by omega) (by decide)).mp z
    have z3 : nI (eS E i) = 3 → eS E i = 3 := fun z => (nI_eq (b := 3) (by omega) (by decide)).mp z
    first
      | exact jbf (fun q => by have := jb_ne0 h4; have := q.1; omega)
      | exact jbf (fun q => h13 (nI_lt q.2.1 (by decide)))
      | exact jbf (fun q => q.2.2.1 ⟨z2 h23, Nat.le_of_not_lt fun w => nI_ge w (by decide) h31⟩)
      | exact jbf (fun q => q.2.2.2 ⟨z3 h39, Nat.le_of_not_lt fun w => nI_ge w (by decide) h47⟩)
      | exact jbt ⟨Nat.le_of_not_lt (jb_eq0 h4), Nat.lt_of_not_le fun w => nI_nlt w (by omega) h13, (by first | exact fun w => h23 (by rw [w.1]; rfl) | exact fun w => h31 (nI_le w.2 (by omega))), (by first | exact fun w => h39 (by rw [w.1]; rfl) | exact fun w => h47 (nI_le w.2 (by omega)))⟩
  · refine jm_aload_n (pc := 7) dN_takesPart_7 rfl ?_
    refine jm_geti (pc := 8) lN_28 dN_takesPart_8 rfl (fun _ => rfl) ?_
    rw [hD]
    refine jm_bipush (pc := 11) (v := 20) dN_takesPart_11 (by decide) ?_
    refine jm_icmp_lt (pc := 13) (tgt := 18) dN_takesPart_13 (by decide) (fun h13 => ?_) (fun h13 => ?_)
    · refine jm_aload_n (pc := 18) dN_takesPart_18 rfl ?_
      refine jm_geti (pc := 19) lN_19 dN_takesPart_19 rfl (fun _ => rfl) ?_
      rw [hs]
      refine jm_iconst (pc := 22) (v := 2) dN_takesPart_22 (by decide) ?_
      refine jm_icmp_ne (pc := 23) (tgt := 34) dN_takesPart_23 (by decide) (fun h23 => ?_) (fun h23 => ?_)
      · refine jm_aload_n (pc := 34) dN_takesPart_34 rfl ?_
        refine jm_geti (pc := 35) lN_19 dN_takesPart_35 rfl (fun _ => rfl) ?_
        rw [hs]
        refine jm_iconst (pc := 38) (v := 3) dN_takesPart_38 (by decide) ?_
        refine jm_icmp_ne (pc := 39) (tgt := 50) dN_takesPart_39 (by decide) (fun h39 => ?_) (fun h39 => ?_)
        · refine jm_iconst (pc := 50) (v := 1) dN_takesPart_50 (by decide) ?_
          refine jm_goto (pc := 51) (tgt := 55) dN_takesPart_51 (by decide) ?_
          refine jm_zret (pc := 55) dN_takesPart_55 rfl (by first | exact Or.inl rfl | exact Or.inr rfl | assumption) ⟨Nat.le_refl _, Nat.le_refl _⟩ ?_
          refine ⟨rfl, ?_⟩
          have z2 : nI (eS E i) = 2 → eS E i = 2 := fun z => (nI_eq (b := 2) (by omega) (by decide)).mp z
          have z3 : nI (eS E i) = 3 → eS E i = 3 := fun z => (nI_eq (b := 3) (by omega) (by decide)).mp z
          first
            | exact jbf (fun q => by have := jb_ne0 h4; have := q.1; omega)
            | exact jbf (fun q => h13 (nI_lt q.2.1 (by decide)))
            | exact jbf (fun q => q.2.2.1 ⟨z2 h23, Nat.le_of_not_lt fun w => nI_ge w (by decide) h31⟩)
            | exact jbf (fun q => q.2.2.2 ⟨z3 h39, Nat.le_of_not_lt fun w => nI_ge w (by decide) h47⟩)
            | exact jbt ⟨Nat.le_of_not_lt (jb_eq0 h4), Nat.lt_of_not_le fun w => nI_nlt w (by omega) h13, (by first | exact fun w => h23 (by rw [w.1]; rfl) | exact fun w => h31 (nI_le w.2 (by omega))), (by first | exact fun w => h39 (by rw [w.1]; rfl) | exact fun w => h47 (nI_le w.2 (by omega)))⟩
        · refine jm_aload_n (pc := 42) dN_takesPart_42 rfl ?_
          refine jm_geti (pc := 43) lN_31 dN_takesPart_43 rfl (fun _ => rfl) ?_
          rw [hK]
          refine jm_iconst (pc := 46) (v := 3) dN_takesPart_46 (by decide) ?_
          refine jm_icmp_ge (pc := 47) (tgt := 54) dN_takesPart_47 (by decide) (fun h47 => ?_) (fun h47 => ?_)
          · refine jm_iconst (pc := 54) (v := 0) dN_takesPart_54 (by decide) ?_
            refine jm_zret (pc := 55) dN_takesPart_55 rfl (by first | exact Or.inl rfl | exact Or.inr rfl | assumption) ⟨Nat.le_refl _, Nat.le_refl _⟩ ?_
            refine ⟨rfl, ?_⟩
            have z2 : nI (eS E i) = 2 → eS E i = 2 := fun z => (nI_eq (b := 2) (by omega) (by decide)).mp z
            have z3 : nI (eS E i) = 3 → eS E i = 3 := fun z => (nI_eq (b := 3) (by omega) (by decide)).mp z
            first
              | exact jbf (fun q => by have := jb_ne0 h4; have := q.1; omega)
              | exact jbf (fun q => h13 (nI_lt q.2.1 (by decide)))
              | exact jbf (fun q => q.2.2.1 ⟨z2 h23, Nat.le_of_not_lt fun w => nI_ge w (by decide) h31⟩)
              | exact jbf (fun q => q.2.2.2 ⟨z3 h39, Nat.le_of_not_lt fun w => nI_ge w (by decide) h47⟩)
              | exact jbt ⟨Nat.le_of_not_lt (jb_eq0 h4), Nat.lt_of_not_le fun w => nI_nlt w (by omega) h13, (by first | exact fun w => h23 (by rw [w.1]; rfl) | exact fun w => h31 (nI_le w.2 (by omega))), (by first | exact fun w => h39 (by rw [w.1]; rfl) | exact fun w => h47 (nI_le w.2 (by omega)))⟩
          · refine jm_iconst (pc := 50) (v := 1) dN_takesPart_50 (by decide) ?_
            refine jm_goto (pc := 51) (tgt := 55) dN_takesPart_51 (by decide) ?_
            refine jm_zret (pc := 55) dN_takesPart_55 rfl (by first | exact Or.inl rfl | exact Or.inr rfl | assumption) ⟨Nat.le_refl _, Nat.le_refl _⟩ ?_
            refine ⟨rfl, ?_⟩
            have z2 : nI (eS E i) = 2 → eS E i = 2 := fun z => (nI_eq (b := 2) (by omega) (by decide)).mp z
            have z3 : nI (eS E i) = 3 → eS E i = 3 := fun z => (nI_eq (b := 3) (by omega) (by decide)).mp z
            first
              | exact jbf (fun q => by have := jb_ne0 h4; have := q.1; omega)
              | exact jbf (fun q => h13 (nI_lt q.2.1 (by decide)))
              | exact jbf (fun q => q.2.2.1 ⟨z2 h23, Nat.le_of_not_lt fun w => nI_ge w (by decide) h31⟩)
              | exact jbf (fun q => q.2.2.2 ⟨z3 h39, Nat.le_of_not_lt fun w => nI_ge w (by decide) h47⟩)
              | exact jbt ⟨Nat.le_of_not_lt (jb_eq0 h4), Nat.lt_of_not_le fun w => nI_nlt w (by omega) h13, (by first | exact fun w => h23 (by rw [w.1]; rfl) | exact fun w => h31 (nI_le w.2 (by omega))), (by first | exact fun w => h39 (by rw [w.1]; rfl) | exact fun w => h47 (nI_le w.2 (by omega)))⟩
      · refine jm_aload_n (pc := 26) dN_takesPart_26 rfl ?_
        refine jm_geti (pc := 27) lN_31 dN_takesPart_27 rfl (fun _ => rfl) ?_
        rw [hK]
        refine jm_iconst (pc := 30) (v := 1) dN_takesPart_30 (by decide) ?_
        refine jm_icmp_ge (pc := 31) (tgt := 54) dN_takesPart_31 (by decide) (fun h31 => ?_) (fun h31 => ?_)
        · refine jm_iconst (pc := 54) (v := 0) dN_takesPart_54 (by decide) ?_
          refine jm_zret (pc := 55) dN_takesPart_55 rfl (by first | exact Or.inl rfl | exact Or.inr rfl | assumption) ⟨Nat.le_refl _, Nat.le_refl _⟩ ?_
          refine ⟨rfl, ?_⟩
          have z2 : nI (eS E i) = 2 → eS E i = 2 := fun z => (nI_eq (b := 2) (by omega) (by decide)).mp z
          have z3 : nI (eS E i) = 3 → eS E i = 3 := fun z => (nI_eq (b := 3) (by omega) (by decide)).mp z
          first
            | exact jbf (fun q => by have := jb_ne0 h4; have := q.1; omega)
            | exact jbf (fun q => h13 (nI_lt q.2.1 (by decide)))
            | exact jbf (fun q => q.2.2.1 ⟨z2 h23, Nat.le_of_not_lt fun w => nI_ge w (by decide) h31⟩)
            | exact jbf (fun q => q.2.2.2 ⟨z3 h39, Nat.le_of_not_lt fun w => nI_ge w (by decide) h47⟩)
            | exact jbt ⟨Nat.le_of_not_lt (jb_eq0 h4), Nat.lt_of_not_le fun w => nI_nlt w (by omega) h13, (by first | exact fun w => h23 (by rw [w.1]; rfl) | exact fun w => h31 (nI_le w.2 (by omega))), (by first | exact fun w => h39 (by rw [w.1]; rfl) | exact fun w => h47 (nI_le w.2 (by omega)))⟩
        · refine jm_aload_n (pc := 34) dN_takesPart_34 rfl ?_
          refine jm_geti (pc := 35) lN_19 dN_takesPart_35 rfl (fun _ => rfl) ?_
          rw [hs]
          refine jm_iconst (pc := 38) (v := 3) dN_takesPart_38 (by decide) ?_
          refine jm_icmp_ne (pc := 39) (tgt := 50) dN_takesPart_39 (by decide) (fun h39 => ?_) (fun h39 => ?_)
          · refine jm_iconst (pc := 50) (v := 1) dN_takesPart_50 (by decide) ?_
            refine jm_goto (pc := 51) (tgt := 55) dN_takesPart_51 (by decide) ?_
            refine jm_zret (pc := 55) dN_takesPart_55 rfl (by first | exact Or.inl rfl | exact Or.inr rfl | assumption) ⟨Nat.le_refl _, Nat.le_refl _⟩ ?_
            refine ⟨rfl, ?_⟩
            have z2 : nI (eS E i) = 2 → eS E i = 2 := fun z => (nI_eq (b := 2) (by omega) (by decide)).mp z
            have z3 : nI (eS E i) = 3 → eS E i = 3 := fun z => (nI_eq (b := 3) (by omega) (by decide)).mp z
            first
              | exact jbf (fun q => by have := jb_ne0 h4; have := q.1; omega)
              | exact jbf (fun q => h13 (nI_lt q.2.1 (by decide)))
              | exact jbf (fun q => q.2.2.1 ⟨z2 h23, Nat.le_of_not_lt fun w => nI_ge w (by decide) h31⟩)
              | exact jbf (fun q => q.2.2.2 ⟨z3 h39, Nat.le_of_not_lt fun w => nI_ge w (by decide) h47⟩)
              | exact jbt ⟨Nat.le_of_not_lt (jb_eq0 h4), Nat.lt_of_not_le fun w => nI_nlt w (by omega) h13, (by first | exact fun w => h23 (by rw [w.1]; rfl) | exact fun w => h31 (nI_le w.2 (by omega))), (by first | exact fun w => h39 (by rw [w.1]; rfl) | exact fun w => h47 (nI_le w.2 (by omega)))⟩
          · refine jm_aload_n (pc := 42) dN_takesPart_42 rfl ?_
            refine jm_geti (pc := 43) lN_31 dN_takesPart_43 rfl (fun _ => rfl) ?_
            rw [hK]
            refine jm_iconst (pc := 46) (v := 3) dN_takesPart_46 (by decide) ?_
            refine jm_icmp_ge (pc := 47) (tgt := 54) dN_takesPart_47 (by decide) (fun h47 => ?_) (fun h47 => ?_)
            · refine jm_iconst (pc := 54) (v := 0) dN_takesPart_54 (by decide) ?_
              refine jm_zret (pc := 55) dN_takesPart_55 rfl (by first | exact Or.inl rfl | exact Or.inr rfl | assumption) ⟨Nat.le_refl _, Nat.le_refl _⟩ ?_
              refine ⟨rfl, ?_⟩
              have z2 : nI (eS E i) = 2 → eS E i = 2 := fun z => (nI_eq (b := 2) (by omega) (by decide)).mp z
              have z3 : nI (eS E i) = 3 → eS E i = 3 := fun z => (nI_eq (b := 3) (by omega) (by decide)).mp z
              first
                | exact jbf (fun q => by have := jb_ne0 h4; have := q.1; omega)
                | exact jbf (fun q => h13 (nI_lt q.2.1 (by decide)))
                | exact jbf (fun q => q.2.2.1 ⟨z2 h23, Nat.le_of_not_lt fun w => nI_ge w (by decide) h31⟩)
                | exact jbf (fun q => q.2.2.2 ⟨z3 h39, Nat.le_of_not_lt fun w => nI_ge w (by decide) h47⟩)
                | exact jbt ⟨Nat.le_of_not_lt (jb_eq0 h4), Nat.lt_of_not_le fun w => nI_nlt w (by omega) h13, (by first | exact fun w => h23 (by rw [w.1]; rfl) | exact fun w => h31 (nI_le w.2 (by omega))), (by first | exact fun w => h39 (by rw [w.1]; rfl) | exact fun w => h47 (nI_le w.2 (by omega)))⟩
            · refine jm_iconst (pc := 50) (v := 1) dN_takesPart_50 (by decide) ?_
              refine jm_goto (pc := 51) (tgt := 55) dN_takesPart_51 (by decide) ?_
              refine jm_zret (pc := 55) dN_takesPart_55 rfl (by first | exact Or.inl rfl | exact Or.inr rfl | assumption) ⟨Nat.le_refl _, Nat.le_refl _⟩ ?_
              refine ⟨rfl, ?_⟩
              have z2 : nI (eS E i) = 2 → eS E i = 2 := fun z => (nI_eq (b := 2) (by omega) (by decide)).mp z
              have z3 : nI (eS E i) = 3 → eS E i = 3 := fun z => (nI_eq (b := 3) (by omega) (by decide)).mp z
              first
                | exact jbf (fun q => by have := jb_ne0 h4; have := q.1; omega)
                | exact jbf (fun q => h13 (nI_lt q.2.1 (by decide)))
                | exact jbf (fun q => q.2.2.1 ⟨z2 h23, Nat.le_of_not_lt fun w => nI_ge w (by decide) h31⟩)
                | exact jbf (fun q => q.2.2.2 ⟨z3 h39, Nat.le_of_not_lt fun w => nI_ge w (by decide) h47⟩)
                | exact jbt ⟨Nat.le_of_not_lt (jb_eq0 h4), Nat.lt_of_not_le fun w => nI_nlt w (by omega) h13, (by first | exact fun w => h23 (by rw [w.1]; rfl) | exact fun w => h31 (nI_le w.2 (by omega))), (by first | exact fun w => h39 (by rw [w.1]; rfl) | exact fun w => h47 (nI_le w.2 (by omega)))⟩
    · refine jm_iconst (pc := 16) (v := 0) dN_takesPart_16 (by decide) ?_
      refine jm_zret (pc := 17) dN_takesPart_17 rfl (by first | exact Or.inl rfl | exact Or.inr rfl | assumption) ⟨Nat.le_refl _, Nat.le_refl _⟩ ?_
      refine ⟨rfl, ?_⟩
      have z2 : nI (eS E i) = 2 → eS E i = 2 := fun z => (nI_eq (b := 2) (by omega) (by decide)).mp z
      have z3 : nI (eS E i) = 3 → eS E i = 3 := fun z => (nI_eq (b := 3) (by omega) (by decide)).mp z
      first
        | exact jbf (fun q => by have := jb_ne0 h4; have := q.1; omega)
        | exact jbf (fun q => h13 (nI_lt q.2.1 (by decide)))
        | exact jbf (fun q => q.2.2.1 ⟨z2 h23, Nat.le_of_not_lt fun w => nI_ge w (by decide) h31⟩)
        | exact jbf (fun q => q.2.2.2 ⟨z3 h39, Nat.le_of_not_lt fun w => nI_ge w (by decide) h47⟩)
        | exact jbt ⟨Nat.le_of_not_lt (jb_eq0 h4), Nat.lt_of_not_le fun w => nI_nlt w (by omega) h13, (by first | exact fun w => h23 (by rw [w.1]; rfl) | exact fun w => h31 (nI_le w.2 (by omega))), (by first | exact fun w => h39 (by rw [w.1]; rfl) | exact fun w => h47 (nI_le w.2 (by omega)))⟩
end CG1
