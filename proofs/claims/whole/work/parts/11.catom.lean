section CAtom
variable {l : Launch} {D : mD} {d : Nat} {st : aS}
set_option maxRecDepth 100000 in
set_option maxHeartbeats 4000000 in
theorem c_P_has (x : Int32)  : MC l D mP_has d 0 0 [vR (some (1, 0)), vI x] st (fun v s' => st = s' ∧ v = some (vI (jb (¬ x < 0 ∧ ¬ st.1 1 0 3 ≤ x)))) := by
  refine jm_start (ls0 := [some (vR (some (1, 0))), some (vI x)]) (by decide) (Nat.le_of_ble_eq_true rfl) rfl ?_
  refine jm_iload_n (pc := 0) dP_has_0 rfl ?_
  refine jm_if_lt (pc := 1) (tgt := 16) dP_has_1 (by decide) (fun h1 => ?_) (fun h1 => ?_)
  · refine jm_iconst (pc := 16) (v := 0) dP_has_16 (by decide) ?_
    refine jm_zret (pc := 17) dP_has_17 rfl (by first | exact Or.inl rfl | exact Or.inr rfl | assumption) ⟨Nat.le_refl _, Nat.le_refl _⟩ ?_
    refine ⟨rfl, ?_⟩
    first | exact jbt ⟨h1, h9⟩ | exact jbf (fun q => q.1 h1) | exact jbf (fun q => q.2 h9)
  · refine jm_iload_n (pc := 4) dP_has_4 rfl ?_
    refine jm_aload_n (pc := 5) dP_has_5 rfl ?_
    refine jm_geti (pc := 6) lP_21 dP_has_6 rfl (fun _ => rfl) ?_
    refine jm_icmp_ge (pc := 9) (tgt := 16) dP_has_9 (by decide) (fun h9 => ?_) (fun h9 => ?_)
    · refine jm_iconst (pc := 16) (v := 0) dP_has_16 (by decide) ?_
      refine jm_zret (pc := 17) dP_has_17 rfl (by first | exact Or.inl rfl | exact Or.inr rfl | assumption) ⟨Nat.le_refl _, Nat.le_refl _⟩ ?_
      refine ⟨rfl, ?_⟩
      first | exact jbt ⟨h1, h9⟩ | exact jbf (fun q => q.1 h1) | exact jbf (fun q => q.2 h9)
    · refine jm_iconst (pc := 12) (v := 1) dP_has_12 (by decide) ?_
      refine jm_goto (pc := 13) (tgt := 17) dP_has_13 (by decide) ?_
      refine jm_zret (pc := 17) dP_has_17 rfl (by first | exact Or.inl rfl | exact Or.inr rfl | assumption) ⟨Nat.le_refl _, Nat.le_refl _⟩ ?_
      refine ⟨rfl, ?_⟩
      first | exact jbt ⟨h1, h9⟩ | exact jbf (fun q => q.1 h1) | exact jbf (fun q => q.2 h9)
set_option maxRecDepth 100000 in
set_option maxHeartbeats 4000000 in
theorem c_P_modesOf {np p : Nat} {ar md : Nat → Nat} {ou : Nat → Nat → Int32} (hp : pR st np ar md ou) (hpn : p < np) (hd : 1 ≤ d) : MC l D mP_modesOf d 0 0 [vR (some (1, 0)), vI (nI p)] st (fun v s' => st = s' ∧ v = some (vI (nI (md p)))) := by
  refine jm_start (ls0 := [some (vR (some (1, 0))), some (vI (nI p))]) (by decide) (Nat.le_of_ble_eq_true rfl) rfl ?_
  refine jm_aload_n (pc := 0) dP_modesOf_0 rfl ?_
  refine jm_iload_n (pc := 1) dP_modesOf_1 rfl ?_
  refine jm_callV (pc := 2) (c_P_has (d := d - 1) _) fP_has vP_has cP_25 dP_modesOf_2 rfl rfl rfl rfl (by omega) ⟨Nat.le_refl _, Nat.le_refl _⟩ rfl (Nat.le_of_ble_eq_true rfl) (fun v s2 hq => ?_)
  obtain ⟨rfl, rfl⟩ := hq
  refine jm_if_eq (pc := 5) (tgt := 17) dP_modesOf_5 (by decide) (fun h5 => ?_) (fun h5 => ?_)
  · exact absurd ⟨nI_pos (by have := hp.2.2.2.2.1; omega), by rw [hp.2.2.2.1]; exact nI_ge hpn (by have := hp.2.2.2.2.1; omega)⟩ (jb_eq0 h5)
  · refine jm_aload_n (pc := 8) dP_modesOf_8 rfl ?_
    refine jm_getq (pc := 9) lP_15 dP_modesOf_9 rfl rfl (hp.2.1) ?_
    refine jm_iload_n (pc := 12) dP_modesOf_12 rfl ?_
    refine jm_iald (pc := 13) dP_modesOf_13 rfl (by decide) rfl (fun _ => rfl) ?hin ?_
    case hin =>
      exact vp_in_nI (N := 60) (by have := hp.2.2.2.2.1; omega) (by decide)
    refine jm_goto (pc := 14) (tgt := 18) dP_modesOf_14 (by decide) ?_
    refine jm_iret (pc := 18) dP_modesOf_18 rfl ⟨Nat.le_refl _, Nat.le_refl _⟩ ?_
    exact ⟨rfl, by rw [nI_clamp (by have := hp.2.2.2.2.1; omega), (hp.2.2.2.2.2.1 p hpn).2.2.1]⟩
set_option maxRecDepth 100000 in
set_option maxHeartbeats 4000000 in
theorem c_P_argumentsOf {np p : Nat} {ar md : Nat → Nat} {ou : Nat → Nat → Int32} (hp : pR st np ar md ou) (hpn : p < np) (hd : 1 ≤ d) : MC l D mP_argumentsOf d 0 0 [vR (some (1, 0)), vI (nI p)] st (fun v s' => st = s' ∧ v = some (vI (nI (ar p)))) := by
  refine jm_start (ls0 := [some (vR (some (1, 0))), some (vI (nI p))]) (by decide) (Nat.le_of_ble_eq_true rfl) rfl ?_
  refine jm_aload_n (pc := 0) dP_argumentsOf_0 rfl ?_
  refine jm_iload_n (pc := 1) dP_argumentsOf_1 rfl ?_
  refine jm_callV (pc := 2) (c_P_has (d := d - 1) _) fP_has vP_has cP_25 dP_argumentsOf_2 rfl rfl rfl rfl (by omega) ⟨Nat.le_refl _, Nat.le_refl _⟩ rfl (Nat.le_of_ble_eq_true rfl) (fun v s2 hq => ?_)
  obtain ⟨rfl, rfl⟩ := hq
  refine jm_if_eq (pc := 5) (tgt := 17) dP_argumentsOf_5 (by decide) (fun h5 => ?_) (fun h5 => ?_)
  · exact absurd ⟨nI_pos (by have := hp.2.2.2.2.1; omega), by rw [hp.2.2.2.1]; exact nI_ge hpn (by have := hp.2.2.2.2.1; omega)⟩ (jb_eq0 h5)
  · refine jm_aload_n (pc := 8) dP_argumentsOf_8 rfl ?_
    refine jm_getq (pc := 9) lP_9 dP_argumentsOf_9 rfl rfl (hp.1) ?_
    refine jm_iload_n (pc := 12) dP_argumentsOf_12 rfl ?_
    refine jm_iald (pc := 13) dP_argumentsOf_13 rfl (by decide) rfl (fun _ => rfl) ?hin ?_
    case hin =>
      exact vp_in_nI (N := 60) (by have := hp.2.2.2.2.1; omega) (by decide)
    refine jm_goto (pc := 14) (tgt := 18) dP_argumentsOf_14 (by decide) ?_
    refine jm_iret (pc := 18) dP_argumentsOf_18 rfl ⟨Nat.le_refl _, Nat.le_refl _⟩ ?_
    exact ⟨rfl, by rw [nI_clamp (by have := hp.2.2.2.2.1; omega), (hp.2.2.2.2.2.1 p hpn).1]⟩
set_option maxRecDepth 100000 in
set_option maxHeartbeats 4000000 in
theorem c_P_outsOf {np p : Nat} {ar md : Nat → Nat} {ou : Nat → Nat → Int32} {m : Nat} (hp : pR st np ar md ou) (hpn : p < np) (hm : m < md p) (hd : 2 ≤ d) : MC l D mP_outsOf d 0 0 [vR (some (1, 0)), vI (nI p), vI (nI m)] st (fun v s' => st = s' ∧ v = some (vI (ou p m))) := by
  refine jm_start (ls0 := [some (vR (some (1, 0))), some (vI (nI p)), some (vI (nI m))]) (by decide) (Nat.le_of_ble_eq_true rfl) rfl ?_
  have hn6 := hp.2.2.2.2.1
  have hm4 := (hp.2.2.2.2.2.1 p hpn).2.2.2
  have e4 : nI p * 4 + nI m = nI (4 * p + m) := by
    have e5 : nI p * 4 = nI (p * 4) := pk_mul p 4
    rw [e5, nI_add, Nat.mul_comm]
  refine jm_iload_n (pc := 0) dP_outsOf_0 rfl ?_
  refine jm_if_lt (pc := 1) (tgt := 26) dP_outsOf_1 (by decide) (fun h1 => ?_) (fun h1 => ?_)
  · first
      | exact absurd h1 (nI_pos (by omega))
      | exact absurd h10 (nI_ge hm (by omega))
  · refine jm_iload_n (pc := 4) dP_outsOf_4 rfl ?_
    refine jm_aload_n (pc := 5) dP_outsOf_5 rfl ?_
    refine jm_iload_n (pc := 6) dP_outsOf_6 rfl ?_
    refine jm_callV (pc := 7) (c_P_modesOf (d := d - 1) hp hpn (by omega)) fP_modesOf vP_modesOf cP_29 dP_outsOf_7 rfl rfl rfl rfl (by omega) ⟨Nat.le_refl _, Nat.le_refl _⟩ rfl (Nat.le_of_ble_eq_true rfl) (fun v s2 hq => ?_)
    obtain ⟨rfl, rfl⟩ := hq
    refine jm_icmp_ge (pc := 10) (tgt := 26) dP_outsOf_10 (by decide) (fun h10 => ?_) (fun h10 => ?_)
    · first
        | exact absurd h1 (nI_pos (by omega))
        | exact absurd h10 (nI_ge hm (by omega))
    · refine jm_aload_n (pc := 13) dP_outsOf_13 rfl ?_
      refine jm_getq (pc := 14) lP_18 dP_outsOf_14 rfl rfl (hp.2.2.1) ?_
      refine jm_iload_n (pc := 17) dP_outsOf_17 rfl ?_
      refine jm_iconst (pc := 18) (v := 4) dP_outsOf_18 (by decide) ?_
      refine jm_imul (pc := 19) dP_outsOf_19 ?_
      refine jm_iload_n (pc := 20) dP_outsOf_20 rfl ?_
      refine jm_iadd (pc := 21) dP_outsOf_21 ?_
      refine jm_iald (pc := 22) dP_outsOf_22 rfl (by decide) rfl (fun _ => rfl) ?hin ?_
      case hin =>
        rw [e4]; exact vp_in_nI (N := 240) (by omega) (by decide)
      refine jm_goto (pc := 23) (tgt := 27) dP_outsOf_23 (by decide) ?_
      refine jm_iret (pc := 27) dP_outsOf_27 rfl ⟨Nat.le_refl _, Nat.le_refl _⟩ ?_
      exact ⟨rfl, by rw [e4, nI_clamp (by omega), hp.2.2.2.2.2.2.1 p m hpn hm]⟩

set_option maxRecDepth 100000 in
set_option maxHeartbeats 4000000 in
theorem lp_R_insOf {i w : Nat} {vr : Nat → Nat} {o : Int32} (hv : nV st i w vr) (hd : 1 ≤ d) : ∀ (n : Nat) (k : Nat) (x : Int32) (S : Int64), x = nI k → k ≤ w → w - k < n → insF o vr (w - k) k S = insS o w vr → MS l D mR_insOf d 0 0 (fun v s' => st = s' ∧ v = some (vL (insS o w vr))) 0 0 5 [some (vR (some (0, i))), some (vI o), some (vL S), none, some (vI x)] [] st := by
  intro n
  induction n with
  | zero =>
    intro k x S hx hk hn hS
    omega
  | succ n ih =>
    intro k x S hx hk hn hS
    refine jm_iload (pc := 5) dR_insOf_5 rfl ?_
    refine jm_aload_n (pc := 7) dR_insOf_7 rfl ?_
    refine jm_geti (pc := 8) lR_161 dR_insOf_8 rfl (fun _ => rfl) ?_
    refine jm_icmp_ge (pc := 11) (tgt := 38) dR_insOf_11 (by decide) (fun h11 => ?_) (fun h11 => ?_)
    · refine jm_lload_n (pc := 38) dR_insOf_38 rfl ?_
      refine jm_lret (pc := 39) dR_insOf_39 rfl ⟨Nat.le_refl _, Nat.le_refl _⟩ ?_
      have hkw : ¬ k < w := fun q => nI_ge q (by have := hv.2.1; omega) (by rw [hv.1, hx] at h11; exact h11)
      rw [show w - k = 0 by omega] at hS
      exact ⟨rfl, by rw [← hS]; rfl⟩
    · have h7 := hv.2.1
      have hkw : k < w := Nat.lt_of_not_le fun q => h11 (by rw [hv.1, hx]; exact nI_le q (by omega))
      subst hx
      rw [show w - k = (w - (k + 1)) + 1 by omega] at hS
      refine jm_iload_n (pc := 14) dR_insOf_14 rfl ?_
      refine jm_iload (pc := 15) dR_insOf_15 rfl ?_
      refine jm_callS (pc := 17) (c_G_hasPlace (d := d - 1) _ _) fG_hasPlace sG_hasPlace cR_164 dR_insOf_17 rfl (by omega) ⟨Nat.le_refl _, Nat.le_refl _⟩ rfl (Nat.le_of_ble_eq_true rfl) (fun v s2 hq => ?_)
      obtain ⟨rfl, rfl⟩ := hq
      refine jm_if_ne (pc := 20) (tgt := 32) dR_insOf_20 (by decide) (fun h20 => ?_) (fun h20 => ?_)
      · refine jm_iinc (pc := 32) dR_insOf_32 rfl (by decide) ?_
        refine jm_goto (pc := 35) (tgt := 5) dR_insOf_35 (by decide) ?_
        refine ih (k + 1) _ _ (ni1 k) (by omega) (by omega) ?_
        rw [← hS]
        show insF o vr (w - (k + 1)) (k + 1) _ = insF o vr (w - (k + 1)) (k + 1) _
        first
          | exact congrArg _ (if_neg (jb_ne0 h20)).symm
          | exact congrArg _ (if_pos (Classical.not_not.mp (jb_eq0 h20))).symm
      · refine jm_lload_n (pc := 23) dR_insOf_23 rfl ?_
        refine jm_aload_n (pc := 24) dR_insOf_24 rfl ?_
        refine jm_iload (pc := 25) dR_insOf_25 rfl ?_
        refine jm_callV (pc := 27) (c_N_variableAt (d := d - 1) hv hkw) fN_variableAt vN_variableAt cR_137 dR_insOf_27 rfl rfl rfl rfl (by omega) ⟨Nat.le_refl _, Nat.le_refl _⟩ rfl (Nat.le_of_ble_eq_true rfl) (fun v s2 hq => ?_)
        obtain ⟨rfl, rfl⟩ := hq
        refine jm_lor (pc := 30) dR_insOf_30 ?_
        refine jm_lstore_n (pc := 31) dR_insOf_31 (by decide) ?_
        refine jm_iinc (pc := 32) dR_insOf_32 rfl (by decide) ?_
        refine jm_goto (pc := 35) (tgt := 5) dR_insOf_35 (by decide) ?_
        refine ih (k + 1) _ _ (ni1 k) (by omega) (by omega) ?_
        rw [← hS]
        show insF o vr (w - (k + 1)) (k + 1) _ = insF o vr (w - (k + 1)) (k + 1) _
        first
          | exact congrArg _ (if_neg (jb_ne0 h20)).symm
          | exact congrArg _ (if_pos (Classical.not_not.mp (jb_eq0 h20))).symm
set_option maxRecDepth 100000 in
set_option maxHeartbeats 4000000 in
theorem c_R_insOf {i w : Nat} {vr : Nat → Nat} {o : Int32} (hv : nV st i w vr) (hd : 1 ≤ d) : MC l D mR_insOf d 0 0 [vR (some (0, i)), vI o] st (fun v s' => st = s' ∧ v = some (vL (insS o w vr))) := by
  refine jm_start (ls0 := [some (vR (some (0, i))), some (vI o), none, none, none]) (by decide) (Nat.le_of_ble_eq_true rfl) rfl ?_
  refine jm_lconst (pc := 0) (v := 0) dR_insOf_0 (by decide) ?_
  refine jm_lstore_n (pc := 1) dR_insOf_1 (by decide) ?_
  refine jm_iconst (pc := 2) (v := 0) dR_insOf_2 (by decide) ?_
  refine jm_istore (pc := 3) dR_insOf_3 (by decide) ?_
  exact lp_R_insOf hv hd (w + 1) 0 _ _ rfl (by omega) (by omega) rfl
set_option maxRecDepth 100000 in
set_option maxHeartbeats 4000000 in
theorem c_R_canDoSame {i w : Nat} {vr : Nat → Nat} (hv : nV st i w vr) (hw : w = 2) (hd : 1 ≤ d) : MC l D mR_canDoSame d 0 0 [vR (some (0, i))] st (aP st i (sameR (b1 (vr 0)) (b1 (vr 1)) (st.2.1 0 i 13))) := by
  refine jm_start (ls0 := [some (vR (some (0, i))), none, none, none, none]) (by decide) (Nat.le_of_ble_eq_true rfl) rfl ?_
  refine jm_aload_n (pc := 0) dR_canDoSame_0 rfl ?_
  refine jm_iconst (pc := 1) (v := 0) dR_canDoSame_1 (by decide) ?_
  refine jm_callV (pc := 2) (c_N_variableAt (d := d - 1) (j := 0) hv (by omega)) fN_variableAt vN_variableAt cR_137 dR_canDoSame_2 rfl rfl rfl rfl (by omega) ⟨Nat.le_refl _, Nat.le_refl _⟩ rfl (Nat.le_of_ble_eq_true rfl) (fun v s2 hq => ?_)
  obtain ⟨rfl, rfl⟩ := hq
  refine jm_lstore_n (pc := 5) dR_canDoSame_5 (by decide) ?_
  refine jm_aload_n (pc := 6) dR_canDoSame_6 rfl ?_
  refine jm_iconst (pc := 7) (v := 1) dR_canDoSame_7 (by decide) ?_
  refine jm_callV (pc := 8) (c_N_variableAt (d := d - 1) (j := 1) hv (by omega)) fN_variableAt vN_variableAt cR_137 dR_canDoSame_8 rfl rfl rfl rfl (by omega) ⟨Nat.le_refl _, Nat.le_refl _⟩ rfl (Nat.le_of_ble_eq_true rfl) (fun v s2 hq => ?_)
  obtain ⟨rfl, rfl⟩ := hq
  refine jm_lstore_n (pc := 11) dR_canDoSame_11 (by decide) ?_
  refine jm_aload_n (pc := 12) dR_canDoSame_12 rfl ?_
  refine jm_lload_n (pc := 13) dR_canDoSame_13 rfl ?_
  refine jm_lload_n (pc := 14) dR_canDoSame_14 rfl ?_
  refine jm_lor (pc := 15) dR_canDoSame_15 ?_
  refine jm_callS (pc := 16) (c_R_isGround (d := d - 1) _) fR_isGround sR_isGround cR_121 dR_canDoSame_16 rfl (by omega) ⟨Nat.le_refl _, Nat.le_refl _⟩ rfl (Nat.le_of_ble_eq_true rfl) (fun v s2 hq => ?_)
  obtain ⟨rfl, rfl⟩ := hq
  refine jm_if_eq (pc := 19) (tgt := 29) dR_canDoSame_19 (by decide) (fun h19 => ?_) (fun h19 => ?_)
  · refine jm_aload_n (pc := 29) dR_canDoSame_29 rfl ?_
    refine jm_lload_n (pc := 30) dR_canDoSame_30 rfl ?_
    refine jm_callS (pc := 31) (c_R_isGround (d := d - 1) _) fR_isGround sR_isGround cR_121 dR_canDoSame_31 rfl (by omega) ⟨Nat.le_refl _, Nat.le_refl _⟩ rfl (Nat.le_of_ble_eq_true rfl) (fun v s2 hq => ?_)
    obtain ⟨rfl, rfl⟩ := hq
    refine jm_if_eq (pc := 34) (tgt := 44) dR_canDoSame_34 (by decide) (fun h34 => ?_) (fun h34 => ?_)
    · refine jm_aload_n (pc := 44) dR_canDoSame_44 rfl ?_
      refine jm_lload_n (pc := 45) dR_canDoSame_45 rfl ?_
      refine jm_callS (pc := 46) (c_R_isGround (d := d - 1) _) fR_isGround sR_isGround cR_121 dR_canDoSame_46 rfl (by omega) ⟨Nat.le_refl _, Nat.le_refl _⟩ rfl (Nat.le_of_ble_eq_true rfl) (fun v s2 hq => ?_)
      obtain ⟨rfl, rfl⟩ := hq
      refine jm_if_eq (pc := 49) (tgt := 65) dR_canDoSame_49 (by decide) (fun h49 => ?_) (fun h49 => ?_)
      · refine jm_iconst (pc := 65) (v := 0) dR_canDoSame_65 (by decide) ?_
        refine jm_zret (pc := 66) dR_canDoSame_66 rfl (by first | exact Or.inl rfl | exact Or.inr rfl | assumption) ⟨Nat.le_refl _, Nat.le_refl _⟩ ?_
        first
          | exact aP_s (by unfold sameR; rw [if_neg (jb_eq0 h19), if_neg (jb_eq0 h34), if_pos (jb_ne0 h49)])
          | exact aP_n (by unfold sameR; rw [if_neg (jb_eq0 h19), if_neg (jb_eq0 h34), if_neg (jb_eq0 h49)])
          | exact absurd h58 (by decide)
      · refine jm_aload_n (pc := 52) dR_canDoSame_52 rfl ?_
        refine jm_iconst (pc := 53) (v := 3) dR_canDoSame_53 (by decide) ?_
        refine jm_lload_n (pc := 54) dR_canDoSame_54 rfl ?_
        refine jm_callS (pc := 55) (c_R_settle (d := d - 1) _ _) fR_settle sR_settle cR_124 dR_canDoSame_55 rfl (by omega) ⟨Nat.le_refl _, Nat.le_refl _⟩ rfl (Nat.le_of_ble_eq_true rfl) (fun v s2 hq => ?_)
        obtain ⟨rfl, rfl⟩ := hq
        refine jm_if_eq (pc := 58) (tgt := 65) dR_canDoSame_58 (by decide) (fun h58 => ?_) (fun h58 => ?_)
        · refine jm_iconst (pc := 65) (v := 0) dR_canDoSame_65 (by decide) ?_
          refine jm_zret (pc := 66) dR_canDoSame_66 rfl (by first | exact Or.inl rfl | exact Or.inr rfl | assumption) ⟨Nat.le_refl _, Nat.le_refl _⟩ ?_
          first
            | exact aP_s (by unfold sameR; rw [if_neg (jb_eq0 h19), if_neg (jb_eq0 h34), if_pos (jb_ne0 h49)])
            | exact aP_n (by unfold sameR; rw [if_neg (jb_eq0 h19), if_neg (jb_eq0 h34), if_neg (jb_eq0 h49)])
            | exact absurd h58 (by decide)
        · refine jm_iconst (pc := 61) (v := 1) dR_canDoSame_61 (by decide) ?_
          refine jm_goto (pc := 62) (tgt := 66) dR_canDoSame_62 (by decide) ?_
          refine jm_zret (pc := 66) dR_canDoSame_66 rfl (by first | exact Or.inl rfl | exact Or.inr rfl | assumption) ⟨Nat.le_refl _, Nat.le_refl _⟩ ?_
          first
            | exact aP_s (by unfold sameR; rw [if_neg (jb_eq0 h19), if_neg (jb_eq0 h34), if_pos (jb_ne0 h49)])
            | exact aP_n (by unfold sameR; rw [if_neg (jb_eq0 h19), if_neg (jb_eq0 h34), if_neg (jb_eq0 h49)])
            | exact absurd h58 (by decide)
    · refine jm_aload_n (pc := 37) dR_canDoSame_37 rfl ?_
      refine jm_iconst (pc := 38) (v := 2) dR_canDoSame_38 (by decide) ?_
      refine jm_lload_n (pc := 39) dR_canDoSame_39 rfl ?_
      refine jm_callS (pc := 40) (c_R_settle (d := d - 1) _ _) fR_settle sR_settle cR_124 dR_canDoSame_40 rfl (by omega) ⟨Nat.le_refl _, Nat.le_refl _⟩ rfl (Nat.le_of_ble_eq_true rfl) (fun v s2 hq => ?_)
      obtain ⟨rfl, rfl⟩ := hq
      refine jm_zret (pc := 43) dR_canDoSame_43 rfl (by first | exact Or.inl rfl | exact Or.inr rfl | assumption) ⟨Nat.le_refl _, Nat.le_refl _⟩ ?_
      exact aP_s (by unfold sameR; rw [if_neg (jb_eq0 h19), if_pos (jb_ne0 h34)])
  · refine jm_aload_n (pc := 22) dR_canDoSame_22 rfl ?_
    refine jm_iconst (pc := 23) (v := 1) dR_canDoSame_23 (by decide) ?_
    refine jm_lconst (pc := 24) (v := 0) dR_canDoSame_24 (by decide) ?_
    refine jm_callS (pc := 25) (c_R_settle (d := d - 1) _ _) fR_settle sR_settle cR_124 dR_canDoSame_25 rfl (by omega) ⟨Nat.le_refl _, Nat.le_refl _⟩ rfl (Nat.le_of_ble_eq_true rfl) (fun v s2 hq => ?_)
    obtain ⟨rfl, rfl⟩ := hq
    refine jm_zret (pc := 28) dR_canDoSame_28 rfl (by first | exact Or.inl rfl | exact Or.inr rfl | assumption) ⟨Nat.le_refl _, Nat.le_refl _⟩ ?_
    exact aP_s (by unfold sameR; rw [if_pos (jb_ne0 h19)])
set_option maxRecDepth 100000 in
set_option maxHeartbeats 4000000 in
theorem c_R_canDoForm {i w : Nat} {vr : Nat → Nat} (hv : nV st i w vr) (hw : 1 ≤ w) (hd : 1 ≤ d) : MC l D mR_canDoForm d 0 0 [vR (some (0, i))] st (aP st i (formR (b1 (vr 0)) (rowS w vr 1) (st.2.1 0 i 13))) := by
  refine jm_start (ls0 := [some (vR (some (0, i))), none, none, none, none]) (by decide) (Nat.le_of_ble_eq_true rfl) rfl ?_
  refine jm_aload_n (pc := 0) dR_canDoForm_0 rfl ?_
  refine jm_iconst (pc := 1) (v := 0) dR_canDoForm_1 (by decide) ?_
  refine jm_callV (pc := 2) (c_N_variableAt (d := d - 1) (j := 0) hv (by omega)) fN_variableAt vN_variableAt cR_137 dR_canDoForm_2 rfl rfl rfl rfl (by omega) ⟨Nat.le_refl _, Nat.le_refl _⟩ rfl (Nat.le_of_ble_eq_true rfl) (fun v s2 hq => ?_)
  obtain ⟨rfl, rfl⟩ := hq
  refine jm_lstore_n (pc := 5) dR_canDoForm_5 (by decide) ?_
  refine jm_aload_n (pc := 6) dR_canDoForm_6 rfl ?_
  refine jm_iconst (pc := 7) (v := 1) dR_canDoForm_7 (by decide) ?_
  refine jm_callV (pc := 8) (c_N_variablesFrom (d := d - 1) (fr := 1) hv (by omega)) fN_variablesFrom vN_variablesFrom cR_141 dR_canDoForm_8 rfl rfl rfl rfl (by omega) ⟨Nat.le_refl _, Nat.le_refl _⟩ rfl (Nat.le_of_ble_eq_true rfl) (fun v s2 hq => ?_)
  obtain ⟨rfl, rfl⟩ := hq
  refine jm_lstore_n (pc := 11) dR_canDoForm_11 (by decide) ?_
  refine jm_aload_n (pc := 12) dR_canDoForm_12 rfl ?_
  refine jm_lload_n (pc := 13) dR_canDoForm_13 rfl ?_
  refine jm_callS (pc := 14) (c_R_isGround (d := d - 1) _) fR_isGround sR_isGround cR_121 dR_canDoForm_14 rfl (by omega) ⟨Nat.le_refl _, Nat.le_refl _⟩ rfl (Nat.le_of_ble_eq_true rfl) (fun v s2 hq => ?_)
  obtain ⟨rfl, rfl⟩ := hq
  refine jm_if_eq (pc := 17) (tgt := 27) dR_canDoForm_17 (by decide) (fun h17 => ?_) (fun h17 => ?_)
  · refine jm_aload_n (pc := 27) dR_canDoForm_27 rfl ?_
    refine jm_lload_n (pc := 28) dR_canDoForm_28 rfl ?_
    refine jm_callS (pc := 29) (c_R_isGround (d := d - 1) _) fR_isGround sR_isGround cR_121 dR_canDoForm_29 rfl (by omega) ⟨Nat.le_refl _, Nat.le_refl _⟩ rfl (Nat.le_of_ble_eq_true rfl) (fun v s2 hq => ?_)
    obtain ⟨rfl, rfl⟩ := hq
    refine jm_if_eq (pc := 32) (tgt := 48) dR_canDoForm_32 (by decide) (fun h32 => ?_) (fun h32 => ?_)
    · refine jm_iconst (pc := 48) (v := 0) dR_canDoForm_48 (by decide) ?_
      refine jm_zret (pc := 49) dR_canDoForm_49 rfl (by first | exact Or.inl rfl | exact Or.inr rfl | assumption) ⟨Nat.le_refl _, Nat.le_refl _⟩ ?_
      first
        | exact aP_s (by unfold formR; rw [if_neg (jb_eq0 h17), if_pos (jb_ne0 h32)])
        | exact aP_n (by unfold formR; rw [if_neg (jb_eq0 h17), if_neg (jb_eq0 h32)])
        | exact absurd h41 (by decide)
    · refine jm_aload_n (pc := 35) dR_canDoForm_35 rfl ?_
      refine jm_iconst (pc := 36) (v := 2) dR_canDoForm_36 (by decide) ?_
      refine jm_lload_n (pc := 37) dR_canDoForm_37 rfl ?_
      refine jm_callS (pc := 38) (c_R_settle (d := d - 1) _ _) fR_settle sR_settle cR_124 dR_canDoForm_38 rfl (by omega) ⟨Nat.le_refl _, Nat.le_refl _⟩ rfl (Nat.le_of_ble_eq_true rfl) (fun v s2 hq => ?_)
      obtain ⟨rfl, rfl⟩ := hq
      refine jm_if_eq (pc := 41) (tgt := 48) dR_canDoForm_41 (by decide) (fun h41 => ?_) (fun h41 => ?_)
      · refine jm_iconst (pc := 48) (v := 0) dR_canDoForm_48 (by decide) ?_
        refine jm_zret (pc := 49) dR_canDoForm_49 rfl (by first | exact Or.inl rfl | exact Or.inr rfl | assumption) ⟨Nat.le_refl _, Nat.le_refl _⟩ ?_
        first
          | exact aP_s (by unfold formR; rw [if_neg (jb_eq0 h17), if_pos (jb_ne0 h32)])
          | exact aP_n (by unfold formR; rw [if_neg (jb_eq0 h17), if_neg (jb_eq0 h32)])
          | exact absurd h41 (by decide)
      · refine jm_iconst (pc := 44) (v := 1) dR_canDoForm_44 (by decide) ?_
        refine jm_goto (pc := 45) (tgt := 49) dR_canDoForm_45 (by decide) ?_
        refine jm_zret (pc := 49) dR_canDoForm_49 rfl (by first | exact Or.inl rfl | exact Or.inr rfl | assumption) ⟨Nat.le_refl _, Nat.le_refl _⟩ ?_
        first
          | exact aP_s (by unfold formR; rw [if_neg (jb_eq0 h17), if_pos (jb_ne0 h32)])
          | exact aP_n (by unfold formR; rw [if_neg (jb_eq0 h17), if_neg (jb_eq0 h32)])
          | exact absurd h41 (by decide)
  · refine jm_aload_n (pc := 20) dR_canDoForm_20 rfl ?_
    refine jm_iconst (pc := 21) (v := 1) dR_canDoForm_21 (by decide) ?_
    refine jm_lload_n (pc := 22) dR_canDoForm_22 rfl ?_
    refine jm_callS (pc := 23) (c_R_settle (d := d - 1) _ _) fR_settle sR_settle cR_124 dR_canDoForm_23 rfl (by omega) ⟨Nat.le_refl _, Nat.le_refl _⟩ rfl (Nat.le_of_ble_eq_true rfl) (fun v s2 hq => ?_)
    obtain ⟨rfl, rfl⟩ := hq
    refine jm_zret (pc := 26) dR_canDoForm_26 rfl (by first | exact Or.inl rfl | exact Or.inr rfl | assumption) ⟨Nat.le_refl _, Nat.le_refl _⟩ ?_
    exact aP_s (by unfold formR; rw [if_pos (jb_ne0 h17)])
set_option maxRecDepth 100000 in
set_option maxHeartbeats 4000000 in
theorem c_R_canDoSum {i w : Nat} {vr : Nat → Nat} (hv : nV st i w vr) (hw : 1 ≤ w) (hd : 1 ≤ d) : MC l D mR_canDoSum d 0 0 [vR (some (0, i))] st (aP st i (sumR (b1 (vr 0)) (rowS w vr 1) (st.2.1 0 i 13))) := by
  refine jm_start (ls0 := [some (vR (some (0, i))), none, none]) (by decide) (Nat.le_of_ble_eq_true rfl) rfl ?_
  refine jm_aload_n (pc := 0) dR_canDoSum_0 rfl ?_
  refine jm_iconst (pc := 1) (v := 0) dR_canDoSum_1 (by decide) ?_
  refine jm_callV (pc := 2) (c_N_variableAt (d := d - 1) (j := 0) hv (by omega)) fN_variableAt vN_variableAt cR_137 dR_canDoSum_2 rfl rfl rfl rfl (by omega) ⟨Nat.le_refl _, Nat.le_refl _⟩ rfl (Nat.le_of_ble_eq_true rfl) (fun v s2 hq => ?_)
  obtain ⟨rfl, rfl⟩ := hq
  refine jm_lstore_n (pc := 5) dR_canDoSum_5 (by decide) ?_
  refine jm_aload_n (pc := 6) dR_canDoSum_6 rfl ?_
  refine jm_aload_n (pc := 7) dR_canDoSum_7 rfl ?_
  refine jm_iconst (pc := 8) (v := 1) dR_canDoSum_8 (by decide) ?_
  refine jm_callV (pc := 9) (c_N_variablesFrom (d := d - 1) (fr := 1) hv (by omega)) fN_variablesFrom vN_variablesFrom cR_141 dR_canDoSum_9 rfl rfl rfl rfl (by omega) ⟨Nat.le_refl _, Nat.le_refl _⟩ rfl (Nat.le_of_ble_eq_true rfl) (fun v s2 hq => ?_)
  obtain ⟨rfl, rfl⟩ := hq
  refine jm_callS (pc := 12) (c_R_isGround (d := d - 1) _) fR_isGround sR_isGround cR_121 dR_canDoSum_12 rfl (by omega) ⟨Nat.le_refl _, Nat.le_refl _⟩ rfl (Nat.le_of_ble_eq_true rfl) (fun v s2 hq => ?_)
  obtain ⟨rfl, rfl⟩ := hq
  refine jm_if_ne (pc := 15) (tgt := 20) dR_canDoSum_15 (by decide) (fun h15 => ?_) (fun h15 => ?_)
  · refine jm_aload_n (pc := 20) dR_canDoSum_20 rfl ?_
    refine jm_aload_n (pc := 21) dR_canDoSum_21 rfl ?_
    refine jm_lload_n (pc := 22) dR_canDoSum_22 rfl ?_
    refine jm_callS (pc := 23) (c_R_isGround (d := d - 1) _) fR_isGround sR_isGround cR_121 dR_canDoSum_23 rfl (by omega) ⟨Nat.le_refl _, Nat.le_refl _⟩ rfl (Nat.le_of_ble_eq_true rfl) (fun v s2 hq => ?_)
    obtain ⟨rfl, rfl⟩ := hq
    refine jm_if_eq (pc := 26) (tgt := 33) dR_canDoSum_26 (by decide) (fun h26 => ?_) (fun h26 => ?_)
    · refine jm_iconst (pc := 33) (v := 2) dR_canDoSum_33 (by decide) ?_
      refine jm_lload_n (pc := 34) dR_canDoSum_34 rfl ?_
      refine jm_callS (pc := 35) (c_R_settle (d := d - 1) _ _) fR_settle sR_settle cR_124 dR_canDoSum_35 rfl (by omega) ⟨Nat.le_refl _, Nat.le_refl _⟩ rfl (Nat.le_of_ble_eq_true rfl) (fun v s2 hq => ?_)
      obtain ⟨rfl, rfl⟩ := hq
      refine jm_zret (pc := 38) dR_canDoSum_38 rfl (by first | exact Or.inl rfl | exact Or.inr rfl | assumption) ⟨Nat.le_refl _, Nat.le_refl _⟩ ?_
      first
        | exact aP_s (by unfold sumR; rw [if_pos (jb_ne0 h15), if_pos (jb_ne0 h26)])
        | exact aP_s (by unfold sumR; rw [if_pos (jb_ne0 h15), if_neg (jb_eq0 h26)])
    · refine jm_iconst (pc := 29) (v := 1) dR_canDoSum_29 (by decide) ?_
      refine jm_goto (pc := 30) (tgt := 34) dR_canDoSum_30 (by decide) ?_
      refine jm_lload_n (pc := 34) dR_canDoSum_34 rfl ?_
      refine jm_callS (pc := 35) (c_R_settle (d := d - 1) _ _) fR_settle sR_settle cR_124 dR_canDoSum_35 rfl (by omega) ⟨Nat.le_refl _, Nat.le_refl _⟩ rfl (Nat.le_of_ble_eq_true rfl) (fun v s2 hq => ?_)
      obtain ⟨rfl, rfl⟩ := hq
      refine jm_zret (pc := 38) dR_canDoSum_38 rfl (by first | exact Or.inl rfl | exact Or.inr rfl | assumption) ⟨Nat.le_refl _, Nat.le_refl _⟩ ?_
      first
        | exact aP_s (by unfold sumR; rw [if_pos (jb_ne0 h15), if_pos (jb_ne0 h26)])
        | exact aP_s (by unfold sumR; rw [if_pos (jb_ne0 h15), if_neg (jb_eq0 h26)])
  · refine jm_iconst (pc := 18) (v := 0) dR_canDoSum_18 (by decide) ?_
    refine jm_zret (pc := 19) dR_canDoSum_19 rfl (by first | exact Or.inl rfl | exact Or.inr rfl | assumption) ⟨Nat.le_refl _, Nat.le_refl _⟩ ?_
    exact aP_n (by unfold sumR; rw [if_neg (jb_eq0 h15)])
set_option maxRecDepth 100000 in
set_option maxHeartbeats 4000000 in
theorem lp_R_canDoCall {i w np p : Nat} {vr : Nat → Nat} {ar md : Nat → Nat} {ou : Nat → Nat → Int32} (hv : nV st i w vr) (hp : pR st np ar md ou) (ht : st.2.2.1 3 0 0 = some 0) (hq4 : st.1 0 i 4 = nI p) (hpn : p < np) (hwi : st.2.1 0 i 11 = rowS w vr 0) (hd : 3 ≤ d) : ∀ (n : Nat) (m : Nat) (x : Int32), x = nI m → m ≤ md p → md p - m < n → callR (fun m => insS (ou p m) w vr) (rowS w vr 0) (st.2.1 0 i 13) (md p - m) m = callR (fun m => insS (ou p m) w vr) (rowS w vr 0) (st.2.1 0 i 13) (md p) 0 → MS l D mR_canDoCall d 0 0 (aP st i (callR (fun m => insS (ou p m) w vr) (rowS w vr 0) (st.2.1 0 i 13) (md p) 0)) 0 0 14 [some (vR (some (3, 0))), some (vR (some (0, i))), some (vI (nI (md p))), some (vI x)] [] st := by
  intro n
  induction n with
  | zero =>
    intro m x hx hm hn hS
    omega
  | succ n ih =>
    intro m x hx hm hn hS
    refine jm_iload_n (pc := 14) dR_canDoCall_14 rfl ?_
    refine jm_iload_n (pc := 15) dR_canDoCall_15 rfl ?_
    have hm4 := (hp.2.2.2.2.2.1 p hpn).2.2.2
    refine jm_icmp_ge (pc := 16) (tgt := 58) dR_canDoCall_16 (by decide) (fun h16 => ?_) (fun h16 => ?_)
    · refine jm_iconst (pc := 58) (v := 0) dR_canDoCall_58 (by decide) ?_
      refine jm_zret (pc := 59) dR_canDoCall_59 rfl (by first | exact Or.inl rfl | exact Or.inr rfl | assumption) ⟨Nat.le_refl _, Nat.le_refl _⟩ ?_
      have hkw : ¬ m < md p := fun q => nI_ge q (by omega) (by rw [hx] at h16; exact h16)
      rw [show md p - m = 0 by omega] at hS
      exact aP_n (by rw [← hS]; rfl)
    · have hkw : m < md p := Nat.lt_of_not_le fun q => h16 (by rw [hx]; exact nI_le q (by omega))
      subst hx
      rw [show md p - m = (md p - (m + 1)) + 1 by omega] at hS
      refine jm_aload_n (pc := 19) dR_canDoCall_19 rfl ?_
      refine jm_aload_n (pc := 20) dR_canDoCall_20 rfl ?_
      refine jm_aload_n (pc := 21) dR_canDoCall_21 rfl ?_
      refine jm_getq (pc := 22) lR_9 dR_canDoCall_22 rfl rfl (ht) ?_
      refine jm_aload_n (pc := 25) dR_canDoCall_25 rfl ?_
      refine jm_geti (pc := 26) lR_144 dR_canDoCall_26 rfl (fun _ => rfl) ?_
      rw [hq4]
      refine jm_iload_n (pc := 29) dR_canDoCall_29 rfl ?_
      refine jm_callV (pc := 30) (c_P_outsOf (d := d - 1) hp hpn hkw (by omega)) fP_outsOf vP_outsOf cR_153 dR_canDoCall_30 rfl rfl rfl rfl (by omega) ⟨Nat.le_refl _, Nat.le_refl _⟩ rfl (Nat.le_of_ble_eq_true rfl) (fun v s2 hq => ?_)
      obtain ⟨rfl, rfl⟩ := hq
      refine jm_callS (pc := 33) (c_R_insOf (d := d - 1) hv (by omega)) fR_insOf sR_insOf cR_157 dR_canDoCall_33 rfl (by omega) ⟨Nat.le_refl _, Nat.le_refl _⟩ rfl (Nat.le_of_ble_eq_true rfl) (fun v s2 hq => ?_)
      obtain ⟨rfl, rfl⟩ := hq
      refine jm_callS (pc := 36) (c_R_isGround (d := d - 1) _) fR_isGround sR_isGround cR_121 dR_canDoCall_36 rfl (by omega) ⟨Nat.le_refl _, Nat.le_refl _⟩ rfl (Nat.le_of_ble_eq_true rfl) (fun v s2 hq => ?_)
      obtain ⟨rfl, rfl⟩ := hq
      refine jm_if_eq (pc := 39) (tgt := 52) dR_canDoCall_39 (by decide) (fun h39 => ?_) (fun h39 => ?_)
      · refine jm_iinc (pc := 52) dR_canDoCall_52 rfl (by decide) ?_
        refine jm_goto (pc := 55) (tgt := 14) dR_canDoCall_55 (by decide) ?_
        refine ih (m + 1) _ (ni1 m) (by omega) (by omega) ?_
        rw [← hS]
        exact (if_neg (jb_eq0 h39)).symm
      · refine jm_aload_n (pc := 42) dR_canDoCall_42 rfl ?_
        refine jm_iload_n (pc := 43) dR_canDoCall_43 rfl ?_
        refine jm_aload_n (pc := 44) dR_canDoCall_44 rfl ?_
        refine jm_getl (pc := 45) lR_112 dR_canDoCall_45 rfl (fun _ => rfl) ?_
        rw [hwi]
        refine jm_callS (pc := 48) (c_R_settle (d := d - 1) _ _) fR_settle sR_settle cR_124 dR_canDoCall_48 rfl (by omega) ⟨Nat.le_refl _, Nat.le_refl _⟩ rfl (Nat.le_of_ble_eq_true rfl) (fun v s2 hq => ?_)
        obtain ⟨rfl, rfl⟩ := hq
        refine jm_zret (pc := 51) dR_canDoCall_51 rfl (by first | exact Or.inl rfl | exact Or.inr rfl | assumption) ⟨Nat.le_refl _, Nat.le_refl _⟩ ?_
        exact aP_s (by rw [← hS]; exact if_pos (jb_ne0 h39))
set_option maxRecDepth 100000 in
set_option maxHeartbeats 4000000 in
theorem c_R_canDoCall {i w np p : Nat} {vr : Nat → Nat} {ar md : Nat → Nat} {ou : Nat → Nat → Int32} (hv : nV st i w vr) (hp : pR st np ar md ou) (ht : st.2.2.1 3 0 0 = some 0) (hq4 : st.1 0 i 4 = nI p) (hpn : p < np) (hwi : st.2.1 0 i 11 = rowS w vr 0) (hd : 3 ≤ d) : MC l D mR_canDoCall d 0 0 [vR (some (3, 0)), vR (some (0, i))] st (aP st i (callR (fun m => insS (ou p m) w vr) (rowS w vr 0) (st.2.1 0 i 13) (md p) 0)) := by
  refine jm_start (ls0 := [some (vR (some (3, 0))), some (vR (some (0, i))), none, none]) (by decide) (Nat.le_of_ble_eq_true rfl) rfl ?_
  refine jm_aload_n (pc := 0) dR_canDoCall_0 rfl ?_
  refine jm_getq (pc := 1) lR_9 dR_canDoCall_1 rfl rfl (ht) ?_
  refine jm_aload_n (pc := 4) dR_canDoCall_4 rfl ?_
  refine jm_geti (pc := 5) lR_144 dR_canDoCall_5 rfl (fun _ => rfl) ?_
  rw [hq4]
  refine jm_callV (pc := 8) (c_P_modesOf (d := d - 1) hp hpn (by omega)) fP_modesOf vP_modesOf cR_147 dR_canDoCall_8 rfl rfl rfl rfl (by omega) ⟨Nat.le_refl _, Nat.le_refl _⟩ rfl (Nat.le_of_ble_eq_true rfl) (fun v s2 hq => ?_)
  obtain ⟨rfl, rfl⟩ := hq
  refine jm_istore_n (pc := 11) dR_canDoCall_11 (by decide) ?_
  refine jm_iconst (pc := 12) (v := 0) dR_canDoCall_12 (by decide) ?_
  refine jm_istore_n (pc := 13) dR_canDoCall_13 (by decide) ?_
  exact lp_R_canDoCall hv hp ht hq4 hpn hwi hd (md p + 1) 0 _ rfl (by omega) (by omega) rfl
set_option maxRecDepth 100000 in
set_option maxHeartbeats 4000000 in
theorem c_R_canDoAtom {s i w np p : Nat} {vr : Nat → Nat} {ar md : Nat → Nat} {ou : Nat → Nat → Int32} (hv : nV st i w vr) (hp : pR st np ar md ou) (ht : st.2.2.1 3 0 0 = some 0) (hs : st.1 0 i 3 = nI s) (hs4 : 4 ≤ s ∧ s ≤ 12) (h6 : s = 6 → w = 2) (h8 : s = 8 ∨ s = 9 ∨ s = 10 → 1 ≤ w) (hq4 : s = 12 → st.1 0 i 4 = nI p ∧ p < np) (hwi : st.2.1 0 i 11 = rowS w vr 0) (hd : 4 ≤ d) : MC l D mR_canDoAtom d 0 0 [vR (some (3, 0)), vR (some (0, i))] st (aP st i (atomR s w vr (md p) (ou p) (st.2.1 0 i 13))) := by
  refine jm_start (ls0 := [some (vR (some (3, 0))), some (vR (some (0, i)))]) (by decide) (Nat.le_of_ble_eq_true rfl) rfl ?_
  refine jm_aload_n (pc := 0) dR_canDoAtom_0 rfl ?_
  refine jm_geti (pc := 1) lR_45 dR_canDoAtom_1 rfl (fun _ => rfl) ?_
  rw [hs]
  rcases (show s = 4 ∨ s = 5 ∨ s = 6 ∨ s = 7 ∨ s = 8 ∨ s = 9 ∨ s = 10 ∨ s = 11 ∨ s = 12 by omega) with rfl | rfl | rfl | rfl | rfl | rfl | rfl | rfl | rfl
  · refine jm_tableOut (pc := 4) (tgt := 95) dR_canDoAtom_4 (by decide) (by decide) ?_
    refine jm_aload_n (pc := 95) dR_canDoAtom_95 rfl ?_
    refine jm_iconst (pc := 96) (v := 0) dR_canDoAtom_96 (by decide) ?_
    refine jm_lconst (pc := 97) (v := 0) dR_canDoAtom_97 (by decide) ?_
    refine jm_callS (pc := 98) (c_R_settle (d := d - 1) _ _) fR_settle sR_settle cR_124 dR_canDoAtom_98 rfl (by omega) ⟨Nat.le_refl _, Nat.le_refl _⟩ rfl (Nat.le_of_ble_eq_true rfl) (fun v s2 hq => ?_)
    obtain ⟨rfl, rfl⟩ := hq
    refine jm_zret (pc := 101) dR_canDoAtom_101 rfl (by first | exact Or.inl rfl | exact Or.inr rfl | assumption) ⟨Nat.le_refl _, Nat.le_refl _⟩ ?_
    exact aP_s rfl
  · refine jm_tableOut (pc := 4) (tgt := 95) dR_canDoAtom_4 (by decide) (by decide) ?_
    refine jm_aload_n (pc := 95) dR_canDoAtom_95 rfl ?_
    refine jm_iconst (pc := 96) (v := 0) dR_canDoAtom_96 (by decide) ?_
    refine jm_lconst (pc := 97) (v := 0) dR_canDoAtom_97 (by decide) ?_
    refine jm_callS (pc := 98) (c_R_settle (d := d - 1) _ _) fR_settle sR_settle cR_124 dR_canDoAtom_98 rfl (by omega) ⟨Nat.le_refl _, Nat.le_refl _⟩ rfl (Nat.le_of_ble_eq_true rfl) (fun v s2 hq => ?_)
    obtain ⟨rfl, rfl⟩ := hq
    refine jm_zret (pc := 101) dR_canDoAtom_101 rfl (by first | exact Or.inl rfl | exact Or.inr rfl | assumption) ⟨Nat.le_refl _, Nat.le_refl _⟩ ?_
    exact aP_s rfl
  · refine jm_tableIn (pc := 4) (tgt := 48) (off := 44) dR_canDoAtom_4 (by decide) (by decide) rfl (by decide) ?_
    refine jm_aload_n (pc := 48) dR_canDoAtom_48 rfl ?_
    refine jm_callS (pc := 49) (c_R_canDoSame (d := d - 1) hv (h6 rfl) (by omega)) fR_canDoSame sR_canDoSame cR_118 dR_canDoAtom_49 rfl (by omega) ⟨Nat.le_refl _, Nat.le_refl _⟩ rfl (Nat.le_of_ble_eq_true rfl) (fun v s2 hq => ?_)
    obtain ⟨b, rfl, hb⟩ := aP_v hq
    refine jm_zret (pc := 52) dR_canDoAtom_52 rfl (hb) ⟨Nat.le_refl _, Nat.le_refl _⟩ ?_
    exact hq
  · refine jm_tableIn (pc := 4) (tgt := 53) (off := 49) dR_canDoAtom_4 (by decide) (by decide) rfl (by decide) ?_
    refine jm_aload_n (pc := 53) dR_canDoAtom_53 rfl ?_
    refine jm_aload_n (pc := 54) dR_canDoAtom_54 rfl ?_
    refine jm_getl (pc := 55) lR_112 dR_canDoAtom_55 rfl (fun _ => rfl) ?_
    rw [hwi]
    refine jm_callS (pc := 58) (c_R_isGround (d := d - 1) _) fR_isGround sR_isGround cR_121 dR_canDoAtom_58 rfl (by omega) ⟨Nat.le_refl _, Nat.le_refl _⟩ rfl (Nat.le_of_ble_eq_true rfl) (fun v s2 hq => ?_)
    obtain ⟨rfl, rfl⟩ := hq
    refine jm_if_eq (pc := 61) (tgt := 77) dR_canDoAtom_61 (by decide) (fun h61 => ?_) (fun h61 => ?_)
    · refine jm_iconst (pc := 77) (v := 0) dR_canDoAtom_77 (by decide) ?_
      refine jm_zret (pc := 78) dR_canDoAtom_78 rfl (by first | exact Or.inl rfl | exact Or.inr rfl | assumption) ⟨Nat.le_refl _, Nat.le_refl _⟩ ?_
      first
        | exact aP_s (by show allR _ _ = _; unfold allR; rw [if_pos (jb_ne0 h61)])
        | exact aP_n (by show allR _ _ = _; unfold allR; rw [if_neg (jb_eq0 h61)])
        | exact absurd h70 (by decide)
    · refine jm_aload_n (pc := 64) dR_canDoAtom_64 rfl ?_
      refine jm_iconst (pc := 65) (v := 1) dR_canDoAtom_65 (by decide) ?_
      refine jm_lconst (pc := 66) (v := 0) dR_canDoAtom_66 (by decide) ?_
      refine jm_callS (pc := 67) (c_R_settle (d := d - 1) _ _) fR_settle sR_settle cR_124 dR_canDoAtom_67 rfl (by omega) ⟨Nat.le_refl _, Nat.le_refl _⟩ rfl (Nat.le_of_ble_eq_true rfl) (fun v s2 hq => ?_)
      obtain ⟨rfl, rfl⟩ := hq
      refine jm_if_eq (pc := 70) (tgt := 77) dR_canDoAtom_70 (by decide) (fun h70 => ?_) (fun h70 => ?_)
      · refine jm_iconst (pc := 77) (v := 0) dR_canDoAtom_77 (by decide) ?_
        refine jm_zret (pc := 78) dR_canDoAtom_78 rfl (by first | exact Or.inl rfl | exact Or.inr rfl | assumption) ⟨Nat.le_refl _, Nat.le_refl _⟩ ?_
        first
          | exact aP_s (by show allR _ _ = _; unfold allR; rw [if_pos (jb_ne0 h61)])
          | exact aP_n (by show allR _ _ = _; unfold allR; rw [if_neg (jb_eq0 h61)])
          | exact absurd h70 (by decide)
      · refine jm_iconst (pc := 73) (v := 1) dR_canDoAtom_73 (by decide) ?_
        refine jm_goto (pc := 74) (tgt := 78) dR_canDoAtom_74 (by decide) ?_
        refine jm_zret (pc := 78) dR_canDoAtom_78 rfl (by first | exact Or.inl rfl | exact Or.inr rfl | assumption) ⟨Nat.le_refl _, Nat.le_refl _⟩ ?_
        first
          | exact aP_s (by show allR _ _ = _; unfold allR; rw [if_pos (jb_ne0 h61)])
          | exact aP_n (by show allR _ _ = _; unfold allR; rw [if_neg (jb_eq0 h61)])
          | exact absurd h70 (by decide)
  · refine jm_tableIn (pc := 4) (tgt := 79) (off := 75) dR_canDoAtom_4 (by decide) (by decide) rfl (by decide) ?_
    refine jm_aload_n (pc := 79) dR_canDoAtom_79 rfl ?_
    refine jm_callS (pc := 80) (c_R_canDoForm (d := d - 1) hv (h8 (by omega)) (by omega)) fR_canDoForm sR_canDoForm cR_128 dR_canDoAtom_80 rfl (by omega) ⟨Nat.le_refl _, Nat.le_refl _⟩ rfl (Nat.le_of_ble_eq_true rfl) (fun v s2 hq => ?_)
    obtain ⟨b, rfl, hb⟩ := aP_v hq
    refine jm_zret (pc := 83) dR_canDoAtom_83 rfl (hb) ⟨Nat.le_refl _, Nat.le_refl _⟩ ?_
    exact hq
  · refine jm_tableIn (pc := 4) (tgt := 84) (off := 80) dR_canDoAtom_4 (by decide) (by decide) rfl (by decide) ?_
    refine jm_aload_n (pc := 84) dR_canDoAtom_84 rfl ?_
    refine jm_callS (pc := 85) (c_R_canDoSum (d := d - 1) hv (h8 (by omega)) (by omega)) fR_canDoSum sR_canDoSum cR_131 dR_canDoAtom_85 rfl (by omega) ⟨Nat.le_refl _, Nat.le_refl _⟩ rfl (Nat.le_of_ble_eq_true rfl) (fun v s2 hq => ?_)
    obtain ⟨b, rfl, hb⟩ := aP_v hq
    refine jm_zret (pc := 88) dR_canDoAtom_88 rfl (hb) ⟨Nat.le_refl _, Nat.le_refl _⟩ ?_
    exact hq
  · refine jm_tableIn (pc := 4) (tgt := 84) (off := 80) dR_canDoAtom_4 (by decide) (by decide) rfl (by decide) ?_
    refine jm_aload_n (pc := 84) dR_canDoAtom_84 rfl ?_
    refine jm_callS (pc := 85) (c_R_canDoSum (d := d - 1) hv (h8 (by omega)) (by omega)) fR_canDoSum sR_canDoSum cR_131 dR_canDoAtom_85 rfl (by omega) ⟨Nat.le_refl _, Nat.le_refl _⟩ rfl (Nat.le_of_ble_eq_true rfl) (fun v s2 hq => ?_)
    obtain ⟨b, rfl, hb⟩ := aP_v hq
    refine jm_zret (pc := 88) dR_canDoAtom_88 rfl (hb) ⟨Nat.le_refl _, Nat.le_refl _⟩ ?_
    exact hq
  · refine jm_tableIn (pc := 4) (tgt := 53) (off := 49) dR_canDoAtom_4 (by decide) (by decide) rfl (by decide) ?_
    refine jm_aload_n (pc := 53) dR_canDoAtom_53 rfl ?_
    refine jm_aload_n (pc := 54) dR_canDoAtom_54 rfl ?_
    refine jm_getl (pc := 55) lR_112 dR_canDoAtom_55 rfl (fun _ => rfl) ?_
    rw [hwi]
    refine jm_callS (pc := 58) (c_R_isGround (d := d - 1) _) fR_isGround sR_isGround cR_121 dR_canDoAtom_58 rfl (by omega) ⟨Nat.le_refl _, Nat.le_refl _⟩ rfl (Nat.le_of_ble_eq_true rfl) (fun v s2 hq => ?_)
    obtain ⟨rfl, rfl⟩ := hq
    refine jm_if_eq (pc := 61) (tgt := 77) dR_canDoAtom_61 (by decide) (fun h61 => ?_) (fun h61 => ?_)
    · refine jm_iconst (pc := 77) (v := 0) dR_canDoAtom_77 (by decide) ?_
      refine jm_zret (pc := 78) dR_canDoAtom_78 rfl (by first | exact Or.inl rfl | exact Or.inr rfl | assumption) ⟨Nat.le_refl _, Nat.le_refl _⟩ ?_
      first
        | exact aP_s (by show allR _ _ = _; unfold allR; rw [if_pos (jb_ne0 h61)])
        | exact aP_n (by show allR _ _ = _; unfold allR; rw [if_neg (jb_eq0 h61)])
        | exact absurd h70 (by decide)
    · refine jm_aload_n (pc := 64) dR_canDoAtom_64 rfl ?_
      refine jm_iconst (pc := 65) (v := 1) dR_canDoAtom_65 (by decide) ?_
      refine jm_lconst (pc := 66) (v := 0) dR_canDoAtom_66 (by decide) ?_
      refine jm_callS (pc := 67) (c_R_settle (d := d - 1) _ _) fR_settle sR_settle cR_124 dR_canDoAtom_67 rfl (by omega) ⟨Nat.le_refl _, Nat.le_refl _⟩ rfl (Nat.le_of_ble_eq_true rfl) (fun v s2 hq => ?_)
      obtain ⟨rfl, rfl⟩ := hq
      refine jm_if_eq (pc := 70) (tgt := 77) dR_canDoAtom_70 (by decide) (fun h70 => ?_) (fun h70 => ?_)
      · refine jm_iconst (pc := 77) (v := 0) dR_canDoAtom_77 (by decide) ?_
        refine jm_zret (pc := 78) dR_canDoAtom_78 rfl (by first | exact Or.inl rfl | exact Or.inr rfl | assumption) ⟨Nat.le_refl _, Nat.le_refl _⟩ ?_
        first
          | exact aP_s (by show allR _ _ = _; unfold allR; rw [if_pos (jb_ne0 h61)])
          | exact aP_n (by show allR _ _ = _; unfold allR; rw [if_neg (jb_eq0 h61)])
          | exact absurd h70 (by decide)
      · refine jm_iconst (pc := 73) (v := 1) dR_canDoAtom_73 (by decide) ?_
        refine jm_goto (pc := 74) (tgt := 78) dR_canDoAtom_74 (by decide) ?_
        refine jm_zret (pc := 78) dR_canDoAtom_78 rfl (by first | exact Or.inl rfl | exact Or.inr rfl | assumption) ⟨Nat.le_refl _, Nat.le_refl _⟩ ?_
        first
          | exact aP_s (by show allR _ _ = _; unfold allR; rw [if_pos (jb_ne0 h61)])
          | exact aP_n (by show allR _ _ = _; unfold allR; rw [if_neg (jb_eq0 h61)])
          | exact absurd h70 (by decide)
  · refine jm_tableIn (pc := 4) (tgt := 89) (off := 85) dR_canDoAtom_4 (by decide) (by decide) rfl (by decide) ?_
    refine jm_aload_n (pc := 89) dR_canDoAtom_89 rfl ?_
    refine jm_aload_n (pc := 90) dR_canDoAtom_90 rfl ?_
    refine jm_callV (pc := 91) (c_R_canDoCall (d := d - 1) hv hp ht (hq4 rfl).1 (hq4 rfl).2 hwi (by omega)) fR_canDoCall vR_canDoCall cR_134 dR_canDoAtom_91 rfl rfl rfl rfl (by omega) ⟨Nat.le_refl _, Nat.le_refl _⟩ rfl (Nat.le_of_ble_eq_true rfl) (fun v s2 hq => ?_)
    obtain ⟨b, rfl, hb⟩ := aP_v hq
    refine jm_zret (pc := 94) dR_canDoAtom_94 rfl (hb) ⟨Nat.le_refl _, Nat.le_refl _⟩ ?_
    exact hq
end CAtom
