section CN1
variable {l : Launch} {D : mD} {d : Nat} {st : aS} {E : EE} {rm : Nat} {rv : Nat → Nat} {g w : Int64} {od sk : Int32}
set_option maxRecDepth 100000 in
set_option maxHeartbeats 4000000 in
theorem c_M_isVariable (x : Int32)  : MC l D mM_isVariable d 0 0 [vI x] st (fun v s' => st = s' ∧ v = some (vI (jb (isV x)))) := by
  refine jm_start (ls0 := [some (vI x)]) (by decide) (Nat.le_of_ble_eq_true rfl) rfl ?_
  refine jm_iload_n (pc := 0) dM_isVariable_0 rfl ?_
  refine jm_if_lt (pc := 1) (tgt := 14) dM_isVariable_1 (by decide) (fun h1 => ?_) (fun h1 => ?_)
  · refine jm_iconst (pc := 14) (v := 0) dM_isVariable_14 (by decide) ?_
    refine jm_zret (pc := 15) dM_isVariable_15 rfl (by first | exact Or.inl rfl | exact Or.inr rfl | assumption) ⟨Nat.le_refl _, Nat.le_refl _⟩ ?_
    refine ⟨rfl, ?_⟩
    first | exact jbt ⟨h1, h7⟩ | exact jbf (fun q => q.1 h1) | exact jbf (fun q => q.2 h7)
  · refine jm_iload_n (pc := 4) dM_isVariable_4 rfl ?_
    refine jm_bipush (pc := 5) (v := 60) dM_isVariable_5 (by decide) ?_
    refine jm_icmp_ge (pc := 7) (tgt := 14) dM_isVariable_7 (by decide) (fun h7 => ?_) (fun h7 => ?_)
    · refine jm_iconst (pc := 14) (v := 0) dM_isVariable_14 (by decide) ?_
      refine jm_zret (pc := 15) dM_isVariable_15 rfl (by first | exact Or.inl rfl | exact Or.inr rfl | assumption) ⟨Nat.le_refl _, Nat.le_refl _⟩ ?_
      refine ⟨rfl, ?_⟩
      first | exact jbt ⟨h1, h7⟩ | exact jbf (fun q => q.1 h1) | exact jbf (fun q => q.2 h7)
    · refine jm_iconst (pc := 10) (v := 1) dM_isVariable_10 (by decide) ?_
      refine jm_goto (pc := 11) (tgt := 15) dM_isVariable_11 (by decide) ?_
      refine jm_zret (pc := 15) dM_isVariable_15 rfl (by first | exact Or.inl rfl | exact Or.inr rfl | assumption) ⟨Nat.le_refl _, Nat.le_refl _⟩ ?_
      refine ⟨rfl, ?_⟩
      first | exact jbt ⟨h1, h7⟩ | exact jbf (fun q => q.1 h1) | exact jbf (fun q => q.2 h7)
set_option maxRecDepth 100000 in
set_option maxHeartbeats 4000000 in
theorem c_M_changed   : MC l D mM_changed d 0 0 [vR (some (5, 0))] st (fun v s' => s' = mfg st ∧ v = none) := by
  refine jm_start (ls0 := [some (vR (some (5, 0)))]) (by decide) (Nat.le_of_ble_eq_true rfl) rfl ?_
  refine jm_aload_n (pc := 0) dM_changed_0 rfl ?_
  refine jm_iconst (pc := 1) (v := 0) dM_changed_1 (by decide) ?_
  refine jm_putz (pc := 2) pM_changed_138 dM_changed_2 rfl rfl (by first | exact Or.inl rfl | exact Or.inr rfl | assumption) ?_
  refine jm_aload_n (pc := 5) dM_changed_5 rfl ?_
  refine jm_iconst (pc := 6) (v := -1) dM_changed_6 (by decide) ?_
  refine jm_puti (pc := 7) pM_changed_108 dM_changed_7 rfl rfl ?_
  refine jm_vret (pc := 10) dM_changed_10 rfl ⟨Nat.le_refl _, Nat.le_refl _⟩ ?_
  exact ⟨rfl, rfl⟩
set_option maxRecDepth 100000 in
set_option maxHeartbeats 4000000 in
theorem c_M_isNode {n : Nat} {x : Int32} (hn : st.1 5 0 5 = nI n) : MC l D mM_isNode d 0 0 [vR (some (5, 0)), vI x] st (fun v s' => st = s' ∧ v = some (vI (jb (isN n x)))) := by
  refine jm_start (ls0 := [some (vR (some (5, 0))), some (vI x)]) (by decide) (Nat.le_of_ble_eq_true rfl) rfl ?_
  refine jm_iload_n (pc := 0) dM_isNode_0 rfl ?_
  refine jm_if_lt (pc := 1) (tgt := 16) dM_isNode_1 (by decide) (fun h1 => ?_) (fun h1 => ?_)
  · refine jm_iconst (pc := 16) (v := 0) dM_isNode_16 (by decide) ?_
    refine jm_zret (pc := 17) dM_isNode_17 rfl (by first | exact Or.inl rfl | exact Or.inr rfl | assumption) ⟨Nat.le_refl _, Nat.le_refl _⟩ ?_
    refine ⟨rfl, ?_⟩
    first | exact jbt ⟨h1, h9⟩ | exact jbf (fun q => q.1 h1) | exact jbf (fun q => q.2 h9)
  · refine jm_iload_n (pc := 4) dM_isNode_4 rfl ?_
    refine jm_aload_n (pc := 5) dM_isNode_5 rfl ?_
    refine jm_geti (pc := 6) lM_118 dM_isNode_6 rfl (fun _ => rfl) ?_
    rw [hn]
    refine jm_icmp_ge (pc := 9) (tgt := 16) dM_isNode_9 (by decide) (fun h9 => ?_) (fun h9 => ?_)
    · refine jm_iconst (pc := 16) (v := 0) dM_isNode_16 (by decide) ?_
      refine jm_zret (pc := 17) dM_isNode_17 rfl (by first | exact Or.inl rfl | exact Or.inr rfl | assumption) ⟨Nat.le_refl _, Nat.le_refl _⟩ ?_
      refine ⟨rfl, ?_⟩
      first | exact jbt ⟨h1, h9⟩ | exact jbf (fun q => q.1 h1) | exact jbf (fun q => q.2 h9)
    · refine jm_iconst (pc := 12) (v := 1) dM_isNode_12 (by decide) ?_
      refine jm_goto (pc := 13) (tgt := 17) dM_isNode_13 (by decide) ?_
      refine jm_zret (pc := 17) dM_isNode_17 rfl (by first | exact Or.inl rfl | exact Or.inr rfl | assumption) ⟨Nat.le_refl _, Nat.le_refl _⟩ ?_
      refine ⟨rfl, ?_⟩
      first | exact jbt ⟨h1, h9⟩ | exact jbf (fun q => q.1 h1) | exact jbf (fun q => q.2 h9)
theorem its {P : Prop} [Decidable P] {a b : aS} (h : P) : a = (if P then a else b) := by rw [if_pos h]
theorem itm {P : Prop} [Decidable P] {a b : aS} (h : ¬ P) : b = (if P then a else b) := by rw [if_neg h]
set_option maxRecDepth 100000 in
set_option maxHeartbeats 4000000 in
theorem t_M_predicate {x : Int32} (hM : MG E rm rv g w od sk st)  : MS l D mM_predicate d 0 0 (fun v s' => v = some (vI (if pdP (eNp E) x then nI (eNp E) else -1)) ∧ s' = (if pdP (eNp E) x then sI (sI (sI st 12 0 (eNp E) x) 13 0 (eNp E) 0) 5 0 1 (nI (eNp E + 1)) else st)) 0 0 5 [some (vR (some (5, 0))), some (vI x)] [] st := by
  obtain ⟨hm, hN, hP, m1_, m2_, m3_, m4_, m5_, m6_, m7_⟩ := hM
  have n60 := hP.2.1
  have en := hP.1
  refine jm_aload_n (pc := 5) dM_predicate_5 rfl ?_
  refine jm_geti (pc := 6) lM_142 dM_predicate_6 rfl (fun _ => rfl) ?_
  rw [en]
  refine jm_bipush (pc := 9) (v := 60) dM_predicate_9 (by decide) ?_
  refine jm_icmp_eq (pc := 11) (tgt := 24) dM_predicate_11 (by decide) (fun h11 => ?_) (fun h11 => ?_)
  · refine jm_iconst (pc := 24) (v := -1) dM_predicate_24 (by decide) ?_
    refine jm_iret (pc := 25) dM_predicate_25 rfl ⟨Nat.le_refl _, Nat.le_refl _⟩ ?_
    have hn : ¬ pdP (eNp E) x := fun q => by
      first
        | exact absurd ((nI_eq (b := 60) (Nat.lt_of_le_of_lt n60 (by decide)) (by decide)).mp h11) (Nat.ne_of_lt q.1)
        | exact q.2.1 h15
        | exact h21 q.2.2
    exact ⟨itn hn, itm hn⟩
  · refine jm_iload_n (pc := 14) dM_predicate_14 rfl ?_
    refine jm_if_lt (pc := 15) (tgt := 24) dM_predicate_15 (by decide) (fun h15 => ?_) (fun h15 => ?_)
    · refine jm_iconst (pc := 24) (v := -1) dM_predicate_24 (by decide) ?_
      refine jm_iret (pc := 25) dM_predicate_25 rfl ⟨Nat.le_refl _, Nat.le_refl _⟩ ?_
      have hn : ¬ pdP (eNp E) x := fun q => by
        first
          | exact absurd ((nI_eq (b := 60) (Nat.lt_of_le_of_lt n60 (by decide)) (by decide)).mp h11) (Nat.ne_of_lt q.1)
          | exact q.2.1 h15
          | exact h21 q.2.2
      exact ⟨itn hn, itm hn⟩
    · refine jm_iload_n (pc := 18) dM_predicate_18 rfl ?_
      refine jm_bipush (pc := 19) (v := 6) dM_predicate_19 (by decide) ?_
      refine jm_icmp_le (pc := 21) (tgt := 26) dM_predicate_21 (by decide) (fun h21 => ?_) (fun h21 => ?_)
      · have hnp : eNp E < 60 := by
          have : ¬ eNp E = 60 := fun z => h11 (by rw [z]; rfl)
          omega
        refine jm_aload_n (pc := 26) dM_predicate_26 rfl ?_
        refine jm_getq (pc := 27) lM_7 dM_predicate_27 rfl rfl (hm 2 rfl) ?_
        refine jm_aload_n (pc := 30) dM_predicate_30 rfl ?_
        refine jm_geti (pc := 31) lM_142 dM_predicate_31 rfl (fun _ => rfl) ?_
        rw [en]
        refine jm_iload_n (pc := 34) dM_predicate_34 rfl ?_
        refine jm_iast (pc := 35) dM_predicate_35 rfl (by decide) rfl (fun _ => rfl) ?hin ?_
        case hin =>
          exact vp_in_nI (N := 60) (by omega) (by decide)
        rw [nI_clamp (by omega)]
        refine jm_aload_n (pc := 36) dM_predicate_36 rfl ?_
        refine jm_getq (pc := 37) lM_13 dM_predicate_37 rfl rfl (hm 3 rfl) ?_
        refine jm_aload_n (pc := 40) dM_predicate_40 rfl ?_
        refine jm_geti (pc := 41) lM_142 dM_predicate_41 rfl (fun _ => rfl) ?_
        rw [show (sI st 12 0 (eNp E) x).1 5 0 1 = nI (eNp E) from (sI_ne (by omega)).trans en]
        refine jm_iconst (pc := 44) (v := 0) dM_predicate_44 (by decide) ?_
        refine jm_iast (pc := 45) dM_predicate_45 rfl (by decide) rfl (fun _ => rfl) ?hin ?_
        case hin =>
          exact vp_in_nI (N := 60) (by omega) (by decide)
        rw [nI_clamp (by omega)]
        refine jm_aload_n (pc := 46) dM_predicate_46 rfl ?_
        refine jm_dup (pc := 47) dM_predicate_47 rfl ?_
        refine jm_geti (pc := 48) lM_142 dM_predicate_48 rfl (fun _ => rfl) ?_
        rw [show (sI (sI st 12 0 (eNp E) x) 13 0 (eNp E) 0).1 5 0 1 = nI (eNp E) from (sI_ne (by omega)).trans ((sI_ne (by omega)).trans en)]
        refine jm_iconst (pc := 51) (v := 1) dM_predicate_51 (by decide) ?_
        refine jm_iadd (pc := 52) dM_predicate_52 ?_
        rw [show nI (eNp E) + 1 = nI (eNp E + 1) from nI_1 _]
        refine jm_puti (pc := 53) pM_predicate_142 dM_predicate_53 rfl rfl ?_
        refine jm_aload_n (pc := 56) dM_predicate_56 rfl ?_
        refine jm_geti (pc := 57) lM_142 dM_predicate_57 rfl (fun _ => rfl) ?_
        rw [sI_eq]
        refine jm_iconst (pc := 60) (v := 1) dM_predicate_60 (by decide) ?_
        refine jm_isub (pc := 61) dM_predicate_61 ?_
        rw [show nI (eNp E + 1) - 1 = nI (eNp E) from nI_pred _]
        refine jm_iret (pc := 62) dM_predicate_62 rfl ⟨Nat.le_refl _, Nat.le_refl _⟩ ?_
        have hy : pdP (eNp E) x := ⟨hnp, h15, h21⟩
        exact ⟨itp hy, its hy⟩
      · refine jm_iconst (pc := 24) (v := -1) dM_predicate_24 (by decide) ?_
        refine jm_iret (pc := 25) dM_predicate_25 rfl ⟨Nat.le_refl _, Nat.le_refl _⟩ ?_
        have hn : ¬ pdP (eNp E) x := fun q => by
          first
            | exact absurd ((nI_eq (b := 60) (Nat.lt_of_le_of_lt n60 (by decide)) (by decide)).mp h11) (Nat.ne_of_lt q.1)
            | exact q.2.1 h15
            | exact h21 q.2.2
        exact ⟨itn hn, itm hn⟩
set_option maxRecDepth 100000 in
set_option maxHeartbeats 4000000 in
theorem c_M_predicate {x : Int32} (hM : MG E rm rv g w od sk st)  : MC l D mM_predicate d 0 0 [vR (some (5, 0)), vI x] st (fun v s' => v = some (vI (if pdP (eNp E) x then nI (eNp E) else -1)) ∧ s' = (if pdP (eNp E) x then sI (sI (sI (sI st 5 0 0 0) 12 0 (eNp E) x) 13 0 (eNp E) 0) 5 0 1 (nI (eNp E + 1)) else (sI st 5 0 0 0))) := by
  refine jm_start (ls0 := [some (vR (some (5, 0))), some (vI x)]) (by decide) (Nat.le_of_ble_eq_true rfl) rfl ?_
  refine jm_aload_n (pc := 0) dM_predicate_0 rfl ?_
  refine jm_iconst (pc := 1) (v := 0) dM_predicate_1 (by decide) ?_
  refine jm_puti (pc := 2) pM_predicate_115 dM_predicate_2 rfl rfl ?_
  exact t_M_predicate hM.th 
set_option maxRecDepth 100000 in
set_option maxHeartbeats 4000000 in
theorem t_M_mode {j : Nat} {o2 : Int32} (hM : MG E rm rv g w od sk st) (hj : j < eNp E) (hmd : eMd E j < 4) (hd : 1 ≤ d) : MS l D mM_mode d 0 0 (fun v s' => v = some (vI (nI (eMd E j))) ∧ s' = mfg (sI (sI st 14 0 (4 * j + eMd E j) o2) 13 0 j (nI (eMd E j + 1)))) 0 0 5 [some (vR (some (5, 0))), some (vI (nI j)), some (vI o2), none] [] st := by
  obtain ⟨hm, hN, hP, m1_, m2_, m3_, m4_, m5_, m6_, m7_⟩ := hM
  have n60 := hP.2.1
  have en := hP.1
  obtain ⟨a1_, a2_, a3_, a4_, a5_⟩ := hP.2.2 j hj
  refine jm_iload_n (pc := 5) dM_mode_5 rfl ?_
  refine jm_if_lt (pc := 6) (tgt := 27) dM_mode_6 (by decide) (fun h6 => ?_) (fun h6 => ?_)
  · exact absurd h6 (nI_pos (by omega))
  · refine jm_iload_n (pc := 9) dM_mode_9 rfl ?_
    refine jm_aload_n (pc := 10) dM_mode_10 rfl ?_
    refine jm_geti (pc := 11) lM_142 dM_mode_11 rfl (fun _ => rfl) ?_
    rw [en]
    refine jm_icmp_ge (pc := 14) (tgt := 27) dM_mode_14 (by decide) (fun h14 => ?_) (fun h14 => ?_)
    · exact absurd h14 (nI_ge hj (by omega))
    · refine jm_aload_n (pc := 17) dM_mode_17 rfl ?_
      refine jm_getq (pc := 18) lM_13 dM_mode_18 rfl rfl (hm 3 rfl) ?_
      refine jm_iload_n (pc := 21) dM_mode_21 rfl ?_
      refine jm_iald (pc := 22) dM_mode_22 rfl (by decide) rfl (fun _ => rfl) ?hin ?_
      case hin =>
        exact vp_in_nI (N := 60) (by omega) (by decide)
      rw [nI_clamp (by omega), a3_]
      refine jm_iconst (pc := 23) (v := 4) dM_mode_23 (by decide) ?_
      refine jm_icmp_ne (pc := 24) (tgt := 29) dM_mode_24 (by decide) (fun h24 => ?_) (fun h24 => ?_)
      · refine jm_aload_n (pc := 29) dM_mode_29 rfl ?_
        refine jm_getq (pc := 30) lM_13 dM_mode_30 rfl rfl (hm 3 rfl) ?_
        refine jm_iload_n (pc := 33) dM_mode_33 rfl ?_
        refine jm_iald (pc := 34) dM_mode_34 rfl (by decide) rfl (fun _ => rfl) ?hin ?_
        case hin =>
          exact vp_in_nI (N := 60) (by omega) (by decide)
        rw [nI_clamp (by omega), a3_]
        refine jm_istore_n (pc := 35) dM_mode_35 (by decide) ?_
        refine jm_aload_n (pc := 36) dM_mode_36 rfl ?_
        refine jm_getq (pc := 37) lM_16 dM_mode_37 rfl rfl (hm 4 rfl) ?_
        refine jm_iconst (pc := 40) (v := 4) dM_mode_40 (by decide) ?_
        refine jm_iload_n (pc := 41) dM_mode_41 rfl ?_
        refine jm_imul (pc := 42) dM_mode_42 ?_
        refine jm_iload_n (pc := 43) dM_mode_43 rfl ?_
        refine jm_iadd (pc := 44) dM_mode_44 ?_
        rw [e4]
        refine jm_iload_n (pc := 45) dM_mode_45 rfl ?_
        refine jm_iast (pc := 46) dM_mode_46 rfl (by decide) rfl (fun _ => rfl) ?hin ?_
        case hin =>
          exact vp_in_nI (N := 240) (by omega) (by decide)
        rw [nI_clamp (by omega)]
        refine jm_aload_n (pc := 47) dM_mode_47 rfl ?_
        refine jm_getq (pc := 48) lM_13 dM_mode_48 rfl rfl (hm 3 rfl) ?_
        refine jm_iload_n (pc := 51) dM_mode_51 rfl ?_
        first | refine jm_dup2_2 (pc := 52) dM_mode_52 rfl ?_ | refine jm_dup2_11 (pc := 52) dM_mode_52 rfl rfl ?_
        refine jm_iald (pc := 53) dM_mode_53 rfl (by decide) rfl (fun _ => rfl) ?hin ?_
        case hin =>
          exact vp_in_nI (N := 60) (by omega) (by decide)
        rw [nI_clamp (by omega), show (sI st 14 0 (4 * j + eMd E j) o2).1 13 0 j = nI (eMd E j) from (sI_ne (by omega)).trans a3_]
        refine jm_iconst (pc := 54) (v := 1) dM_mode_54 (by decide) ?_
        refine jm_iadd (pc := 55) dM_mode_55 ?_
        rw [show nI (eMd E j) + 1 = nI (eMd E j + 1) from nI_1 _]
        refine jm_iast (pc := 56) dM_mode_56 rfl (by decide) rfl (fun _ => rfl) ?hin ?_
        case hin =>
          exact vp_in_nI (N := 60) (by omega) (by decide)
        rw [nI_clamp (by omega)]
        refine jm_aload_n (pc := 57) dM_mode_57 rfl ?_
        refine jm_callV (pc := 58) (c_M_changed (d := d - 1)) fM_changed vM_changed cM_135 dM_mode_58 rfl rfl rfl rfl (by omega) ⟨Nat.le_refl _, Nat.le_refl _⟩ rfl (Nat.le_of_ble_eq_true rfl) (fun v s2 hq => ?_)
        obtain ⟨rfl, rfl⟩ := hq
        refine jm_iload_n (pc := 61) dM_mode_61 rfl ?_
        refine jm_iret (pc := 62) dM_mode_62 rfl ⟨Nat.le_refl _, Nat.le_refl _⟩ ?_
        exact ⟨rfl, rfl⟩
      · exact absurd ((nI_eq (b := 4) (by omega) (by decide)).mp h24) (by omega)
set_option maxRecDepth 100000 in
set_option maxHeartbeats 4000000 in
theorem c_M_mode {j : Nat} {o2 : Int32} (hM : MG E rm rv g w od sk st) (hj : j < eNp E) (hmd : eMd E j < 4) (hd : 1 ≤ d) : MC l D mM_mode d 0 0 [vR (some (5, 0)), vI (nI j), vI o2] st (fun v s' => v = some (vI (nI (eMd E j))) ∧ s' = mfg (sI (sI (sI st 5 0 0 0) 14 0 (4 * j + eMd E j) o2) 13 0 j (nI (eMd E j + 1)))) := by
  refine jm_start (ls0 := [some (vR (some (5, 0))), some (vI (nI j)), some (vI o2), none]) (by decide) (Nat.le_of_ble_eq_true rfl) rfl ?_
  refine jm_aload_n (pc := 0) dM_mode_0 rfl ?_
  refine jm_iconst (pc := 1) (v := 0) dM_mode_1 (by decide) ?_
  refine jm_puti (pc := 2) pM_mode_115 dM_mode_2 rfl rfl ?_
  exact t_M_mode hM.th hj hmd hd
set_option maxRecDepth 100000 in
set_option maxHeartbeats 4000000 in
theorem t_M_mode_n {x o2 : Int32} (hM : MG E rm rv g w od sk st) (hx : ¬ moP (eNp E) (eMd E) x) : MS l D mM_mode d 0 0 (fun v s' => v = some (vI (-1)) ∧ st = s') 0 0 5 [some (vR (some (5, 0))), some (vI x), some (vI o2), none] [] st := by
  obtain ⟨hm, hN, hP, m1_, m2_, m3_, m4_, m5_, m6_, m7_⟩ := hM
  have n60 := hP.2.1
  have en := hP.1
  refine jm_iload_n (pc := 5) dM_mode_5 rfl ?_
  refine jm_if_lt (pc := 6) (tgt := 27) dM_mode_6 (by decide) (fun h6 => ?_) (fun h6 => ?_)
  · refine jm_iconst (pc := 27) (v := -1) dM_mode_27 (by decide) ?_
    refine jm_iret (pc := 28) dM_mode_28 rfl ⟨Nat.le_refl _, Nat.le_refl _⟩ ?_
    exact ⟨rfl, rfl⟩
  · refine jm_iload_n (pc := 9) dM_mode_9 rfl ?_
    refine jm_aload_n (pc := 10) dM_mode_10 rfl ?_
    refine jm_geti (pc := 11) lM_142 dM_mode_11 rfl (fun _ => rfl) ?_
    rw [en]
    refine jm_icmp_ge (pc := 14) (tgt := 27) dM_mode_14 (by decide) (fun h14 => ?_) (fun h14 => ?_)
    · refine jm_iconst (pc := 27) (v := -1) dM_mode_27 (by decide) ?_
      refine jm_iret (pc := 28) dM_mode_28 rfl ⟨Nat.le_refl _, Nat.le_refl _⟩ ?_
      exact ⟨rfl, rfl⟩
    · have hN : isN (eNp E) x := ⟨h6, h14⟩
      obtain ⟨j, hj, rfl⟩ := isN_of hN (by omega)
      have ej : (nI j).toNatClampNeg = j := nI_clamp (by omega)
      obtain ⟨a1_, a2_, a3_, a4_, a5_⟩ := hP.2.2 j hj
      refine jm_aload_n (pc := 17) dM_mode_17 rfl ?_
      refine jm_getq (pc := 18) lM_13 dM_mode_18 rfl rfl (hm 3 rfl) ?_
      refine jm_iload_n (pc := 21) dM_mode_21 rfl ?_
      refine jm_iald (pc := 22) dM_mode_22 rfl (by decide) rfl (fun _ => rfl) ?hin ?_
      case hin =>
        exact vp_in_nI (N := 60) (by omega) (by decide)
      rw [nI_clamp (by omega), a3_]
      refine jm_iconst (pc := 23) (v := 4) dM_mode_23 (by decide) ?_
      refine jm_icmp_ne (pc := 24) (tgt := 29) dM_mode_24 (by decide) (fun h24 => ?_) (fun h24 => ?_)
      · exact absurd ⟨hN, by rw [ej]; exact Nat.lt_of_le_of_ne a4_ (fun z => h24 (by rw [z]; rfl))⟩ hx
      · refine jm_iconst (pc := 27) (v := -1) dM_mode_27 (by decide) ?_
        refine jm_iret (pc := 28) dM_mode_28 rfl ⟨Nat.le_refl _, Nat.le_refl _⟩ ?_
        exact ⟨rfl, rfl⟩
set_option maxRecDepth 100000 in
set_option maxHeartbeats 4000000 in
theorem c_M_mode_n {x o2 : Int32} (hM : MG E rm rv g w od sk st) (hx : ¬ moP (eNp E) (eMd E) x) : MC l D mM_mode d 0 0 [vR (some (5, 0)), vI x, vI o2] st (fun v s' => v = some (vI (-1)) ∧ (sI st 5 0 0 0) = s') := by
  refine jm_start (ls0 := [some (vR (some (5, 0))), some (vI x), some (vI o2), none]) (by decide) (Nat.le_of_ble_eq_true rfl) rfl ?_
  refine jm_aload_n (pc := 0) dM_mode_0 rfl ?_
  refine jm_iconst (pc := 1) (v := 0) dM_mode_1 (by decide) ?_
  refine jm_puti (pc := 2) pM_mode_115 dM_mode_2 rfl rfl ?_
  exact t_M_mode_n hM.th hx
set_option maxRecDepth 100000 in
set_option maxHeartbeats 4000000 in
theorem t_M_put {x : Int32} (hM : MG E rm rv g w od sk st) (hr7 : rm ≤ 7) (hd : 1 ≤ d) : MS l D mM_put d 0 0 (fun v s' => v = some (vI (jb (rm < 7 ∧ isV x))) ∧ s' = (if rm < 7 ∧ isV x then sI (sI st 25 0 rm x) 5 0 17 (nI (rm + 1)) else st)) 0 0 5 [some (vR (some (5, 0))), some (vI x)] [] st := by
  obtain ⟨hm, hN, hP, m1_, m2_, m3_, m4_, m5_, m6_, m7_⟩ := hM
  refine jm_aload_n (pc := 5) dM_put_5 rfl ?_
  refine jm_geti (pc := 6) lM_121 dM_put_6 rfl (fun _ => rfl) ?_
  rw [m2_]
  refine jm_bipush (pc := 9) (v := 7) dM_put_9 (by decide) ?_
  refine jm_icmp_eq (pc := 11) (tgt := 21) dM_put_11 (by decide) (fun h11 => ?_) (fun h11 => ?_)
  · refine jm_iconst (pc := 21) (v := 0) dM_put_21 (by decide) ?_
    refine jm_zret (pc := 22) dM_put_22 rfl (by first | exact Or.inl rfl | exact Or.inr rfl | assumption) ⟨Nat.le_refl _, Nat.le_refl _⟩ ?_
    have hn : ¬ (rm < 7 ∧ isV x) := fun q => by
      first
        | exact absurd ((nI_eq (b := 7) (Nat.lt_of_le_of_lt hr7 (by decide)) (by decide)).mp h11) (Nat.ne_of_lt q.1)
        | exact jb_eq0 h18 q.2
    exact ⟨jbf hn, itm hn⟩
  · refine jm_iload_n (pc := 14) dM_put_14 rfl ?_
    refine jm_callS (pc := 15) (c_M_isVariable (d := d - 1) x) fM_isVariable sM_isVariable cM_145 dM_put_15 rfl (by omega) ⟨Nat.le_refl _, Nat.le_refl _⟩ rfl (Nat.le_of_ble_eq_true rfl) (fun v s2 hq => ?_)
    obtain ⟨rfl, rfl⟩ := hq
    refine jm_if_ne (pc := 18) (tgt := 23) dM_put_18 (by decide) (fun h18 => ?_) (fun h18 => ?_)
    · have hy : rm < 7 ∧ isV x := ⟨Nat.lt_of_le_of_ne hr7 (fun z => h11 (by rw [z]; rfl)), jb_ne0 h18⟩
      refine jm_aload_n (pc := 23) dM_put_23 rfl ?_
      refine jm_getq (pc := 24) lM_49 dM_put_24 rfl rfl (hm 16 rfl) ?_
      refine jm_aload_n (pc := 27) dM_put_27 rfl ?_
      refine jm_geti (pc := 28) lM_121 dM_put_28 rfl (fun _ => rfl) ?_
      rw [m2_]
      refine jm_iload_n (pc := 31) dM_put_31 rfl ?_
      refine jm_iast (pc := 32) dM_put_32 rfl (by decide) rfl (fun _ => rfl) ?hin ?_
      case hin =>
        exact vp_in_nI (N := 7) (by omega) (by decide)
      rw [nI_clamp (by omega)]
      refine jm_aload_n (pc := 33) dM_put_33 rfl ?_
      refine jm_dup (pc := 34) dM_put_34 rfl ?_
      refine jm_geti (pc := 35) lM_121 dM_put_35 rfl (fun _ => rfl) ?_
      rw [show (sI st 25 0 rm x).1 5 0 17 = nI rm from (sI_ne (by omega)).trans m2_]
      refine jm_iconst (pc := 38) (v := 1) dM_put_38 (by decide) ?_
      refine jm_iadd (pc := 39) dM_put_39 ?_
      rw [show nI rm + 1 = nI (rm + 1) from nI_1 rm]
      refine jm_puti (pc := 40) pM_put_121 dM_put_40 rfl rfl ?_
      refine jm_iconst (pc := 43) (v := 1) dM_put_43 (by decide) ?_
      refine jm_zret (pc := 44) dM_put_44 rfl (by first | exact Or.inl rfl | exact Or.inr rfl | assumption) ⟨Nat.le_refl _, Nat.le_refl _⟩ ?_
      exact ⟨jbt hy, its hy⟩
    · refine jm_iconst (pc := 21) (v := 0) dM_put_21 (by decide) ?_
      refine jm_zret (pc := 22) dM_put_22 rfl (by first | exact Or.inl rfl | exact Or.inr rfl | assumption) ⟨Nat.le_refl _, Nat.le_refl _⟩ ?_
      have hn : ¬ (rm < 7 ∧ isV x) := fun q => by
        first
          | exact absurd ((nI_eq (b := 7) (Nat.lt_of_le_of_lt hr7 (by decide)) (by decide)).mp h11) (Nat.ne_of_lt q.1)
          | exact jb_eq0 h18 q.2
      exact ⟨jbf hn, itm hn⟩
set_option maxRecDepth 100000 in
set_option maxHeartbeats 4000000 in
theorem c_M_put {x : Int32} (hM : MG E rm rv g w od sk st) (hr7 : rm ≤ 7) (hd : 1 ≤ d) : MC l D mM_put d 0 0 [vR (some (5, 0)), vI x] st (fun v s' => v = some (vI (jb (rm < 7 ∧ isV x))) ∧ s' = (if rm < 7 ∧ isV x then sI (sI (sI st 5 0 0 0) 25 0 rm x) 5 0 17 (nI (rm + 1)) else (sI st 5 0 0 0))) := by
  refine jm_start (ls0 := [some (vR (some (5, 0))), some (vI x)]) (by decide) (Nat.le_of_ble_eq_true rfl) rfl ?_
  refine jm_aload_n (pc := 0) dM_put_0 rfl ?_
  refine jm_iconst (pc := 1) (v := 0) dM_put_1 (by decide) ?_
  refine jm_puti (pc := 2) pM_put_115 dM_put_2 rfl rfl ?_
  exact t_M_put hM.th hr7 hd
set_option maxRecDepth 100000 in
set_option maxHeartbeats 4000000 in
theorem t_M_given {x b : Int32} (hM : MG E rm rv g w od sk st) (hd : 1 ≤ d) : MS l D mM_given d 0 0 (fun v s' => v = some (vI (jb (isV x ∧ ¬ jb (((g >>> (x.toInt64 &&& 63)) &&& 1) = 1) = b))) ∧ s' = (if isV x ∧ ¬ jb (((g >>> (x.toInt64 &&& 63)) &&& 1) = 1) = b then mfg (sL st 5 0 18 (g ^^^ ((1 : Int64) <<< (x.toInt64 &&& 63)))) else st)) 0 0 5 [some (vR (some (5, 0))), some (vI x), some (vI b)] [] st := by
  obtain ⟨hm, hN, hP, m1_, m2_, m3_, m4_, m5_, m6_, m7_⟩ := hM
  refine jm_iload_n (pc := 5) dM_given_5 rfl ?_
  refine jm_callS (pc := 6) (c_M_isVariable (d := d - 1) x) fM_isVariable sM_isVariable cM_145 dM_given_6 rfl (by omega) ⟨Nat.le_refl _, Nat.le_refl _⟩ rfl (Nat.le_of_ble_eq_true rfl) (fun v s2 hq => ?_)
  obtain ⟨rfl, rfl⟩ := hq
  refine jm_if_eq (pc := 9) (tgt := 34) dM_given_9 (by decide) (fun h9 => ?_) (fun h9 => ?_)
  · refine jm_iconst (pc := 34) (v := 0) dM_given_34 (by decide) ?_
    refine jm_zret (pc := 35) dM_given_35 rfl (by first | exact Or.inl rfl | exact Or.inr rfl | assumption) ⟨Nat.le_refl _, Nat.le_refl _⟩ ?_
    have hn : ¬ (isV x ∧ ¬ jb (((g >>> (x.toInt64 &&& 63)) &&& 1) = 1) = b) := fun q => by
      first
        | exact jb_eq0 h9 q.1
        | exact q.2 ((jb_t (p := ((g >>> (x.toInt64 &&& 63)) &&& 1) = 1) (lg1.mp h22)).trans h31)
        | exact q.2 ((jb_f (p := ((g >>> (x.toInt64 &&& 63)) &&& 1) = 1) (fun z => h22 (lg1.mpr z))).trans h31)
    exact ⟨jbf hn, itm hn⟩
  · refine jm_aload_n (pc := 12) dM_given_12 rfl ?_
    refine jm_getl (pc := 13) lM_124 dM_given_13 rfl (fun _ => rfl) ?_
    rw [m4_]
    refine jm_iload_n (pc := 16) dM_given_16 rfl ?_
    refine jm_lshr (pc := 17) dM_given_17 ?_
    refine jm_lconst (pc := 18) (v := 1) dM_given_18 (by decide) ?_
    refine jm_land (pc := 19) dM_given_19 ?_
    refine jm_lconst (pc := 20) (v := 1) dM_given_20 (by decide) ?_
    refine jm_lcmp (pc := 21) dM_given_21 ?_
    refine jm_if_ne (pc := 22) (tgt := 29) dM_given_22 (by decide) (fun h22 => ?_) (fun h22 => ?_)
    · refine jm_iconst (pc := 29) (v := 0) dM_given_29 (by decide) ?_
      refine jm_iload_n (pc := 30) dM_given_30 rfl ?_
      refine jm_icmp_ne (pc := 31) (tgt := 36) dM_given_31 (by decide) (fun h31 => ?_) (fun h31 => ?_)
      · refine jm_aload_n (pc := 36) dM_given_36 rfl ?_
        refine jm_aload_n (pc := 37) dM_given_37 rfl ?_
        refine jm_getl (pc := 38) lM_124 dM_given_38 rfl (fun _ => rfl) ?_
        rw [m4_]
        refine jm_lconst (pc := 41) (v := 1) dM_given_41 (by decide) ?_
        refine jm_iload_n (pc := 42) dM_given_42 rfl ?_
        refine jm_lshl (pc := 43) dM_given_43 ?_
        refine jm_lxor (pc := 44) dM_given_44 ?_
        refine jm_putl (pc := 45) pM_given_124 dM_given_45 rfl rfl ?_
        refine jm_aload_n (pc := 48) dM_given_48 rfl ?_
        refine jm_callV (pc := 49) (c_M_changed (d := d - 1)) fM_changed vM_changed cM_135 dM_given_49 rfl rfl rfl rfl (by omega) ⟨Nat.le_refl _, Nat.le_refl _⟩ rfl (Nat.le_of_ble_eq_true rfl) (fun v s2 hq => ?_)
        obtain ⟨rfl, rfl⟩ := hq
        refine jm_iconst (pc := 52) (v := 1) dM_given_52 (by decide) ?_
        refine jm_zret (pc := 53) dM_given_53 rfl (by first | exact Or.inl rfl | exact Or.inr rfl | assumption) ⟨Nat.le_refl _, Nat.le_refl _⟩ ?_
        have hy : isV x ∧ ¬ jb (((g >>> (x.toInt64 &&& 63)) &&& 1) = 1) = b := ⟨jb_ne0 h9, fun q => by
          first
            | exact h31 ((jb_t (p := ((g >>> (x.toInt64 &&& 63)) &&& 1) = 1) (lg1.mp h22)).symm.trans q)
            | exact h31 ((jb_f (p := ((g >>> (x.toInt64 &&& 63)) &&& 1) = 1) (fun z => h22 (lg1.mpr z))).symm.trans q)⟩
        exact ⟨jbt hy, its hy⟩
      · refine jm_iconst (pc := 34) (v := 0) dM_given_34 (by decide) ?_
        refine jm_zret (pc := 35) dM_given_35 rfl (by first | exact Or.inl rfl | exact Or.inr rfl | assumption) ⟨Nat.le_refl _, Nat.le_refl _⟩ ?_
        have hn : ¬ (isV x ∧ ¬ jb (((g >>> (x.toInt64 &&& 63)) &&& 1) = 1) = b) := fun q => by
          first
            | exact jb_eq0 h9 q.1
            | exact q.2 ((jb_t (p := ((g >>> (x.toInt64 &&& 63)) &&& 1) = 1) (lg1.mp h22)).trans h31)
            | exact q.2 ((jb_f (p := ((g >>> (x.toInt64 &&& 63)) &&& 1) = 1) (fun z => h22 (lg1.mpr z))).trans h31)
        exact ⟨jbf hn, itm hn⟩
    · refine jm_iconst (pc := 25) (v := 1) dM_given_25 (by decide) ?_
      refine jm_goto (pc := 26) (tgt := 30) dM_given_26 (by decide) ?_
      refine jm_iload_n (pc := 30) dM_given_30 rfl ?_
      refine jm_icmp_ne (pc := 31) (tgt := 36) dM_given_31 (by decide) (fun h31 => ?_) (fun h31 => ?_)
      · refine jm_aload_n (pc := 36) dM_given_36 rfl ?_
        refine jm_aload_n (pc := 37) dM_given_37 rfl ?_
        refine jm_getl (pc := 38) lM_124 dM_given_38 rfl (fun _ => rfl) ?_
        rw [m4_]
        refine jm_lconst (pc := 41) (v := 1) dM_given_41 (by decide) ?_
        refine jm_iload_n (pc := 42) dM_given_42 rfl ?_
        refine jm_lshl (pc := 43) dM_given_43 ?_
        refine jm_lxor (pc := 44) dM_given_44 ?_
        refine jm_putl (pc := 45) pM_given_124 dM_given_45 rfl rfl ?_
        refine jm_aload_n (pc := 48) dM_given_48 rfl ?_
        refine jm_callV (pc := 49) (c_M_changed (d := d - 1)) fM_changed vM_changed cM_135 dM_given_49 rfl rfl rfl rfl (by omega) ⟨Nat.le_refl _, Nat.le_refl _⟩ rfl (Nat.le_of_ble_eq_true rfl) (fun v s2 hq => ?_)
        obtain ⟨rfl, rfl⟩ := hq
        refine jm_iconst (pc := 52) (v := 1) dM_given_52 (by decide) ?_
        refine jm_zret (pc := 53) dM_given_53 rfl (by first | exact Or.inl rfl | exact Or.inr rfl | assumption) ⟨Nat.le_refl _, Nat.le_refl _⟩ ?_
        have hy : isV x ∧ ¬ jb (((g >>> (x.toInt64 &&& 63)) &&& 1) = 1) = b := ⟨jb_ne0 h9, fun q => by
          first
            | exact h31 ((jb_t (p := ((g >>> (x.toInt64 &&& 63)) &&& 1) = 1) (lg1.mp h22)).symm.trans q)
            | exact h31 ((jb_f (p := ((g >>> (x.toInt64 &&& 63)) &&& 1) = 1) (fun z => h22 (lg1.mpr z))).symm.trans q)⟩
        exact ⟨jbt hy, its hy⟩
      · refine jm_iconst (pc := 34) (v := 0) dM_given_34 (by decide) ?_
        refine jm_zret (pc := 35) dM_given_35 rfl (by first | exact Or.inl rfl | exact Or.inr rfl | assumption) ⟨Nat.le_refl _, Nat.le_refl _⟩ ?_
        have hn : ¬ (isV x ∧ ¬ jb (((g >>> (x.toInt64 &&& 63)) &&& 1) = 1) = b) := fun q => by
          first
            | exact jb_eq0 h9 q.1
            | exact q.2 ((jb_t (p := ((g >>> (x.toInt64 &&& 63)) &&& 1) = 1) (lg1.mp h22)).trans h31)
            | exact q.2 ((jb_f (p := ((g >>> (x.toInt64 &&& 63)) &&& 1) = 1) (fun z => h22 (lg1.mpr z))).trans h31)
        exact ⟨jbf hn, itm hn⟩
set_option maxRecDepth 100000 in
set_option maxHeartbeats 4000000 in
theorem c_M_given {x b : Int32} (hM : MG E rm rv g w od sk st) (hd : 1 ≤ d) : MC l D mM_given d 0 0 [vR (some (5, 0)), vI x, vI b] st (fun v s' => v = some (vI (jb (isV x ∧ ¬ jb (((g >>> (x.toInt64 &&& 63)) &&& 1) = 1) = b))) ∧ s' = (if isV x ∧ ¬ jb (((g >>> (x.toInt64 &&& 63)) &&& 1) = 1) = b then mfg (sL (sI st 5 0 0 0) 5 0 18 (g ^^^ ((1 : Int64) <<< (x.toInt64 &&& 63)))) else (sI st 5 0 0 0))) := by
  refine jm_start (ls0 := [some (vR (some (5, 0))), some (vI x), some (vI b)]) (by decide) (Nat.le_of_ble_eq_true rfl) rfl ?_
  refine jm_aload_n (pc := 0) dM_given_0 rfl ?_
  refine jm_iconst (pc := 1) (v := 0) dM_given_1 (by decide) ?_
  refine jm_puti (pc := 2) pM_given_115 dM_given_2 rfl rfl ?_
  exact t_M_given hM.th hd
set_option maxRecDepth 100000 in
set_option maxHeartbeats 4000000 in
theorem t_M_wanted {x b : Int32} (hM : MG E rm rv g w od sk st) (hd : 1 ≤ d) : MS l D mM_wanted d 0 0 (fun v s' => v = some (vI (jb (isV x ∧ ¬ jb (((w >>> (x.toInt64 &&& 63)) &&& 1) = 1) = b))) ∧ s' = (if isV x ∧ ¬ jb (((w >>> (x.toInt64 &&& 63)) &&& 1) = 1) = b then mfg (sL st 5 0 19 (w ^^^ ((1 : Int64) <<< (x.toInt64 &&& 63)))) else st)) 0 0 5 [some (vR (some (5, 0))), some (vI x), some (vI b)] [] st := by
  obtain ⟨hm, hN, hP, m1_, m2_, m3_, m4_, m5_, m6_, m7_⟩ := hM
  refine jm_iload_n (pc := 5) dM_wanted_5 rfl ?_
  refine jm_callS (pc := 6) (c_M_isVariable (d := d - 1) x) fM_isVariable sM_isVariable cM_145 dM_wanted_6 rfl (by omega) ⟨Nat.le_refl _, Nat.le_refl _⟩ rfl (Nat.le_of_ble_eq_true rfl) (fun v s2 hq => ?_)
  obtain ⟨rfl, rfl⟩ := hq
  refine jm_if_eq (pc := 9) (tgt := 34) dM_wanted_9 (by decide) (fun h9 => ?_) (fun h9 => ?_)
  · refine jm_iconst (pc := 34) (v := 0) dM_wanted_34 (by decide) ?_
    refine jm_zret (pc := 35) dM_wanted_35 rfl (by first | exact Or.inl rfl | exact Or.inr rfl | assumption) ⟨Nat.le_refl _, Nat.le_refl _⟩ ?_
    have hn : ¬ (isV x ∧ ¬ jb (((w >>> (x.toInt64 &&& 63)) &&& 1) = 1) = b) := fun q => by
      first
        | exact jb_eq0 h9 q.1
        | exact q.2 ((jb_t (p := ((w >>> (x.toInt64 &&& 63)) &&& 1) = 1) (lg1.mp h22)).trans h31)
        | exact q.2 ((jb_f (p := ((w >>> (x.toInt64 &&& 63)) &&& 1) = 1) (fun z => h22 (lg1.mpr z))).trans h31)
    exact ⟨jbf hn, itm hn⟩
  · refine jm_aload_n (pc := 12) dM_wanted_12 rfl ?_
    refine jm_getl (pc := 13) lM_128 dM_wanted_13 rfl (fun _ => rfl) ?_
    rw [m5_]
    refine jm_iload_n (pc := 16) dM_wanted_16 rfl ?_
    refine jm_lshr (pc := 17) dM_wanted_17 ?_
    refine jm_lconst (pc := 18) (v := 1) dM_wanted_18 (by decide) ?_
    refine jm_land (pc := 19) dM_wanted_19 ?_
    refine jm_lconst (pc := 20) (v := 1) dM_wanted_20 (by decide) ?_
    refine jm_lcmp (pc := 21) dM_wanted_21 ?_
    refine jm_if_ne (pc := 22) (tgt := 29) dM_wanted_22 (by decide) (fun h22 => ?_) (fun h22 => ?_)
    · refine jm_iconst (pc := 29) (v := 0) dM_wanted_29 (by decide) ?_
      refine jm_iload_n (pc := 30) dM_wanted_30 rfl ?_
      refine jm_icmp_ne (pc := 31) (tgt := 36) dM_wanted_31 (by decide) (fun h31 => ?_) (fun h31 => ?_)
      · refine jm_aload_n (pc := 36) dM_wanted_36 rfl ?_
        refine jm_aload_n (pc := 37) dM_wanted_37 rfl ?_
        refine jm_getl (pc := 38) lM_128 dM_wanted_38 rfl (fun _ => rfl) ?_
        rw [m5_]
        refine jm_lconst (pc := 41) (v := 1) dM_wanted_41 (by decide) ?_
        refine jm_iload_n (pc := 42) dM_wanted_42 rfl ?_
        refine jm_lshl (pc := 43) dM_wanted_43 ?_
        refine jm_lxor (pc := 44) dM_wanted_44 ?_
        refine jm_putl (pc := 45) pM_wanted_128 dM_wanted_45 rfl rfl ?_
        refine jm_aload_n (pc := 48) dM_wanted_48 rfl ?_
        refine jm_callV (pc := 49) (c_M_changed (d := d - 1)) fM_changed vM_changed cM_135 dM_wanted_49 rfl rfl rfl rfl (by omega) ⟨Nat.le_refl _, Nat.le_refl _⟩ rfl (Nat.le_of_ble_eq_true rfl) (fun v s2 hq => ?_)
        obtain ⟨rfl, rfl⟩ := hq
        refine jm_iconst (pc := 52) (v := 1) dM_wanted_52 (by decide) ?_
        refine jm_zret (pc := 53) dM_wanted_53 rfl (by first | exact Or.inl rfl | exact Or.inr rfl | assumption) ⟨Nat.le_refl _, Nat.le_refl _⟩ ?_
        have hy : isV x ∧ ¬ jb (((w >>> (x.toInt64 &&& 63)) &&& 1) = 1) = b := ⟨jb_ne0 h9, fun q => by
          first
            | exact h31 ((jb_t (p := ((w >>> (x.toInt64 &&& 63)) &&& 1) = 1) (lg1.mp h22)).symm.trans q)
            | exact h31 ((jb_f (p := ((w >>> (x.toInt64 &&& 63)) &&& 1) = 1) (fun z => h22 (lg1.mpr z))).symm.trans q)⟩
        exact ⟨jbt hy, its hy⟩
      · refine jm_iconst (pc := 34) (v := 0) dM_wanted_34 (by decide) ?_
        refine jm_zret (pc := 35) dM_wanted_35 rfl (by first | exact Or.inl rfl | exact Or.inr rfl | assumption) ⟨Nat.le_refl _, Nat.le_refl _⟩ ?_
        have hn : ¬ (isV x ∧ ¬ jb (((w >>> (x.toInt64 &&& 63)) &&& 1) = 1) = b) := fun q => by
          first
            | exact jb_eq0 h9 q.1
            | exact q.2 ((jb_t (p := ((w >>> (x.toInt64 &&& 63)) &&& 1) = 1) (lg1.mp h22)).trans h31)
            | exact q.2 ((jb_f (p := ((w >>> (x.toInt64 &&& 63)) &&& 1) = 1) (fun z => h22 (lg1.mpr z))).trans h31)
        exact ⟨jbf hn, itm hn⟩
    · refine jm_iconst (pc := 25) (v := 1) dM_wanted_25 (by decide) ?_
      refine jm_goto (pc := 26) (tgt := 30) dM_wanted_26 (by decide) ?_
      refine jm_iload_n (pc := 30) dM_wanted_30 rfl ?_
      refine jm_icmp_ne (pc := 31) (tgt := 36) dM_wanted_31 (by decide) (fun h31 => ?_) (fun h31 => ?_)
      · refine jm_aload_n (pc := 36) dM_wanted_36 rfl ?_
        refine jm_aload_n (pc := 37) dM_wanted_37 rfl ?_
        refine jm_getl (pc := 38) lM_128 dM_wanted_38 rfl (fun _ => rfl) ?_
        rw [m5_]
        refine jm_lconst (pc := 41) (v := 1) dM_wanted_41 (by decide) ?_
        refine jm_iload_n (pc := 42) dM_wanted_42 rfl ?_
        refine jm_lshl (pc := 43) dM_wanted_43 ?_
        refine jm_lxor (pc := 44) dM_wanted_44 ?_
        refine jm_putl (pc := 45) pM_wanted_128 dM_wanted_45 rfl rfl ?_
        refine jm_aload_n (pc := 48) dM_wanted_48 rfl ?_
        refine jm_callV (pc := 49) (c_M_changed (d := d - 1)) fM_changed vM_changed cM_135 dM_wanted_49 rfl rfl rfl rfl (by omega) ⟨Nat.le_refl _, Nat.le_refl _⟩ rfl (Nat.le_of_ble_eq_true rfl) (fun v s2 hq => ?_)
        obtain ⟨rfl, rfl⟩ := hq
        refine jm_iconst (pc := 52) (v := 1) dM_wanted_52 (by decide) ?_
        refine jm_zret (pc := 53) dM_wanted_53 rfl (by first | exact Or.inl rfl | exact Or.inr rfl | assumption) ⟨Nat.le_refl _, Nat.le_refl _⟩ ?_
        have hy : isV x ∧ ¬ jb (((w >>> (x.toInt64 &&& 63)) &&& 1) = 1) = b := ⟨jb_ne0 h9, fun q => by
          first
            | exact h31 ((jb_t (p := ((w >>> (x.toInt64 &&& 63)) &&& 1) = 1) (lg1.mp h22)).symm.trans q)
            | exact h31 ((jb_f (p := ((w >>> (x.toInt64 &&& 63)) &&& 1) = 1) (fun z => h22 (lg1.mpr z))).symm.trans q)⟩
        exact ⟨jbt hy, its hy⟩
      · refine jm_iconst (pc := 34) (v := 0) dM_wanted_34 (by decide) ?_
        refine jm_zret (pc := 35) dM_wanted_35 rfl (by first | exact Or.inl rfl | exact Or.inr rfl | assumption) ⟨Nat.le_refl _, Nat.le_refl _⟩ ?_
        have hn : ¬ (isV x ∧ ¬ jb (((w >>> (x.toInt64 &&& 63)) &&& 1) = 1) = b) := fun q => by
          first
            | exact jb_eq0 h9 q.1
            | exact q.2 ((jb_t (p := ((w >>> (x.toInt64 &&& 63)) &&& 1) = 1) (lg1.mp h22)).trans h31)
            | exact q.2 ((jb_f (p := ((w >>> (x.toInt64 &&& 63)) &&& 1) = 1) (fun z => h22 (lg1.mpr z))).trans h31)
        exact ⟨jbf hn, itm hn⟩
set_option maxRecDepth 100000 in
set_option maxHeartbeats 4000000 in
theorem c_M_wanted {x b : Int32} (hM : MG E rm rv g w od sk st) (hd : 1 ≤ d) : MC l D mM_wanted d 0 0 [vR (some (5, 0)), vI x, vI b] st (fun v s' => v = some (vI (jb (isV x ∧ ¬ jb (((w >>> (x.toInt64 &&& 63)) &&& 1) = 1) = b))) ∧ s' = (if isV x ∧ ¬ jb (((w >>> (x.toInt64 &&& 63)) &&& 1) = 1) = b then mfg (sL (sI st 5 0 0 0) 5 0 19 (w ^^^ ((1 : Int64) <<< (x.toInt64 &&& 63)))) else (sI st 5 0 0 0))) := by
  refine jm_start (ls0 := [some (vR (some (5, 0))), some (vI x), some (vI b)]) (by decide) (Nat.le_of_ble_eq_true rfl) rfl ?_
  refine jm_aload_n (pc := 0) dM_wanted_0 rfl ?_
  refine jm_iconst (pc := 1) (v := 0) dM_wanted_1 (by decide) ?_
  refine jm_puti (pc := 2) pM_wanted_115 dM_wanted_2 rfl rfl ?_
  exact t_M_wanted hM.th hd
set_option maxRecDepth 100000 in
set_option maxHeartbeats 4000000 in
theorem t_M_stuck  (hM : MG E rm rv g w od sk st)  : MS l D mM_stuck d 0 0 (fun v s' => v = some (vI sk) ∧ st = s') 0 0 5 [some (vR (some (5, 0)))] [] st := by
  obtain ⟨hm, hN, hP, m1_, m2_, m3_, m4_, m5_, m6_, m7_⟩ := hM
  refine jm_aload_n (pc := 5) dM_stuck_5 rfl ?_
  refine jm_geti (pc := 6) lM_108 dM_stuck_6 rfl (fun _ => rfl) ?_
  rw [m7_]
  refine jm_iret (pc := 9) dM_stuck_9 rfl ⟨Nat.le_refl _, Nat.le_refl _⟩ ?_
  exact ⟨rfl, rfl⟩
set_option maxRecDepth 100000 in
set_option maxHeartbeats 4000000 in
theorem c_M_stuck  (hM : MG E rm rv g w od sk st)  : MC l D mM_stuck d 0 0 [vR (some (5, 0))] st (fun v s' => v = some (vI sk) ∧ (sI st 5 0 0 0) = s') := by
  refine jm_start (ls0 := [some (vR (some (5, 0)))]) (by decide) (Nat.le_of_ble_eq_true rfl) rfl ?_
  refine jm_aload_n (pc := 0) dM_stuck_0 rfl ?_
  refine jm_iconst (pc := 1) (v := 0) dM_stuck_1 (by decide) ?_
  refine jm_puti (pc := 2) pM_stuck_115 dM_stuck_2 rfl rfl ?_
  exact t_M_stuck hM.th 
set_option maxRecDepth 100000 in
set_option maxHeartbeats 4000000 in
theorem t_M_node_n {x q : Int32} (hM : MG E rm rv g w od sk st) (hx : ¬ isN (eN E) x) (hd : 1 ≤ d) : MS l D mM_node d 0 0 (fun v s' => v = some (vI (-1)) ∧ st = s') 0 0 5 [some (vR (some (5, 0))), some (vI x), some (vI q)] [] st := by
  obtain ⟨hm, hN, hP, m1_, m2_, m3_, m4_, m5_, m6_, m7_⟩ := hM
  refine jm_aload_n (pc := 5) dM_node_5 rfl ?_
  refine jm_iload_n (pc := 6) dM_node_6 rfl ?_
  refine jm_callV (pc := 7) (c_M_isNode (d := d - 1) m1_) fM_isNode vM_isNode cM_149 dM_node_7 rfl rfl rfl rfl (by omega) ⟨Nat.le_refl _, Nat.le_refl _⟩ rfl (Nat.le_of_ble_eq_true rfl) (fun v s2 hq => ?_)
  obtain ⟨rfl, rfl⟩ := hq
  refine jm_if_ne (pc := 10) (tgt := 15) dM_node_10 (by decide) (fun h10 => ?_) (fun h10 => ?_)
  · exact absurd (jb_ne0 h10) hx
  · refine jm_iconst (pc := 13) (v := -1) dM_node_13 (by decide) ?_
    refine jm_iret (pc := 14) dM_node_14 rfl ⟨Nat.le_refl _, Nat.le_refl _⟩ ?_
    exact ⟨rfl, rfl⟩
set_option maxRecDepth 100000 in
set_option maxHeartbeats 4000000 in
theorem c_M_node_n {x q : Int32} (hM : MG E rm rv g w od sk st) (hx : ¬ isN (eN E) x) (hd : 1 ≤ d) : MC l D mM_node d 0 0 [vR (some (5, 0)), vI x, vI q] st (fun v s' => v = some (vI (-1)) ∧ (sI st 5 0 0 0) = s') := by
  refine jm_start (ls0 := [some (vR (some (5, 0))), some (vI x), some (vI q)]) (by decide) (Nat.le_of_ble_eq_true rfl) rfl ?_
  refine jm_aload_n (pc := 0) dM_node_0 rfl ?_
  refine jm_iconst (pc := 1) (v := 0) dM_node_1 (by decide) ?_
  refine jm_puti (pc := 2) pM_node_115 dM_node_2 rfl rfl ?_
  exact t_M_node_n hM.th hx hd
set_option maxRecDepth 100000 in
set_option maxHeartbeats 4000000 in
theorem t_M_node_a {i : Nat} (hM : MG E rm rv g w od sk st) (hi : i < eN E) (h31_ : eN E < 2 ^ 31) (hs12 : eS E i ≤ 12) (hd : 1 ≤ d) : MS l D mM_node d 0 0 (fun v s' => v = some (vI (if ¬ od = 0 ∧ 3 < eS E i then st.1 34 0 i else -1)) ∧ st = s') 0 0 5 [some (vR (some (5, 0))), some (vI (nI i)), some (vI (-1))] [] st := by
  obtain ⟨hm, hN, hP, m1_, m2_, m3_, m4_, m5_, m6_, m7_⟩ := hM
  obtain ⟨n1_, n2_, n3_, n4_, n5_, n6_, n7_, n8_, n9_⟩ := hN i hi
  have hi250 : i < 250 := n8_.2.2.1
  have yN : isN (eN E) (nI i) := isN_nI hi h31_
  refine jm_aload_n (pc := 5) dM_node_5 rfl ?_
  refine jm_iload_n (pc := 6) dM_node_6 rfl ?_
  refine jm_callV (pc := 7) (c_M_isNode (d := d - 1) m1_) fM_isNode vM_isNode cM_149 dM_node_7 rfl rfl rfl rfl (by omega) ⟨Nat.le_refl _, Nat.le_refl _⟩ rfl (Nat.le_of_ble_eq_true rfl) (fun v s2 hq => ?_)
  obtain ⟨rfl, rfl⟩ := hq
  refine jm_if_ne (pc := 10) (tgt := 15) dM_node_10 (by decide) (fun h10 => ?_) (fun h10 => ?_)
  · refine jm_iload_n (pc := 15) dM_node_15 rfl ?_
    skip
    · refine jm_tableIn (pc := 16) (tgt := 48) (off := 32) dM_node_16 (by decide) (by decide) rfl (by decide) ?_
      refine jm_aload_n (pc := 48) dM_node_48 rfl ?_
      refine jm_geti (pc := 49) lM_138 dM_node_49 rfl (fun _ => rfl) ?_
      rw [m6_]
      refine jm_if_eq (pc := 52) (tgt := 74) dM_node_52 (by decide) (fun h52 => ?_) (fun h52 => ?_)
      · refine jm_iconst (pc := 74) (v := -1) dM_node_74 (by decide) ?_
        refine jm_iret (pc := 75) dM_node_75 rfl ⟨Nat.le_refl _, Nat.le_refl _⟩ ?_
        first
          | exact ⟨itn (fun z => z.1 h52), rfl⟩
          | exact ⟨itn (fun z => nI_ge z.2 (Nat.lt_of_le_of_lt hs12 (by decide)) h62), rfl⟩
          | exact ⟨itp ⟨h52, Nat.lt_of_not_le fun z => h62 (nI_le z (by decide))⟩, rfl⟩
      · refine jm_aload_n (pc := 55) dM_node_55 rfl ?_
        refine jm_getq (pc := 56) lM_19 dM_node_56 rfl rfl (hm 6 rfl) ?_
        refine jm_iload_n (pc := 59) dM_node_59 rfl ?_
        refine jm_iald (pc := 60) dM_node_60 rfl (by decide) rfl (fun _ => rfl) ?hin ?_
        case hin =>
          exact vp_in_nI (N := 250) (by omega) (by decide)
        rw [nI_clamp (by omega), n1_]
        refine jm_iconst (pc := 61) (v := 3) dM_node_61 (by decide) ?_
        refine jm_icmp_le (pc := 62) (tgt := 74) dM_node_62 (by decide) (fun h62 => ?_) (fun h62 => ?_)
        · refine jm_iconst (pc := 74) (v := -1) dM_node_74 (by decide) ?_
          refine jm_iret (pc := 75) dM_node_75 rfl ⟨Nat.le_refl _, Nat.le_refl _⟩ ?_
          first
            | exact ⟨itn (fun z => z.1 h52), rfl⟩
            | exact ⟨itn (fun z => nI_ge z.2 (Nat.lt_of_le_of_lt hs12 (by decide)) h62), rfl⟩
            | exact ⟨itp ⟨h52, Nat.lt_of_not_le fun z => h62 (nI_le z (by decide))⟩, rfl⟩
        · refine jm_aload_n (pc := 65) dM_node_65 rfl ?_
          refine jm_getq (pc := 66) lM_78 dM_node_66 rfl rfl (hm 28 rfl) ?_
          refine jm_iload_n (pc := 69) dM_node_69 rfl ?_
          refine jm_iald (pc := 70) dM_node_70 rfl (by decide) rfl (fun _ => rfl) ?hin ?_
          case hin =>
            exact vp_in_nI (N := 250) (by omega) (by decide)
          rw [nI_clamp (by omega)]
          refine jm_goto (pc := 71) (tgt := 75) dM_node_71 (by decide) ?_
          refine jm_iret (pc := 75) dM_node_75 rfl ⟨Nat.le_refl _, Nat.le_refl _⟩ ?_
          first
            | exact ⟨itn (fun z => z.1 h52), rfl⟩
            | exact ⟨itn (fun z => nI_ge z.2 (Nat.lt_of_le_of_lt hs12 (by decide)) h62), rfl⟩
            | exact ⟨itp ⟨h52, Nat.lt_of_not_le fun z => h62 (nI_le z (by decide))⟩, rfl⟩
  · exact absurd yN (jb_eq0 h10)
set_option maxRecDepth 100000 in
set_option maxHeartbeats 4000000 in
theorem c_M_node_a {i : Nat} (hM : MG E rm rv g w od sk st) (hi : i < eN E) (h31_ : eN E < 2 ^ 31) (hs12 : eS E i ≤ 12) (hd : 1 ≤ d) : MC l D mM_node d 0 0 [vR (some (5, 0)), vI (nI i), vI (-1)] st (fun v s' => v = some (vI (if ¬ od = 0 ∧ 3 < eS E i then (sI st 5 0 0 0).1 34 0 i else -1)) ∧ (sI st 5 0 0 0) = s') := by
  refine jm_start (ls0 := [some (vR (some (5, 0))), some (vI (nI i)), some (vI (-1))]) (by decide) (Nat.le_of_ble_eq_true rfl) rfl ?_
  refine jm_aload_n (pc := 0) dM_node_0 rfl ?_
  refine jm_iconst (pc := 1) (v := 0) dM_node_1 (by decide) ?_
  refine jm_puti (pc := 2) pM_node_115 dM_node_2 rfl rfl ?_
  exact t_M_node_a hM.th hi h31_ hs12 hd
set_option maxRecDepth 100000 in
set_option maxHeartbeats 4000000 in
theorem t_M_node_b {i : Nat} (hM : MG E rm rv g w od sk st) (hi : i < eN E) (h31_ : eN E < 2 ^ 31) (hs12 : eS E i ≤ 12) (hd : 1 ≤ d) : MS l D mM_node d 0 0 (fun v s' => v = some (vI (nI (eS E i))) ∧ st = s') 0 0 5 [some (vR (some (5, 0))), some (vI (nI i)), some (vI (0))] [] st := by
  obtain ⟨hm, hN, hP, m1_, m2_, m3_, m4_, m5_, m6_, m7_⟩ := hM
  obtain ⟨n1_, n2_, n3_, n4_, n5_, n6_, n7_, n8_, n9_⟩ := hN i hi
  have hi250 : i < 250 := n8_.2.2.1
  have yN : isN (eN E) (nI i) := isN_nI hi h31_
  refine jm_aload_n (pc := 5) dM_node_5 rfl ?_
  refine jm_iload_n (pc := 6) dM_node_6 rfl ?_
  refine jm_callV (pc := 7) (c_M_isNode (d := d - 1) m1_) fM_isNode vM_isNode cM_149 dM_node_7 rfl rfl rfl rfl (by omega) ⟨Nat.le_refl _, Nat.le_refl _⟩ rfl (Nat.le_of_ble_eq_true rfl) (fun v s2 hq => ?_)
  obtain ⟨rfl, rfl⟩ := hq
  refine jm_if_ne (pc := 10) (tgt := 15) dM_node_10 (by decide) (fun h10 => ?_) (fun h10 => ?_)
  · refine jm_iload_n (pc := 15) dM_node_15 rfl ?_
    skip
    · refine jm_tableIn (pc := 16) (tgt := 76) (off := 60) dM_node_16 (by decide) (by decide) rfl (by decide) ?_
      refine jm_aload_n (pc := 76) dM_node_76 rfl ?_
      refine jm_getq (pc := 77) lM_19 dM_node_77 rfl rfl (hm 6 rfl) ?_
      refine jm_iload_n (pc := 80) dM_node_80 rfl ?_
      refine jm_iald (pc := 81) dM_node_81 rfl (by decide) rfl (fun _ => rfl) ?hin ?_
      case hin =>
        exact vp_in_nI (N := 250) (by omega) (by decide)
      rw [nI_clamp (by omega), n1_]
      refine jm_iret (pc := 82) dM_node_82 rfl ⟨Nat.le_refl _, Nat.le_refl _⟩ ?_
      exact ⟨rfl, rfl⟩
  · exact absurd yN (jb_eq0 h10)
set_option maxRecDepth 100000 in
set_option maxHeartbeats 4000000 in
theorem c_M_node_b {i : Nat} (hM : MG E rm rv g w od sk st) (hi : i < eN E) (h31_ : eN E < 2 ^ 31) (hs12 : eS E i ≤ 12) (hd : 1 ≤ d) : MC l D mM_node d 0 0 [vR (some (5, 0)), vI (nI i), vI (0)] st (fun v s' => v = some (vI (nI (eS E i))) ∧ (sI st 5 0 0 0) = s') := by
  refine jm_start (ls0 := [some (vR (some (5, 0))), some (vI (nI i)), some (vI (0))]) (by decide) (Nat.le_of_ble_eq_true rfl) rfl ?_
  refine jm_aload_n (pc := 0) dM_node_0 rfl ?_
  refine jm_iconst (pc := 1) (v := 0) dM_node_1 (by decide) ?_
  refine jm_puti (pc := 2) pM_node_115 dM_node_2 rfl rfl ?_
  exact t_M_node_b hM.th hi h31_ hs12 hd
set_option maxRecDepth 100000 in
set_option maxHeartbeats 4000000 in
theorem t_M_node_c {i : Nat} (hM : MG E rm rv g w od sk st) (hi : i < eN E) (h31_ : eN E < 2 ^ 31) (hs12 : eS E i ≤ 12) (hd : 1 ≤ d) : MS l D mM_node d 0 0 (fun v s' => v = some (vI (nI (eK E i).length)) ∧ st = s') 0 0 5 [some (vR (some (5, 0))), some (vI (nI i)), some (vI (1))] [] st := by
  obtain ⟨hm, hN, hP, m1_, m2_, m3_, m4_, m5_, m6_, m7_⟩ := hM
  obtain ⟨n1_, n2_, n3_, n4_, n5_, n6_, n7_, n8_, n9_⟩ := hN i hi
  have hi250 : i < 250 := n8_.2.2.1
  have yN : isN (eN E) (nI i) := isN_nI hi h31_
  refine jm_aload_n (pc := 5) dM_node_5 rfl ?_
  refine jm_iload_n (pc := 6) dM_node_6 rfl ?_
  refine jm_callV (pc := 7) (c_M_isNode (d := d - 1) m1_) fM_isNode vM_isNode cM_149 dM_node_7 rfl rfl rfl rfl (by omega) ⟨Nat.le_refl _, Nat.le_refl _⟩ rfl (Nat.le_of_ble_eq_true rfl) (fun v s2 hq => ?_)
  obtain ⟨rfl, rfl⟩ := hq
  refine jm_if_ne (pc := 10) (tgt := 15) dM_node_10 (by decide) (fun h10 => ?_) (fun h10 => ?_)
  · refine jm_iload_n (pc := 15) dM_node_15 rfl ?_
    skip
    · refine jm_tableIn (pc := 16) (tgt := 83) (off := 67) dM_node_16 (by decide) (by decide) rfl (by decide) ?_
      refine jm_aload_n (pc := 83) dM_node_83 rfl ?_
      refine jm_getq (pc := 84) lM_28 dM_node_84 rfl rfl (hm 9 rfl) ?_
      refine jm_iload_n (pc := 87) dM_node_87 rfl ?_
      refine jm_iald (pc := 88) dM_node_88 rfl (by decide) rfl (fun _ => rfl) ?hin ?_
      case hin =>
        exact vp_in_nI (N := 250) (by omega) (by decide)
      rw [nI_clamp (by omega), n4_]
      refine jm_iret (pc := 89) dM_node_89 rfl ⟨Nat.le_refl _, Nat.le_refl _⟩ ?_
      exact ⟨rfl, rfl⟩
  · exact absurd yN (jb_eq0 h10)
set_option maxRecDepth 100000 in
set_option maxHeartbeats 4000000 in
theorem c_M_node_c {i : Nat} (hM : MG E rm rv g w od sk st) (hi : i < eN E) (h31_ : eN E < 2 ^ 31) (hs12 : eS E i ≤ 12) (hd : 1 ≤ d) : MC l D mM_node d 0 0 [vR (some (5, 0)), vI (nI i), vI (1)] st (fun v s' => v = some (vI (nI (eK E i).length)) ∧ (sI st 5 0 0 0) = s') := by
  refine jm_start (ls0 := [some (vR (some (5, 0))), some (vI (nI i)), some (vI (1))]) (by decide) (Nat.le_of_ble_eq_true rfl) rfl ?_
  refine jm_aload_n (pc := 0) dM_node_0 rfl ?_
  refine jm_iconst (pc := 1) (v := 0) dM_node_1 (by decide) ?_
  refine jm_puti (pc := 2) pM_node_115 dM_node_2 rfl rfl ?_
  exact t_M_node_c hM.th hi h31_ hs12 hd
set_option maxRecDepth 100000 in
set_option maxHeartbeats 4000000 in
theorem t_M_node_d {i : Nat} (hM : MG E rm rv g w od sk st) (hi : i < eN E) (h31_ : eN E < 2 ^ 31) (hs12 : eS E i ≤ 12) (hd : 1 ≤ d) : MS l D mM_node d 0 0 (fun v s' => v = some (vI (nI (eW E i))) ∧ st = s') 0 0 5 [some (vR (some (5, 0))), some (vI (nI i)), some (vI (2))] [] st := by
  obtain ⟨hm, hN, hP, m1_, m2_, m3_, m4_, m5_, m6_, m7_⟩ := hM
  obtain ⟨n1_, n2_, n3_, n4_, n5_, n6_, n7_, n8_, n9_⟩ := hN i hi
  have hi250 : i < 250 := n8_.2.2.1
  have yN : isN (eN E) (nI i) := isN_nI hi h31_
  refine jm_aload_n (pc := 5) dM_node_5 rfl ?_
  refine jm_iload_n (pc := 6) dM_node_6 rfl ?_
  refine jm_callV (pc := 7) (c_M_isNode (d := d - 1) m1_) fM_isNode vM_isNode cM_149 dM_node_7 rfl rfl rfl rfl (by omega) ⟨Nat.le_refl _, Nat.le_refl _⟩ rfl (Nat.le_of_ble_eq_true rfl) (fun v s2 hq => ?_)
  obtain ⟨rfl, rfl⟩ := hq
  refine jm_if_ne (pc := 10) (tgt := 15) dM_node_10 (by decide) (fun h10 => ?_) (fun h10 => ?_)
  · refine jm_iload_n (pc := 15) dM_node_15 rfl ?_
    skip
    · refine jm_tableIn (pc := 16) (tgt := 90) (off := 74) dM_node_16 (by decide) (by decide) rfl (by decide) ?_
      refine jm_aload_n (pc := 90) dM_node_90 rfl ?_
      refine jm_getq (pc := 91) lM_43 dM_node_91 rfl rfl (hm 14 rfl) ?_
      refine jm_iload_n (pc := 94) dM_node_94 rfl ?_
      refine jm_iald (pc := 95) dM_node_95 rfl (by decide) rfl (fun _ => rfl) ?hin ?_
      case hin =>
        exact vp_in_nI (N := 250) (by omega) (by decide)
      rw [nI_clamp (by omega), n8_.1]
      refine jm_iret (pc := 96) dM_node_96 rfl ⟨Nat.le_refl _, Nat.le_refl _⟩ ?_
      exact ⟨rfl, rfl⟩
  · exact absurd yN (jb_eq0 h10)
set_option maxRecDepth 100000 in
set_option maxHeartbeats 4000000 in
theorem c_M_node_d {i : Nat} (hM : MG E rm rv g w od sk st) (hi : i < eN E) (h31_ : eN E < 2 ^ 31) (hs12 : eS E i ≤ 12) (hd : 1 ≤ d) : MC l D mM_node d 0 0 [vR (some (5, 0)), vI (nI i), vI (2)] st (fun v s' => v = some (vI (nI (eW E i))) ∧ (sI st 5 0 0 0) = s') := by
  refine jm_start (ls0 := [some (vR (some (5, 0))), some (vI (nI i)), some (vI (2))]) (by decide) (Nat.le_of_ble_eq_true rfl) rfl ?_
  refine jm_aload_n (pc := 0) dM_node_0 rfl ?_
  refine jm_iconst (pc := 1) (v := 0) dM_node_1 (by decide) ?_
  refine jm_puti (pc := 2) pM_node_115 dM_node_2 rfl rfl ?_
  exact t_M_node_d hM.th hi h31_ hs12 hd
set_option maxRecDepth 100000 in
set_option maxHeartbeats 4000000 in
theorem t_M_node_o {i : Nat} {q : Int32} (hM : MG E rm rv g w od sk st) (hi : i < eN E) (h31_ : eN E < 2 ^ 31) (h1 : ¬ q = -1) (h2 : ¬ q = 0) (h3 : ¬ q = 1) (h4 : ¬ q = 2) (hd : 1 ≤ d) : MS l D mM_node d 0 0 (fun v s' => v = some (vI (if ¬ q < 3 ∧ ¬ nI (eW E i) ≤ q - 3 then nI (eV E i (q - 3).toNatClampNeg) else -1)) ∧ st = s') 0 0 5 [some (vR (some (5, 0))), some (vI (nI i)), some (vI q)] [] st := by
  obtain ⟨hm, hN, hP, m1_, m2_, m3_, m4_, m5_, m6_, m7_⟩ := hM
  obtain ⟨n1_, n2_, n3_, n4_, n5_, n6_, n7_, n8_, n9_⟩ := hN i hi
  have hi250 : i < 250 := n8_.2.2.1
  have yN : isN (eN E) (nI i) := isN_nI hi h31_
  refine jm_aload_n (pc := 5) dM_node_5 rfl ?_
  refine jm_iload_n (pc := 6) dM_node_6 rfl ?_
  refine jm_callV (pc := 7) (c_M_isNode (d := d - 1) m1_) fM_isNode vM_isNode cM_149 dM_node_7 rfl rfl rfl rfl (by omega) ⟨Nat.le_refl _, Nat.le_refl _⟩ rfl (Nat.le_of_ble_eq_true rfl) (fun v s2 hq => ?_)
  obtain ⟨rfl, rfl⟩ := hq
  refine jm_if_ne (pc := 10) (tgt := 15) dM_node_10 (by decide) (fun h10 => ?_) (fun h10 => ?_)
  · refine jm_iload_n (pc := 15) dM_node_15 rfl ?_
    have hout : q.toInt < -1 ∨ 2 < q.toInt := by
      have a1 : q.toInt ≠ -1 := fun h => h1 (Int32.toInt_inj.mp h)
      have a2 : q.toInt ≠ 0 := fun h => h2 (Int32.toInt_inj.mp h)
      have a3 : q.toInt ≠ 1 := fun h => h3 (Int32.toInt_inj.mp h)
      have a4 : q.toInt ≠ 2 := fun h => h4 (Int32.toInt_inj.mp h)
      omega
    have hq23 : q ≤ 2 ↔ q < 3 := by
      rw [Int32.le_iff_toInt_le, Int32.lt_iff_toInt_lt, show (2 : Int32).toInt = 2 from rfl, show (3 : Int32).toInt = 3 from rfl]
      omega
    · refine jm_tableOut (pc := 16) (tgt := 97) dM_node_16 (hout) (by decide) ?_
      refine jm_iload_n (pc := 97) dM_node_97 rfl ?_
      refine jm_iconst (pc := 98) (v := 2) dM_node_98 (by decide) ?_
      refine jm_icmp_le (pc := 99) (tgt := 130) dM_node_99 (by decide) (fun h99 => ?_) (fun h99 => ?_)
      · refine jm_iconst (pc := 130) (v := -1) dM_node_130 (by decide) ?_
        refine jm_iret (pc := 131) dM_node_131 rfl ⟨Nat.le_refl _, Nat.le_refl _⟩ ?_
        first
          | exact ⟨itn (fun z => z.1 (hq23.mp h99)), rfl⟩
          | exact ⟨itn (fun z => z.2 h111), rfl⟩
          | (rw [e2, nI_clamp (by omega)]; exact ⟨itp ⟨h88, by rw [← e2]; exact h111⟩, rfl⟩)
      · refine jm_iload_n (pc := 102) dM_node_102 rfl ?_
        refine jm_iconst (pc := 103) (v := 3) dM_node_103 (by decide) ?_
        refine jm_isub (pc := 104) dM_node_104 ?_
        refine jm_aload_n (pc := 105) dM_node_105 rfl ?_
        refine jm_getq (pc := 106) lM_43 dM_node_106 rfl rfl (hm 14 rfl) ?_
        refine jm_iload_n (pc := 109) dM_node_109 rfl ?_
        refine jm_iald (pc := 110) dM_node_110 rfl (by decide) rfl (fun _ => rfl) ?hin ?_
        case hin =>
          exact vp_in_nI (N := 250) (by omega) (by decide)
        rw [nI_clamp (by omega), n8_.1]
        refine jm_icmp_ge (pc := 111) (tgt := 130) dM_node_111 (by decide) (fun h111 => ?_) (fun h111 => ?_)
        · refine jm_iconst (pc := 130) (v := -1) dM_node_130 (by decide) ?_
          refine jm_iret (pc := 131) dM_node_131 rfl ⟨Nat.le_refl _, Nat.le_refl _⟩ ?_
          first
            | exact ⟨itn (fun z => z.1 (hq23.mp h99)), rfl⟩
            | exact ⟨itn (fun z => z.2 h111), rfl⟩
            | (rw [e2, nI_clamp (by omega)]; exact ⟨itp ⟨h88, by rw [← e2]; exact h111⟩, rfl⟩)
        · have h88 : ¬ q < 3 := fun z => h99 (hq23.mpr z)
          obtain ⟨t, ht, e1, e2⟩ := q3 h88
          have htW : t < eW E i := Nat.lt_of_not_le fun z => h111 (by rw [e2]; exact nI_le z (by omega))
          have h7 := n8_.2.1
          have e5 : (7 : Int32) * nI i + q - 3 = nI (7 * i + t) := by
            rw [Int32.sub_eq_add_neg, Int32.add_assoc, ← Int32.sub_eq_add_neg, e2, e7]
          refine jm_aload_n (pc := 114) dM_node_114 rfl ?_
          refine jm_getq (pc := 115) lM_46 dM_node_115 rfl rfl (hm 15 rfl) ?_
          refine jm_bipush (pc := 118) (v := 7) dM_node_118 (by decide) ?_
          refine jm_iload_n (pc := 120) dM_node_120 rfl ?_
          refine jm_imul (pc := 121) dM_node_121 ?_
          refine jm_iload_n (pc := 122) dM_node_122 rfl ?_
          refine jm_iadd (pc := 123) dM_node_123 ?_
          refine jm_iconst (pc := 124) (v := 3) dM_node_124 (by decide) ?_
          refine jm_isub (pc := 125) dM_node_125 ?_
          rw [e5]
          refine jm_iald (pc := 126) dM_node_126 rfl (by decide) rfl (fun _ => rfl) ?hin ?_
          case hin =>
            exact vp_in_nI (N := 1750) (by omega) (by decide)
          rw [nI_clamp (by omega), (n8_.2.2.2 t htW).1]
          refine jm_goto (pc := 127) (tgt := 131) dM_node_127 (by decide) ?_
          refine jm_iret (pc := 131) dM_node_131 rfl ⟨Nat.le_refl _, Nat.le_refl _⟩ ?_
          first
            | exact ⟨itn (fun z => z.1 (hq23.mp h99)), rfl⟩
            | exact ⟨itn (fun z => z.2 h111), rfl⟩
            | (rw [e2, nI_clamp (by omega)]; exact ⟨itp ⟨h88, by rw [← e2]; exact h111⟩, rfl⟩)
  · exact absurd yN (jb_eq0 h10)
set_option maxRecDepth 100000 in
set_option maxHeartbeats 4000000 in
theorem c_M_node_o {i : Nat} {q : Int32} (hM : MG E rm rv g w od sk st) (hi : i < eN E) (h31_ : eN E < 2 ^ 31) (h1 : ¬ q = -1) (h2 : ¬ q = 0) (h3 : ¬ q = 1) (h4 : ¬ q = 2) (hd : 1 ≤ d) : MC l D mM_node d 0 0 [vR (some (5, 0)), vI (nI i), vI q] st (fun v s' => v = some (vI (if ¬ q < 3 ∧ ¬ nI (eW E i) ≤ q - 3 then nI (eV E i (q - 3).toNatClampNeg) else -1)) ∧ (sI st 5 0 0 0) = s') := by
  refine jm_start (ls0 := [some (vR (some (5, 0))), some (vI (nI i)), some (vI q)]) (by decide) (Nat.le_of_ble_eq_true rfl) rfl ?_
  refine jm_aload_n (pc := 0) dM_node_0 rfl ?_
  refine jm_iconst (pc := 1) (v := 0) dM_node_1 (by decide) ?_
  refine jm_puti (pc := 2) pM_node_115 dM_node_2 rfl rfl ?_
  exact t_M_node_o hM.th hi h31_ h1 h2 h3 h4 hd
set_option maxRecDepth 100000 in
set_option maxHeartbeats 4000000 in
theorem t_M_ground_n {x k : Int32} (hM : MG E rm rv g w od sk st) (hx : ¬ isN (eN E) x) (hd : 1 ≤ d) : MS l D mM_ground d 0 0 (fun v s' => v = some (vI 0) ∧ st = s') 0 0 5 [some (vR (some (5, 0))), some (vI x), some (vI k)] [] st := by
  obtain ⟨hm, hN, hP, m1_, m2_, m3_, m4_, m5_, m6_, m7_⟩ := hM
  refine jm_aload_n (pc := 5) dM_ground_5 rfl ?_
  refine jm_geti (pc := 6) lM_138 dM_ground_6 rfl (fun _ => rfl) ?_
  refine jm_if_eq (pc := 9) (tgt := 45) dM_ground_9 (by decide) (fun h9 => ?_) (fun h9 => ?_)
  · refine jm_iconst (pc := 45) (v := 0) dM_ground_45 (by decide) ?_
    refine jm_zret (pc := 46) dM_ground_46 rfl (by first | exact Or.inl rfl | exact Or.inr rfl | assumption) ⟨Nat.le_refl _, Nat.le_refl _⟩ ?_
    exact ⟨rfl, rfl⟩
  · refine jm_aload_n (pc := 12) dM_ground_12 rfl ?_
    refine jm_iload_n (pc := 13) dM_ground_13 rfl ?_
    refine jm_callV (pc := 14) (c_M_isNode (d := d - 1) m1_) fM_isNode vM_isNode cM_149 dM_ground_14 rfl rfl rfl rfl (by omega) ⟨Nat.le_refl _, Nat.le_refl _⟩ rfl (Nat.le_of_ble_eq_true rfl) (fun v s2 hq => ?_)
    obtain ⟨rfl, rfl⟩ := hq
    refine jm_if_eq (pc := 17) (tgt := 45) dM_ground_17 (by decide) (fun h17 => ?_) (fun h17 => ?_)
    · refine jm_iconst (pc := 45) (v := 0) dM_ground_45 (by decide) ?_
      refine jm_zret (pc := 46) dM_ground_46 rfl (by first | exact Or.inl rfl | exact Or.inr rfl | assumption) ⟨Nat.le_refl _, Nat.le_refl _⟩ ?_
      exact ⟨rfl, rfl⟩
    · exact absurd (jb_ne0 h17) hx
set_option maxRecDepth 100000 in
set_option maxHeartbeats 4000000 in
theorem c_M_ground_n {x k : Int32} (hM : MG E rm rv g w od sk st) (hx : ¬ isN (eN E) x) (hd : 1 ≤ d) : MC l D mM_ground d 0 0 [vR (some (5, 0)), vI x, vI k] st (fun v s' => v = some (vI 0) ∧ (sI st 5 0 0 0) = s') := by
  refine jm_start (ls0 := [some (vR (some (5, 0))), some (vI x), some (vI k)]) (by decide) (Nat.le_of_ble_eq_true rfl) rfl ?_
  refine jm_aload_n (pc := 0) dM_ground_0 rfl ?_
  refine jm_iconst (pc := 1) (v := 0) dM_ground_1 (by decide) ?_
  refine jm_puti (pc := 2) pM_ground_115 dM_ground_2 rfl rfl ?_
  exact t_M_ground_n hM.th hx hd
set_option maxRecDepth 100000 in
set_option maxHeartbeats 4000000 in
theorem t_M_ground {i : Nat} {k : Int32} (hM : MG E rm rv g w od sk st) (hi : i < eN E) (h31_ : eN E < 2 ^ 31) (hd : 1 ≤ d) : MS l D mM_ground d 0 0 (fun v s' => v = some (vI (jb (¬ od = 0 ∧ isV k ∧ ¬ hB (st.2.1 29 0 i) k = 0))) ∧ st = s') 0 0 5 [some (vR (some (5, 0))), some (vI (nI i)), some (vI k)] [] st := by
  obtain ⟨hm, hN, hP, m1_, m2_, m3_, m4_, m5_, m6_, m7_⟩ := hM
  obtain ⟨n1_, n2_, n3_, n4_, n5_, n6_, n7_, n8_, n9_⟩ := hN i hi
  have hi250 : i < 250 := n8_.2.2.1
  have yN : isN (eN E) (nI i) := isN_nI hi h31_
  refine jm_aload_n (pc := 5) dM_ground_5 rfl ?_
  refine jm_geti (pc := 6) lM_138 dM_ground_6 rfl (fun _ => rfl) ?_
  rw [m6_]
  refine jm_if_eq (pc := 9) (tgt := 45) dM_ground_9 (by decide) (fun h9 => ?_) (fun h9 => ?_)
  · refine jm_iconst (pc := 45) (v := 0) dM_ground_45 (by decide) ?_
    refine jm_zret (pc := 46) dM_ground_46 rfl (by first | exact Or.inl rfl | exact Or.inr rfl | assumption) ⟨Nat.le_refl _, Nat.le_refl _⟩ ?_
    refine ⟨?_, rfl⟩
    first
      | exact jbf (fun q => q.1 h9)
      | exact jbf (fun q => jb_eq0 h24 q.2.1)
      | exact jbf (fun q => jb_eq0 h38 ((hB_iff (Nat.lt_trans hv60 (by decide))).mp q.2.2))
      | exact jbt ⟨h9, hv, (hB_iff (Nat.lt_trans hv60 (by decide))).mpr (jb_ne0 (p := (st.2.1 29 0 i).toBitVec.getLsbD v = true) h38)⟩
  · refine jm_aload_n (pc := 12) dM_ground_12 rfl ?_
    refine jm_iload_n (pc := 13) dM_ground_13 rfl ?_
    refine jm_callV (pc := 14) (c_M_isNode (d := d - 1) m1_) fM_isNode vM_isNode cM_149 dM_ground_14 rfl rfl rfl rfl (by omega) ⟨Nat.le_refl _, Nat.le_refl _⟩ rfl (Nat.le_of_ble_eq_true rfl) (fun v s2 hq => ?_)
    obtain ⟨rfl, rfl⟩ := hq
    refine jm_if_eq (pc := 17) (tgt := 45) dM_ground_17 (by decide) (fun h17 => ?_) (fun h17 => ?_)
    · exact absurd yN (jb_eq0 h17)
    · refine jm_iload_n (pc := 20) dM_ground_20 rfl ?_
      refine jm_callS (pc := 21) (c_M_isVariable (d := d - 1) k) fM_isVariable sM_isVariable cM_145 dM_ground_21 rfl (by omega) ⟨Nat.le_refl _, Nat.le_refl _⟩ rfl (Nat.le_of_ble_eq_true rfl) (fun v s2 hq => ?_)
      obtain ⟨rfl, rfl⟩ := hq
      refine jm_if_eq (pc := 24) (tgt := 45) dM_ground_24 (by decide) (fun h24 => ?_) (fun h24 => ?_)
      · refine jm_iconst (pc := 45) (v := 0) dM_ground_45 (by decide) ?_
        refine jm_zret (pc := 46) dM_ground_46 rfl (by first | exact Or.inl rfl | exact Or.inr rfl | assumption) ⟨Nat.le_refl _, Nat.le_refl _⟩ ?_
        refine ⟨?_, rfl⟩
        first
          | exact jbf (fun q => q.1 h9)
          | exact jbf (fun q => jb_eq0 h24 q.2.1)
          | exact jbf (fun q => jb_eq0 h38 ((hB_iff (Nat.lt_trans hv60 (by decide))).mp q.2.2))
          | exact jbt ⟨h9, hv, (hB_iff (Nat.lt_trans hv60 (by decide))).mpr (jb_ne0 (p := (st.2.1 29 0 i).toBitVec.getLsbD v = true) h38)⟩
      · have hv := jb_ne0 h24
        obtain ⟨v, hv60, rfl⟩ := isV_of hv
        refine jm_aload_n (pc := 27) dM_ground_27 rfl ?_
        refine jm_aload_n (pc := 28) dM_ground_28 rfl ?_
        refine jm_getq (pc := 29) lM_62 dM_ground_29 rfl rfl (hm 23 rfl) ?_
        refine jm_iload_n (pc := 32) dM_ground_32 rfl ?_
        refine jm_lald (pc := 33) dM_ground_33 rfl (by decide) rfl (fun _ => rfl) ?hin ?_
        case hin =>
          exact vp_in_nI (N := 250) (by omega) (by decide)
        rw [nI_clamp (by omega)]
        refine jm_iload_n (pc := 34) dM_ground_34 rfl ?_
        refine jm_callV (pc := 35) (c_M_isIn (d := d - 1) (x := v) (st.2.1 29 0 i) hv60) fM_isIn vM_isIn cM_163 dM_ground_35 rfl rfl rfl rfl (by omega) ⟨Nat.le_refl _, Nat.le_refl _⟩ rfl (Nat.le_of_ble_eq_true rfl) (fun v s2 hq => ?_)
        obtain ⟨rfl, rfl⟩ := hq
        refine jm_if_eq (pc := 38) (tgt := 45) dM_ground_38 (by decide) (fun h38 => ?_) (fun h38 => ?_)
        · refine jm_iconst (pc := 45) (v := 0) dM_ground_45 (by decide) ?_
          refine jm_zret (pc := 46) dM_ground_46 rfl (by first | exact Or.inl rfl | exact Or.inr rfl | assumption) ⟨Nat.le_refl _, Nat.le_refl _⟩ ?_
          refine ⟨?_, rfl⟩
          first
            | exact jbf (fun q => q.1 h9)
            | exact jbf (fun q => jb_eq0 h24 q.2.1)
            | exact jbf (fun q => jb_eq0 h38 ((hB_iff (Nat.lt_trans hv60 (by decide))).mp q.2.2))
            | exact jbt ⟨h9, hv, (hB_iff (Nat.lt_trans hv60 (by decide))).mpr (jb_ne0 (p := (st.2.1 29 0 i).toBitVec.getLsbD v = true) h38)⟩
        · refine jm_iconst (pc := 41) (v := 1) dM_ground_41 (by decide) ?_
          refine jm_goto (pc := 42) (tgt := 46) dM_ground_42 (by decide) ?_
          refine jm_zret (pc := 46) dM_ground_46 rfl (by first | exact Or.inl rfl | exact Or.inr rfl | assumption) ⟨Nat.le_refl _, Nat.le_refl _⟩ ?_
          refine ⟨?_, rfl⟩
          first
            | exact jbf (fun q => q.1 h9)
            | exact jbf (fun q => jb_eq0 h24 q.2.1)
            | exact jbf (fun q => jb_eq0 h38 ((hB_iff (Nat.lt_trans hv60 (by decide))).mp q.2.2))
            | exact jbt ⟨h9, hv, (hB_iff (Nat.lt_trans hv60 (by decide))).mpr (jb_ne0 (p := (st.2.1 29 0 i).toBitVec.getLsbD v = true) h38)⟩
set_option maxRecDepth 100000 in
set_option maxHeartbeats 4000000 in
theorem c_M_ground {i : Nat} {k : Int32} (hM : MG E rm rv g w od sk st) (hi : i < eN E) (h31_ : eN E < 2 ^ 31) (hd : 1 ≤ d) : MC l D mM_ground d 0 0 [vR (some (5, 0)), vI (nI i), vI k] st (fun v s' => v = some (vI (jb (¬ od = 0 ∧ isV k ∧ ¬ hB ((sI st 5 0 0 0).2.1 29 0 i) k = 0))) ∧ (sI st 5 0 0 0) = s') := by
  refine jm_start (ls0 := [some (vR (some (5, 0))), some (vI (nI i)), some (vI k)]) (by decide) (Nat.le_of_ble_eq_true rfl) rfl ?_
  refine jm_aload_n (pc := 0) dM_ground_0 rfl ?_
  refine jm_iconst (pc := 1) (v := 0) dM_ground_1 (by decide) ?_
  refine jm_puti (pc := 2) pM_ground_115 dM_ground_2 rfl rfl ?_
  exact t_M_ground hM.th hi h31_ hd
set_option maxRecDepth 100000 in
set_option maxHeartbeats 4000000 in
theorem t_M_compared_n {x k : Int32} (hM : MG E rm rv g w od sk st) (hx : ¬ isN (eN E) x) (hd : 1 ≤ d) : MS l D mM_compared d 0 0 (fun v s' => v = some (vI 0) ∧ st = s') 0 0 5 [some (vR (some (5, 0))), some (vI x), some (vI k)] [] st := by
  obtain ⟨hm, hN, hP, m1_, m2_, m3_, m4_, m5_, m6_, m7_⟩ := hM
  refine jm_aload_n (pc := 5) dM_compared_5 rfl ?_
  refine jm_geti (pc := 6) lM_138 dM_compared_6 rfl (fun _ => rfl) ?_
  refine jm_if_eq (pc := 9) (tgt := 62) dM_compared_9 (by decide) (fun h9 => ?_) (fun h9 => ?_)
  · refine jm_iconst (pc := 62) (v := 0) dM_compared_62 (by decide) ?_
    refine jm_zret (pc := 63) dM_compared_63 rfl (by first | exact Or.inl rfl | exact Or.inr rfl | assumption) ⟨Nat.le_refl _, Nat.le_refl _⟩ ?_
    exact ⟨rfl, rfl⟩
  · refine jm_aload_n (pc := 12) dM_compared_12 rfl ?_
    refine jm_iload_n (pc := 13) dM_compared_13 rfl ?_
    refine jm_callV (pc := 14) (c_M_isNode (d := d - 1) m1_) fM_isNode vM_isNode cM_149 dM_compared_14 rfl rfl rfl rfl (by omega) ⟨Nat.le_refl _, Nat.le_refl _⟩ rfl (Nat.le_of_ble_eq_true rfl) (fun v s2 hq => ?_)
    obtain ⟨rfl, rfl⟩ := hq
    refine jm_if_eq (pc := 17) (tgt := 62) dM_compared_17 (by decide) (fun h17 => ?_) (fun h17 => ?_)
    · refine jm_iconst (pc := 62) (v := 0) dM_compared_62 (by decide) ?_
      refine jm_zret (pc := 63) dM_compared_63 rfl (by first | exact Or.inl rfl | exact Or.inr rfl | assumption) ⟨Nat.le_refl _, Nat.le_refl _⟩ ?_
      exact ⟨rfl, rfl⟩
    · exact absurd (jb_ne0 h17) hx
set_option maxRecDepth 100000 in
set_option maxHeartbeats 4000000 in
theorem c_M_compared_n {x k : Int32} (hM : MG E rm rv g w od sk st) (hx : ¬ isN (eN E) x) (hd : 1 ≤ d) : MC l D mM_compared d 0 0 [vR (some (5, 0)), vI x, vI k] st (fun v s' => v = some (vI 0) ∧ (sI st 5 0 0 0) = s') := by
  refine jm_start (ls0 := [some (vR (some (5, 0))), some (vI x), some (vI k)]) (by decide) (Nat.le_of_ble_eq_true rfl) rfl ?_
  refine jm_aload_n (pc := 0) dM_compared_0 rfl ?_
  refine jm_iconst (pc := 1) (v := 0) dM_compared_1 (by decide) ?_
  refine jm_puti (pc := 2) pM_compared_115 dM_compared_2 rfl rfl ?_
  exact t_M_compared_n hM.th hx hd
set_option maxRecDepth 100000 in
set_option maxHeartbeats 4000000 in
theorem t_M_compared {i : Nat} {k : Int32} (hM : MG E rm rv g w od sk st) (hi : i < eN E) (h31_ : eN E < 2 ^ 31) (hs12 : eS E i ≤ 12) (hd : 1 ≤ d) : MS l D mM_compared d 0 0 (fun v s' => v = some (vI (jb (¬ od = 0 ∧ 3 < eS E i ∧ isN (eW E i) k ∧ (st.1 35 0 i >>> (k &&& 31)) &&& 1 = 1))) ∧ st = s') 0 0 5 [some (vR (some (5, 0))), some (vI (nI i)), some (vI k)] [] st := by
  obtain ⟨hm, hN, hP, m1_, m2_, m3_, m4_, m5_, m6_, m7_⟩ := hM
  obtain ⟨n1_, n2_, n3_, n4_, n5_, n6_, n7_, n8_, n9_⟩ := hN i hi
  have hi250 : i < 250 := n8_.2.2.1
  have yN : isN (eN E) (nI i) := isN_nI hi h31_
  refine jm_aload_n (pc := 5) dM_compared_5 rfl ?_
  refine jm_geti (pc := 6) lM_138 dM_compared_6 rfl (fun _ => rfl) ?_
  rw [m6_]
  refine jm_if_eq (pc := 9) (tgt := 62) dM_compared_9 (by decide) (fun h9 => ?_) (fun h9 => ?_)
  · refine jm_iconst (pc := 62) (v := 0) dM_compared_62 (by decide) ?_
    refine jm_zret (pc := 63) dM_compared_63 rfl (by first | exact Or.inl rfl | exact Or.inr rfl | assumption) ⟨Nat.le_refl _, Nat.le_refl _⟩ ?_
    refine ⟨?_, rfl⟩
    first
      | exact jbf (fun q => q.1 h9)
      | exact jbf (fun q => nI_ge q.2.1 (Nat.lt_of_le_of_lt hs12 (by decide)) h27)
      | exact jbf (fun q => q.2.2.1.1 h31)
      | exact jbf (fun q => q.2.2.1.2 h41)
      | exact jbf (fun q => h55 q.2.2.2)
      | exact jbt ⟨h9, Nat.lt_of_not_le fun z => h27 (nI_le z (by decide)), ⟨h31, h41⟩, h55⟩
  · refine jm_aload_n (pc := 12) dM_compared_12 rfl ?_
    refine jm_iload_n (pc := 13) dM_compared_13 rfl ?_
    refine jm_callV (pc := 14) (c_M_isNode (d := d - 1) m1_) fM_isNode vM_isNode cM_149 dM_compared_14 rfl rfl rfl rfl (by omega) ⟨Nat.le_refl _, Nat.le_refl _⟩ rfl (Nat.le_of_ble_eq_true rfl) (fun v s2 hq => ?_)
    obtain ⟨rfl, rfl⟩ := hq
    refine jm_if_eq (pc := 17) (tgt := 62) dM_compared_17 (by decide) (fun h17 => ?_) (fun h17 => ?_)
    · exact absurd yN (jb_eq0 h17)
    · refine jm_aload_n (pc := 20) dM_compared_20 rfl ?_
      refine jm_getq (pc := 21) lM_19 dM_compared_21 rfl rfl (hm 6 rfl) ?_
      refine jm_iload_n (pc := 24) dM_compared_24 rfl ?_
      refine jm_iald (pc := 25) dM_compared_25 rfl (by decide) rfl (fun _ => rfl) ?hin ?_
      case hin =>
        exact vp_in_nI (N := 250) (by omega) (by decide)
      rw [nI_clamp (by omega), n1_]
      refine jm_iconst (pc := 26) (v := 3) dM_compared_26 (by decide) ?_
      refine jm_icmp_le (pc := 27) (tgt := 62) dM_compared_27 (by decide) (fun h27 => ?_) (fun h27 => ?_)
      · refine jm_iconst (pc := 62) (v := 0) dM_compared_62 (by decide) ?_
        refine jm_zret (pc := 63) dM_compared_63 rfl (by first | exact Or.inl rfl | exact Or.inr rfl | assumption) ⟨Nat.le_refl _, Nat.le_refl _⟩ ?_
        refine ⟨?_, rfl⟩
        first
          | exact jbf (fun q => q.1 h9)
          | exact jbf (fun q => nI_ge q.2.1 (Nat.lt_of_le_of_lt hs12 (by decide)) h27)
          | exact jbf (fun q => q.2.2.1.1 h31)
          | exact jbf (fun q => q.2.2.1.2 h41)
          | exact jbf (fun q => h55 q.2.2.2)
          | exact jbt ⟨h9, Nat.lt_of_not_le fun z => h27 (nI_le z (by decide)), ⟨h31, h41⟩, h55⟩
      · refine jm_iload_n (pc := 30) dM_compared_30 rfl ?_
        refine jm_if_lt (pc := 31) (tgt := 62) dM_compared_31 (by decide) (fun h31 => ?_) (fun h31 => ?_)
        · refine jm_iconst (pc := 62) (v := 0) dM_compared_62 (by decide) ?_
          refine jm_zret (pc := 63) dM_compared_63 rfl (by first | exact Or.inl rfl | exact Or.inr rfl | assumption) ⟨Nat.le_refl _, Nat.le_refl _⟩ ?_
          refine ⟨?_, rfl⟩
          first
            | exact jbf (fun q => q.1 h9)
            | exact jbf (fun q => nI_ge q.2.1 (Nat.lt_of_le_of_lt hs12 (by decide)) h27)
            | exact jbf (fun q => q.2.2.1.1 h31)
            | exact jbf (fun q => q.2.2.1.2 h41)
            | exact jbf (fun q => h55 q.2.2.2)
            | exact jbt ⟨h9, Nat.lt_of_not_le fun z => h27 (nI_le z (by decide)), ⟨h31, h41⟩, h55⟩
        · refine jm_iload_n (pc := 34) dM_compared_34 rfl ?_
          refine jm_aload_n (pc := 35) dM_compared_35 rfl ?_
          refine jm_getq (pc := 36) lM_43 dM_compared_36 rfl rfl (hm 14 rfl) ?_
          refine jm_iload_n (pc := 39) dM_compared_39 rfl ?_
          refine jm_iald (pc := 40) dM_compared_40 rfl (by decide) rfl (fun _ => rfl) ?hin ?_
          case hin =>
            exact vp_in_nI (N := 250) (by omega) (by decide)
          rw [nI_clamp (by omega), n8_.1]
          refine jm_icmp_ge (pc := 41) (tgt := 62) dM_compared_41 (by decide) (fun h41 => ?_) (fun h41 => ?_)
          · refine jm_iconst (pc := 62) (v := 0) dM_compared_62 (by decide) ?_
            refine jm_zret (pc := 63) dM_compared_63 rfl (by first | exact Or.inl rfl | exact Or.inr rfl | assumption) ⟨Nat.le_refl _, Nat.le_refl _⟩ ?_
            refine ⟨?_, rfl⟩
            first
              | exact jbf (fun q => q.1 h9)
              | exact jbf (fun q => nI_ge q.2.1 (Nat.lt_of_le_of_lt hs12 (by decide)) h27)
              | exact jbf (fun q => q.2.2.1.1 h31)
              | exact jbf (fun q => q.2.2.1.2 h41)
              | exact jbf (fun q => h55 q.2.2.2)
              | exact jbt ⟨h9, Nat.lt_of_not_le fun z => h27 (nI_le z (by decide)), ⟨h31, h41⟩, h55⟩
          · refine jm_aload_n (pc := 44) dM_compared_44 rfl ?_
            refine jm_getq (pc := 45) lM_81 dM_compared_45 rfl rfl (hm 29 rfl) ?_
            refine jm_iload_n (pc := 48) dM_compared_48 rfl ?_
            refine jm_iald (pc := 49) dM_compared_49 rfl (by decide) rfl (fun _ => rfl) ?hin ?_
            case hin =>
              exact vp_in_nI (N := 250) (by omega) (by decide)
            rw [nI_clamp (by omega)]
            refine jm_iload_n (pc := 50) dM_compared_50 rfl ?_
            refine jm_ishr (pc := 51) dM_compared_51 ?_
            refine jm_iconst (pc := 52) (v := 1) dM_compared_52 (by decide) ?_
            refine jm_iand (pc := 53) dM_compared_53 ?_
            refine jm_iconst (pc := 54) (v := 1) dM_compared_54 (by decide) ?_
            refine jm_icmp_ne (pc := 55) (tgt := 62) dM_compared_55 (by decide) (fun h55 => ?_) (fun h55 => ?_)
            · refine jm_iconst (pc := 62) (v := 0) dM_compared_62 (by decide) ?_
              refine jm_zret (pc := 63) dM_compared_63 rfl (by first | exact Or.inl rfl | exact Or.inr rfl | assumption) ⟨Nat.le_refl _, Nat.le_refl _⟩ ?_
              refine ⟨?_, rfl⟩
              first
                | exact jbf (fun q => q.1 h9)
                | exact jbf (fun q => nI_ge q.2.1 (Nat.lt_of_le_of_lt hs12 (by decide)) h27)
                | exact jbf (fun q => q.2.2.1.1 h31)
                | exact jbf (fun q => q.2.2.1.2 h41)
                | exact jbf (fun q => h55 q.2.2.2)
                | exact jbt ⟨h9, Nat.lt_of_not_le fun z => h27 (nI_le z (by decide)), ⟨h31, h41⟩, h55⟩
            · refine jm_iconst (pc := 58) (v := 1) dM_compared_58 (by decide) ?_
              refine jm_goto (pc := 59) (tgt := 63) dM_compared_59 (by decide) ?_
              refine jm_zret (pc := 63) dM_compared_63 rfl (by first | exact Or.inl rfl | exact Or.inr rfl | assumption) ⟨Nat.le_refl _, Nat.le_refl _⟩ ?_
              refine ⟨?_, rfl⟩
              first
                | exact jbf (fun q => q.1 h9)
                | exact jbf (fun q => nI_ge q.2.1 (Nat.lt_of_le_of_lt hs12 (by decide)) h27)
                | exact jbf (fun q => q.2.2.1.1 h31)
                | exact jbf (fun q => q.2.2.1.2 h41)
                | exact jbf (fun q => h55 q.2.2.2)
                | exact jbt ⟨h9, Nat.lt_of_not_le fun z => h27 (nI_le z (by decide)), ⟨h31, h41⟩, h55⟩
set_option maxRecDepth 100000 in
set_option maxHeartbeats 4000000 in
theorem c_M_compared {i : Nat} {k : Int32} (hM : MG E rm rv g w od sk st) (hi : i < eN E) (h31_ : eN E < 2 ^ 31) (hs12 : eS E i ≤ 12) (hd : 1 ≤ d) : MC l D mM_compared d 0 0 [vR (some (5, 0)), vI (nI i), vI k] st (fun v s' => v = some (vI (jb (¬ od = 0 ∧ 3 < eS E i ∧ isN (eW E i) k ∧ ((sI st 5 0 0 0).1 35 0 i >>> (k &&& 31)) &&& 1 = 1))) ∧ (sI st 5 0 0 0) = s') := by
  refine jm_start (ls0 := [some (vR (some (5, 0))), some (vI (nI i)), some (vI k)]) (by decide) (Nat.le_of_ble_eq_true rfl) rfl ?_
  refine jm_aload_n (pc := 0) dM_compared_0 rfl ?_
  refine jm_iconst (pc := 1) (v := 0) dM_compared_1 (by decide) ?_
  refine jm_puti (pc := 2) pM_compared_115 dM_compared_2 rfl rfl ?_
  exact t_M_compared hM.th hi h31_ hs12 hd
set_option maxRecDepth 100000 in
set_option maxHeartbeats 4000000 in
theorem t_M_part_n {x k : Int32} (hM : MG E rm rv g w od sk st) (hx : ¬ isN (eN E) x) (hd : 1 ≤ d) : MS l D mM_part d 0 0 (fun v s' => v = some (vI (-1)) ∧ st = s') 0 0 5 [some (vR (some (5, 0))), some (vI x), some (vI k), none, none] [] st := by
  obtain ⟨hm, hN, hP, m1_, m2_, m3_, m4_, m5_, m6_, m7_⟩ := hM
  refine jm_aload_n (pc := 5) dM_part_5 rfl ?_
  refine jm_geti (pc := 6) lM_138 dM_part_6 rfl (fun _ => rfl) ?_
  refine jm_if_eq (pc := 9) (tgt := 34) dM_part_9 (by decide) (fun h9 => ?_) (fun h9 => ?_)
  · refine jm_iconst (pc := 34) (v := -1) dM_part_34 (by decide) ?_
    refine jm_iret (pc := 35) dM_part_35 rfl ⟨Nat.le_refl _, Nat.le_refl _⟩ ?_
    exact ⟨rfl, rfl⟩
  · refine jm_aload_n (pc := 12) dM_part_12 rfl ?_
    refine jm_iload_n (pc := 13) dM_part_13 rfl ?_
    refine jm_callV (pc := 14) (c_M_isNode (d := d - 1) m1_) fM_isNode vM_isNode cM_149 dM_part_14 rfl rfl rfl rfl (by omega) ⟨Nat.le_refl _, Nat.le_refl _⟩ rfl (Nat.le_of_ble_eq_true rfl) (fun v s2 hq => ?_)
    obtain ⟨rfl, rfl⟩ := hq
    refine jm_if_eq (pc := 17) (tgt := 34) dM_part_17 (by decide) (fun h17 => ?_) (fun h17 => ?_)
    · refine jm_iconst (pc := 34) (v := -1) dM_part_34 (by decide) ?_
      refine jm_iret (pc := 35) dM_part_35 rfl ⟨Nat.le_refl _, Nat.le_refl _⟩ ?_
      exact ⟨rfl, rfl⟩
    · exact absurd (jb_ne0 h17) hx
set_option maxRecDepth 100000 in
set_option maxHeartbeats 4000000 in
theorem c_M_part_n {x k : Int32} (hM : MG E rm rv g w od sk st) (hx : ¬ isN (eN E) x) (hd : 1 ≤ d) : MC l D mM_part d 0 0 [vR (some (5, 0)), vI x, vI k] st (fun v s' => v = some (vI (-1)) ∧ (sI st 5 0 0 0) = s') := by
  refine jm_start (ls0 := [some (vR (some (5, 0))), some (vI x), some (vI k), none, none]) (by decide) (Nat.le_of_ble_eq_true rfl) rfl ?_
  refine jm_aload_n (pc := 0) dM_part_0 rfl ?_
  refine jm_iconst (pc := 1) (v := 0) dM_part_1 (by decide) ?_
  refine jm_puti (pc := 2) pM_part_115 dM_part_2 rfl rfl ?_
  exact t_M_part_n hM.th hx hd
set_option maxRecDepth 100000 in
set_option maxHeartbeats 4000000 in
theorem t_M_part_f {i : Nat} {k : Int32} (hM : MG E rm rv g w od sk st) (hi : i < eN E) (h31_ : eN E < 2 ^ 31) (hx : ¬ (¬ od = 0 ∧ isN (eK E i).length k)) (hd : 1 ≤ d) : MS l D mM_part d 0 0 (fun v s' => v = some (vI (-1)) ∧ st = s') 0 0 5 [some (vR (some (5, 0))), some (vI (nI i)), some (vI k), none, none] [] st := by
  obtain ⟨hm, hN, hP, m1_, m2_, m3_, m4_, m5_, m6_, m7_⟩ := hM
  obtain ⟨n1_, n2_, n3_, n4_, n5_, n6_, n7_, n8_, n9_⟩ := hN i hi
  have hi250 : i < 250 := n8_.2.2.1
  have yN : isN (eN E) (nI i) := isN_nI hi h31_
  refine jm_aload_n (pc := 5) dM_part_5 rfl ?_
  refine jm_geti (pc := 6) lM_138 dM_part_6 rfl (fun _ => rfl) ?_
  rw [m6_]
  refine jm_if_eq (pc := 9) (tgt := 34) dM_part_9 (by decide) (fun h9 => ?_) (fun h9 => ?_)
  · refine jm_iconst (pc := 34) (v := -1) dM_part_34 (by decide) ?_
    refine jm_iret (pc := 35) dM_part_35 rfl ⟨Nat.le_refl _, Nat.le_refl _⟩ ?_
    exact ⟨rfl, rfl⟩
  · refine jm_aload_n (pc := 12) dM_part_12 rfl ?_
    refine jm_iload_n (pc := 13) dM_part_13 rfl ?_
    refine jm_callV (pc := 14) (c_M_isNode (d := d - 1) m1_) fM_isNode vM_isNode cM_149 dM_part_14 rfl rfl rfl rfl (by omega) ⟨Nat.le_refl _, Nat.le_refl _⟩ rfl (Nat.le_of_ble_eq_true rfl) (fun v s2 hq => ?_)
    obtain ⟨rfl, rfl⟩ := hq
    refine jm_if_eq (pc := 17) (tgt := 34) dM_part_17 (by decide) (fun h17 => ?_) (fun h17 => ?_)
    · exact absurd yN (jb_eq0 h17)
    · refine jm_iload_n (pc := 20) dM_part_20 rfl ?_
      refine jm_if_lt (pc := 21) (tgt := 34) dM_part_21 (by decide) (fun h21 => ?_) (fun h21 => ?_)
      · refine jm_iconst (pc := 34) (v := -1) dM_part_34 (by decide) ?_
        refine jm_iret (pc := 35) dM_part_35 rfl ⟨Nat.le_refl _, Nat.le_refl _⟩ ?_
        exact ⟨rfl, rfl⟩
      · refine jm_iload_n (pc := 24) dM_part_24 rfl ?_
        refine jm_aload_n (pc := 25) dM_part_25 rfl ?_
        refine jm_getq (pc := 26) lM_28 dM_part_26 rfl rfl (hm 9 rfl) ?_
        refine jm_iload_n (pc := 29) dM_part_29 rfl ?_
        refine jm_iald (pc := 30) dM_part_30 rfl (by decide) rfl (fun _ => rfl) ?hin ?_
        case hin =>
          exact vp_in_nI (N := 250) (by omega) (by decide)
        rw [nI_clamp (by omega), n4_]
        refine jm_icmp_lt (pc := 31) (tgt := 36) dM_part_31 (by decide) (fun h31 => ?_) (fun h31 => ?_)
        · exact absurd ⟨h9, h21, fun z => Int32.not_lt.mpr z h31⟩ hx
        · refine jm_iconst (pc := 34) (v := -1) dM_part_34 (by decide) ?_
          refine jm_iret (pc := 35) dM_part_35 rfl ⟨Nat.le_refl _, Nat.le_refl _⟩ ?_
          exact ⟨rfl, rfl⟩
set_option maxRecDepth 100000 in
set_option maxHeartbeats 4000000 in
theorem c_M_part_f {i : Nat} {k : Int32} (hM : MG E rm rv g w od sk st) (hi : i < eN E) (h31_ : eN E < 2 ^ 31) (hx : ¬ (¬ od = 0 ∧ isN (eK E i).length k)) (hd : 1 ≤ d) : MC l D mM_part d 0 0 [vR (some (5, 0)), vI (nI i), vI k] st (fun v s' => v = some (vI (-1)) ∧ (sI st 5 0 0 0) = s') := by
  refine jm_start (ls0 := [some (vR (some (5, 0))), some (vI (nI i)), some (vI k), none, none]) (by decide) (Nat.le_of_ble_eq_true rfl) rfl ?_
  refine jm_aload_n (pc := 0) dM_part_0 rfl ?_
  refine jm_iconst (pc := 1) (v := 0) dM_part_1 (by decide) ?_
  refine jm_puti (pc := 2) pM_part_115 dM_part_2 rfl rfl ?_
  exact t_M_part_f hM.th hi h31_ hx hd
set_option maxRecDepth 100000 in
set_option maxHeartbeats 4000000 in
theorem lp_M_part_r {i j p : Nat} (hM : MG E rm rv g w od sk st) (hi : i < eN E) (h31_ : eN E < 2 ^ 31) (hT : TR E) (hj : j < 250) (hrk : ∀ q, q ∈ eK E i → (st.1 33 0 q = nI j ↔ q = p)) (hp : p ∈ eK E i) : ∀ (L : List Nat) (k : Nat) (q : Nat), q :: L = (eK E i).drop k → p ∈ q :: L → MS l D mM_part d 0 0 (fun v s' => v = some (vI (nI p)) ∧ st = s') 0 0 52 [some (vR (some (5, 0))), some (vI (nI i)), some (vI (nI j)), some (vI (nI q)), none] [] st := by
  obtain ⟨hm, hN, hP, m1_, m2_, m3_, m4_, m5_, m6_, m7_⟩ := hM
  obtain ⟨n1_, n2_, n3_, n4_, n5_, n6_, n7_, n8_, n9_⟩ := hN i hi
  have hi250 : i < 250 := n8_.2.2.1
  have yN : isN (eN E) (nI i) := isN_nI hi h31_
  intro L
  induction L with
  | nil =>
    intro k q hk hpm
    obtain rfl : p = q := by simpa using hpm
    have hp250 : p < 250 := Nat.lt_of_lt_of_le (hT.kid hi hp).1 hT.1
    have er := (hrk p hp).mpr rfl
    refine jm_aload_n (pc := 52) dM_part_52 rfl ?_
    refine jm_getq (pc := 53) lM_75 dM_part_53 rfl rfl (hm 27 rfl) ?_
    refine jm_iload_n (pc := 56) dM_part_56 rfl ?_
    refine jm_iald (pc := 57) dM_part_57 rfl (by decide) rfl (fun _ => rfl) ?hin ?_
    case hin =>
      exact vp_in_nI (N := 250) (by omega) (by decide)
    rw [nI_clamp (by omega), er]
    refine jm_iload_n (pc := 58) dM_part_58 rfl ?_
    refine jm_icmp_eq (pc := 59) (tgt := 72) dM_part_59 (by decide) (fun h59 => ?_) (fun h59 => ?_)
    · refine jm_iload_n (pc := 72) dM_part_72 rfl ?_
      refine jm_iret (pc := 73) dM_part_73 rfl ⟨Nat.le_refl _, Nat.le_refl _⟩ ?_
      exact ⟨rfl, rfl⟩
    · exact absurd rfl h59
  | cons r L ih =>
    intro k q hk hpm
    obtain ⟨hkq, hL⟩ := drop_cons hk
    have hq := List.mem_of_getElem? hkq
    have hq250 : q < 250 := Nat.lt_of_lt_of_le (hT.kid hi hq).1 hT.1
    have hnx : st.1 21 0 q = nI r := by
      rw [n7_ k q hkq, ← List.head?_drop, ← hL]
      rfl
    refine jm_aload_n (pc := 52) dM_part_52 rfl ?_
    refine jm_getq (pc := 53) lM_75 dM_part_53 rfl rfl (hm 27 rfl) ?_
    refine jm_iload_n (pc := 56) dM_part_56 rfl ?_
    refine jm_iald (pc := 57) dM_part_57 rfl (by decide) rfl (fun _ => rfl) ?hin ?_
    case hin =>
      exact vp_in_nI (N := 250) (by omega) (by decide)
    rw [nI_clamp (by omega)]
    refine jm_iload_n (pc := 58) dM_part_58 rfl ?_
    refine jm_icmp_eq (pc := 59) (tgt := 72) dM_part_59 (by decide) (fun h59 => ?_) (fun h59 => ?_)
    · refine jm_iload_n (pc := 72) dM_part_72 rfl ?_
      refine jm_iret (pc := 73) dM_part_73 rfl ⟨Nat.le_refl _, Nat.le_refl _⟩ ?_
      obtain rfl := (hrk q hq).mp h59
      exact ⟨rfl, rfl⟩
    · refine jm_aload_n (pc := 62) dM_part_62 rfl ?_
      refine jm_getq (pc := 63) lM_37 dM_part_63 rfl rfl (hm 12 rfl) ?_
      refine jm_iload_n (pc := 66) dM_part_66 rfl ?_
      refine jm_iald (pc := 67) dM_part_67 rfl (by decide) rfl (fun _ => rfl) ?hin ?_
      case hin =>
        exact vp_in_nI (N := 250) (by omega) (by decide)
      rw [nI_clamp (by omega), hnx]
      refine jm_istore_n (pc := 68) dM_part_68 (by decide) ?_
      refine jm_goto (pc := 69) (tgt := 52) dM_part_69 (by decide) ?_
      refine ih (k + 1) r hL ?_
      rcases List.mem_cons.mp hpm with e | e
      · exact absurd ((hrk q hq).mpr e.symm) h59
      · exact e
set_option maxRecDepth 100000 in
set_option maxHeartbeats 4000000 in
theorem lp_M_part_k {i j p : Nat} (hM : MG E rm rv g w od sk st) (hi : i < eN E) (h31_ : eN E < 2 ^ 31) (hT : TR E) (hp : (eK E i)[j]? = some p) : ∀ (n k : Nat) (q : Nat), k + n = j → (eK E i)[k]? = some q → MS l D mM_part d 0 0 (fun v s' => v = some (vI (nI p)) ∧ st = s') 0 0 77 [some (vR (some (5, 0))), some (vI (nI i)), some (vI (nI j)), some (vI (nI q)), some (vI (nI k))] [] st := by
  obtain ⟨hm, hN, hP, m1_, m2_, m3_, m4_, m5_, m6_, m7_⟩ := hM
  obtain ⟨n1_, n2_, n3_, n4_, n5_, n6_, n7_, n8_, n9_⟩ := hN i hi
  have hi250 : i < 250 := n8_.2.2.1
  have yN : isN (eN E) (nI i) := isN_nI hi h31_
  have hlen := eK_len hT hi
  have hjl := (List.getElem?_eq_some_iff.mp hp).1
  intro n
  induction n with
  | zero =>
    intro k q hk hkq
    obtain rfl : k = j := by omega
    obtain rfl : q = p := Option.some.inj (hkq.symm.trans hp)
    refine jm_iload (pc := 77) dM_part_77 rfl ?_
    refine jm_iload_n (pc := 79) dM_part_79 rfl ?_
    refine jm_icmp_ge (pc := 80) (tgt := 96) dM_part_80 (by decide) (fun h80 => ?_) (fun h80 => ?_)
    · refine jm_iload_n (pc := 96) dM_part_96 rfl ?_
      refine jm_iret (pc := 97) dM_part_97 rfl ⟨Nat.le_refl _, Nat.le_refl _⟩ ?_
      exact ⟨rfl, rfl⟩
    · exact absurd (nI_le (Nat.le_refl k) (by omega)) h80
  | succ n ih =>
    intro k q hk hkq
    have hq := List.mem_of_getElem? hkq
    have hq250 : q < 250 := Nat.lt_of_lt_of_le (hT.kid hi hq).1 hT.1
    obtain ⟨r, hr⟩ : ∃ r, (eK E i)[k + 1]? = some r := ⟨_, List.getElem?_eq_getElem (by omega)⟩
    have hnx : st.1 21 0 q = nI r := by rw [n7_ k q hkq, hr]; rfl
    refine jm_iload (pc := 77) dM_part_77 rfl ?_
    refine jm_iload_n (pc := 79) dM_part_79 rfl ?_
    refine jm_icmp_ge (pc := 80) (tgt := 96) dM_part_80 (by decide) (fun h80 => ?_) (fun h80 => ?_)
    · exact absurd h80 (nI_ge (by omega) (by omega))
    · refine jm_aload_n (pc := 83) dM_part_83 rfl ?_
      refine jm_getq (pc := 84) lM_37 dM_part_84 rfl rfl (hm 12 rfl) ?_
      refine jm_iload_n (pc := 87) dM_part_87 rfl ?_
      refine jm_iald (pc := 88) dM_part_88 rfl (by decide) rfl (fun _ => rfl) ?hin ?_
      case hin =>
        exact vp_in_nI (N := 250) (by omega) (by decide)
      rw [nI_clamp (by omega), hnx]
      refine jm_istore_n (pc := 89) dM_part_89 (by decide) ?_
      refine jm_iinc (pc := 90) dM_part_90 rfl (by decide) ?_
      refine jm_goto (pc := 93) (tgt := 77) dM_part_93 (by decide) ?_
      rw [show nI k + Int32.ofInt 1 = nI (k + 1) from ni1 k]
      exact ih (k + 1) r (by omega) hr
set_option maxRecDepth 100000 in
set_option maxHeartbeats 4000000 in
theorem t_M_part_r {i j p : Nat} (hM : MG E rm rv g w od sk st) (hi : i < eN E) (h31_ : eN E < 2 ^ 31) (hT : TR E) (ho : od = 1) (hj : j < (eK E i).length) (hs : eS E i = 0) (hrk : ∀ q, q ∈ eK E i → (st.1 33 0 q = nI j ↔ q = p)) (hp : p ∈ eK E i) (hd : 1 ≤ d) : MS l D mM_part d 0 0 (fun v s' => v = some (vI (nI p)) ∧ st = s') 0 0 5 [some (vR (some (5, 0))), some (vI (nI i)), some (vI (nI j)), none, none] [] st := by
  have hM0 := hM
  obtain ⟨hm, hN, hP, m1_, m2_, m3_, m4_, m5_, m6_, m7_⟩ := hM
  obtain ⟨n1_, n2_, n3_, n4_, n5_, n6_, n7_, n8_, n9_⟩ := hN i hi
  have hi250 : i < 250 := n8_.2.2.1
  have yN : isN (eN E) (nI i) := isN_nI hi h31_
  have hlen := eK_len hT hi
  refine jm_aload_n (pc := 5) dM_part_5 rfl ?_
  refine jm_geti (pc := 6) lM_138 dM_part_6 rfl (fun _ => rfl) ?_
  refine jm_if_eq (pc := 9) (tgt := 34) dM_part_9 (by decide) (fun h9 => ?_) (fun h9 => ?_)
  · exact absurd (m6_.symm.trans h9) (by rw [ho]; decide)
  · refine jm_aload_n (pc := 12) dM_part_12 rfl ?_
    refine jm_iload_n (pc := 13) dM_part_13 rfl ?_
    refine jm_callV (pc := 14) (c_M_isNode (d := d - 1) m1_) fM_isNode vM_isNode cM_149 dM_part_14 rfl rfl rfl rfl (by omega) ⟨Nat.le_refl _, Nat.le_refl _⟩ rfl (Nat.le_of_ble_eq_true rfl) (fun v s2 hq => ?_)
    obtain ⟨rfl, rfl⟩ := hq
    refine jm_if_eq (pc := 17) (tgt := 34) dM_part_17 (by decide) (fun h17 => ?_) (fun h17 => ?_)
    · exact absurd yN (jb_eq0 h17)
    · refine jm_iload_n (pc := 20) dM_part_20 rfl ?_
      refine jm_if_lt (pc := 21) (tgt := 34) dM_part_21 (by decide) (fun h21 => ?_) (fun h21 => ?_)
      · exact absurd h21 (nI_pos (by omega))
      · refine jm_iload_n (pc := 24) dM_part_24 rfl ?_
        refine jm_aload_n (pc := 25) dM_part_25 rfl ?_
        refine jm_getq (pc := 26) lM_28 dM_part_26 rfl rfl (hm 9 rfl) ?_
        refine jm_iload_n (pc := 29) dM_part_29 rfl ?_
        refine jm_iald (pc := 30) dM_part_30 rfl (by decide) rfl (fun _ => rfl) ?hin ?_
        case hin =>
          exact vp_in_nI (N := 250) (by omega) (by decide)
        rw [nI_clamp (by omega), n4_]
        refine jm_icmp_lt (pc := 31) (tgt := 36) dM_part_31 (by decide) (fun h31 => ?_) (fun h31 => ?_)
        · refine jm_aload_n (pc := 36) dM_part_36 rfl ?_
          refine jm_getq (pc := 37) lM_31 dM_part_37 rfl rfl (hm 10 rfl) ?_
          refine jm_iload_n (pc := 40) dM_part_40 rfl ?_
          refine jm_iald (pc := 41) dM_part_41 rfl (by decide) rfl (fun _ => rfl) ?hin ?_
          case hin =>
            exact vp_in_nI (N := 250) (by omega) (by decide)
          rw [nI_clamp (by omega), n5_]
          refine jm_istore_n (pc := 42) dM_part_42 (by decide) ?_
          obtain ⟨q0, L0, hq0⟩ : ∃ q0 L0, eK E i = q0 :: L0 := by
            cases hK : eK E i with
            | nil => rw [hK] at hj; exact absurd hj (by simp)
            | cons a b => exact ⟨a, b, rfl⟩
          rw [show nx (eK E i).head? = nI q0 by rw [hq0]; rfl]
          refine jm_aload_n (pc := 43) dM_part_43 rfl ?_
          refine jm_getq (pc := 44) lM_19 dM_part_44 rfl rfl (hm 6 rfl) ?_
          refine jm_iload_n (pc := 47) dM_part_47 rfl ?_
          refine jm_iald (pc := 48) dM_part_48 rfl (by decide) rfl (fun _ => rfl) ?hin ?_
          case hin =>
            exact vp_in_nI (N := 250) (by omega) (by decide)
          rw [nI_clamp (by omega), n1_]
          refine jm_if_ne (pc := 49) (tgt := 74) dM_part_49 (by decide) (fun h49 => ?_) (fun h49 => ?_)
          · exact absurd (by rw [hs]; rfl) h49
          · exact lp_M_part_r hM0 hi h31_ hT (by omega) hrk hp L0 0 q0 (by rw [hq0]; rfl) (by rw [← hq0]; exact hp)
        · exact absurd (nI_lt hj (by omega)) h31
set_option maxRecDepth 100000 in
set_option maxHeartbeats 4000000 in
theorem c_M_part_r {i j p : Nat} (hM : MG E rm rv g w od sk st) (hi : i < eN E) (h31_ : eN E < 2 ^ 31) (hT : TR E) (ho : od = 1) (hj : j < (eK E i).length) (hs : eS E i = 0) (hrk : ∀ q, q ∈ eK E i → (st.1 33 0 q = nI j ↔ q = p)) (hp : p ∈ eK E i) (hd : 1 ≤ d) : MC l D mM_part d 0 0 [vR (some (5, 0)), vI (nI i), vI (nI j)] st (fun v s' => v = some (vI (nI p)) ∧ (sI st 5 0 0 0) = s') := by
  refine jm_start (ls0 := [some (vR (some (5, 0))), some (vI (nI i)), some (vI (nI j)), none, none]) (by decide) (Nat.le_of_ble_eq_true rfl) rfl ?_
  refine jm_aload_n (pc := 0) dM_part_0 rfl ?_
  refine jm_iconst (pc := 1) (v := 0) dM_part_1 (by decide) ?_
  refine jm_puti (pc := 2) pM_part_115 dM_part_2 rfl rfl ?_
  exact t_M_part_r hM.th hi h31_ hT ho hj hs hrk hp hd
set_option maxRecDepth 100000 in
set_option maxHeartbeats 4000000 in
theorem t_M_part_k {i j p : Nat} (hM : MG E rm rv g w od sk st) (hi : i < eN E) (h31_ : eN E < 2 ^ 31) (hT : TR E) (ho : od = 1) (hj : j < (eK E i).length) (hs : ¬ eS E i = 0) (hp : (eK E i)[j]? = some p) (hd : 1 ≤ d) : MS l D mM_part d 0 0 (fun v s' => v = some (vI (nI p)) ∧ st = s') 0 0 5 [some (vR (some (5, 0))), some (vI (nI i)), some (vI (nI j)), none, none] [] st := by
  have hM0 := hM
  obtain ⟨hm, hN, hP, m1_, m2_, m3_, m4_, m5_, m6_, m7_⟩ := hM
  obtain ⟨n1_, n2_, n3_, n4_, n5_, n6_, n7_, n8_, n9_⟩ := hN i hi
  have hi250 : i < 250 := n8_.2.2.1
  have yN : isN (eN E) (nI i) := isN_nI hi h31_
  have hlen := eK_len hT hi
  refine jm_aload_n (pc := 5) dM_part_5 rfl ?_
  refine jm_geti (pc := 6) lM_138 dM_part_6 rfl (fun _ => rfl) ?_
  refine jm_if_eq (pc := 9) (tgt := 34) dM_part_9 (by decide) (fun h9 => ?_) (fun h9 => ?_)
  · exact absurd (m6_.symm.trans h9) (by rw [ho]; decide)
  · refine jm_aload_n (pc := 12) dM_part_12 rfl ?_
    refine jm_iload_n (pc := 13) dM_part_13 rfl ?_
    refine jm_callV (pc := 14) (c_M_isNode (d := d - 1) m1_) fM_isNode vM_isNode cM_149 dM_part_14 rfl rfl rfl rfl (by omega) ⟨Nat.le_refl _, Nat.le_refl _⟩ rfl (Nat.le_of_ble_eq_true rfl) (fun v s2 hq => ?_)
    obtain ⟨rfl, rfl⟩ := hq
    refine jm_if_eq (pc := 17) (tgt := 34) dM_part_17 (by decide) (fun h17 => ?_) (fun h17 => ?_)
    · exact absurd yN (jb_eq0 h17)
    · refine jm_iload_n (pc := 20) dM_part_20 rfl ?_
      refine jm_if_lt (pc := 21) (tgt := 34) dM_part_21 (by decide) (fun h21 => ?_) (fun h21 => ?_)
      · exact absurd h21 (nI_pos (by omega))
      · refine jm_iload_n (pc := 24) dM_part_24 rfl ?_
        refine jm_aload_n (pc := 25) dM_part_25 rfl ?_
        refine jm_getq (pc := 26) lM_28 dM_part_26 rfl rfl (hm 9 rfl) ?_
        refine jm_iload_n (pc := 29) dM_part_29 rfl ?_
        refine jm_iald (pc := 30) dM_part_30 rfl (by decide) rfl (fun _ => rfl) ?hin ?_
        case hin =>
          exact vp_in_nI (N := 250) (by omega) (by decide)
        rw [nI_clamp (by omega), n4_]
        refine jm_icmp_lt (pc := 31) (tgt := 36) dM_part_31 (by decide) (fun h31 => ?_) (fun h31 => ?_)
        · refine jm_aload_n (pc := 36) dM_part_36 rfl ?_
          refine jm_getq (pc := 37) lM_31 dM_part_37 rfl rfl (hm 10 rfl) ?_
          refine jm_iload_n (pc := 40) dM_part_40 rfl ?_
          refine jm_iald (pc := 41) dM_part_41 rfl (by decide) rfl (fun _ => rfl) ?hin ?_
          case hin =>
            exact vp_in_nI (N := 250) (by omega) (by decide)
          rw [nI_clamp (by omega), n5_]
          refine jm_istore_n (pc := 42) dM_part_42 (by decide) ?_
          obtain ⟨q0, L0, hq0⟩ : ∃ q0 L0, eK E i = q0 :: L0 := by
            cases hK : eK E i with
            | nil => rw [hK] at hj; exact absurd hj (by simp)
            | cons a b => exact ⟨a, b, rfl⟩
          rw [show nx (eK E i).head? = nI q0 by rw [hq0]; rfl]
          have hs12 := (hT.2.2 i hi).1
          refine jm_aload_n (pc := 43) dM_part_43 rfl ?_
          refine jm_getq (pc := 44) lM_19 dM_part_44 rfl rfl (hm 6 rfl) ?_
          refine jm_iload_n (pc := 47) dM_part_47 rfl ?_
          refine jm_iald (pc := 48) dM_part_48 rfl (by decide) rfl (fun _ => rfl) ?hin ?_
          case hin =>
            exact vp_in_nI (N := 250) (by omega) (by decide)
          rw [nI_clamp (by omega), n1_]
          refine jm_if_ne (pc := 49) (tgt := 74) dM_part_49 (by decide) (fun h49 => ?_) (fun h49 => ?_)
          · refine jm_iconst (pc := 74) (v := 0) dM_part_74 (by decide) ?_
            refine jm_istore (pc := 75) dM_part_75 (by decide) ?_
            exact lp_M_part_k hM0 hi h31_ hT hp j 0 q0 (by omega) (by rw [hq0]; rfl)
          · exact absurd ((nI_eq (b := 0) (by omega) (by decide)).mp h49) hs
        · exact absurd (nI_lt hj (by omega)) h31
set_option maxRecDepth 100000 in
set_option maxHeartbeats 4000000 in
theorem c_M_part_k {i j p : Nat} (hM : MG E rm rv g w od sk st) (hi : i < eN E) (h31_ : eN E < 2 ^ 31) (hT : TR E) (ho : od = 1) (hj : j < (eK E i).length) (hs : ¬ eS E i = 0) (hp : (eK E i)[j]? = some p) (hd : 1 ≤ d) : MC l D mM_part d 0 0 [vR (some (5, 0)), vI (nI i), vI (nI j)] st (fun v s' => v = some (vI (nI p)) ∧ (sI st 5 0 0 0) = s') := by
  refine jm_start (ls0 := [some (vR (some (5, 0))), some (vI (nI i)), some (vI (nI j)), none, none]) (by decide) (Nat.le_of_ble_eq_true rfl) rfl ?_
  refine jm_aload_n (pc := 0) dM_part_0 rfl ?_
  refine jm_iconst (pc := 1) (v := 0) dM_part_1 (by decide) ?_
  refine jm_puti (pc := 2) pM_part_115 dM_part_2 rfl rfl ?_
  exact t_M_part_k hM.th hi h31_ hT ho hj hs hp hd
end CN1
