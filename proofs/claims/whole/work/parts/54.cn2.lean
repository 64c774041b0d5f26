section CN2
variable {l : Launch} {D : mD} {d : Nat} {st : aS} {E : EE} {rm : Nat} {rv : Nat → Nat} {g w : Int64} {od sk : Int32}
set_option maxRecDepth 100000 in
set_option maxHeartbeats 4000000 in
theorem c_M_isParent_n {x : Int32} (hM : MG E rm rv g w od sk st) (hx : ¬ isN (eN E) x) (hd : 1 ≤ d) : MC l D mM_isParent d 0 0 [vR (some (5, 0)), vI x] st (fun v s' => st = s' ∧ v = some (vI (jb (False)))) := by
  refine jm_start (ls0 := [some (vR (some (5, 0))), some (vI x)]) (by decide) (Nat.le_of_ble_eq_true rfl) rfl ?_
  obtain ⟨hm, hN, hP, m1_, m2_, m3_, m4_, m5_, m6_, m7_⟩ := hM
  refine jm_aload_n (pc := 0) dM_isParent_0 rfl ?_
  refine jm_geti (pc := 1) lM_118 dM_isParent_1 rfl (fun _ => rfl) ?_
  refine jm_sipush (pc := 4) (v := 250) dM_isParent_4 (by decide) ?_
  refine jm_icmp_eq (pc := 7) (tgt := 39) dM_isParent_7 (by decide) (fun h7 => ?_) (fun h7 => ?_)
  · refine jm_iconst (pc := 39) (v := 0) dM_isParent_39 (by decide) ?_
    refine jm_zret (pc := 40) dM_isParent_40 rfl (by first | exact Or.inl rfl | exact Or.inr rfl | assumption) ⟨Nat.le_refl _, Nat.le_refl _⟩ ?_
    exact ⟨rfl, jbf id⟩
  · refine jm_aload_n (pc := 10) dM_isParent_10 rfl ?_
    refine jm_iload_n (pc := 11) dM_isParent_11 rfl ?_
    refine jm_callV (pc := 12) (c_M_isNode (d := d - 1) m1_) fM_isNode vM_isNode cM_149 dM_isParent_12 rfl rfl rfl rfl (by omega) ⟨Nat.le_refl _, Nat.le_refl _⟩ rfl (Nat.le_of_ble_eq_true rfl) (fun v s2 hq => ?_)
    obtain ⟨rfl, rfl⟩ := hq
    refine jm_if_eq (pc := 15) (tgt := 39) dM_isParent_15 (by decide) (fun h15 => ?_) (fun h15 => ?_)
    · refine jm_iconst (pc := 39) (v := 0) dM_isParent_39 (by decide) ?_
      refine jm_zret (pc := 40) dM_isParent_40 rfl (by first | exact Or.inl rfl | exact Or.inr rfl | assumption) ⟨Nat.le_refl _, Nat.le_refl _⟩ ?_
      exact ⟨rfl, jbf id⟩
    · exact absurd (jb_ne0 h15) hx
set_option maxRecDepth 100000 in
set_option maxHeartbeats 4000000 in
theorem c_M_isParent {i : Nat} (hM : MG E rm rv g w od sk st) (hi : i < eN E) (h31_ : eN E < 2 ^ 31) (hT : TR E) (hX : TX E) (hd : 1 ≤ d) : MC l D mM_isParent d 0 0 [vR (some (5, 0)), vI (nI i)] st (fun v s' => st = s' ∧ v = some (vI (jb (eN E < 250 ∧ tkP E i)))) := by
  refine jm_start (ls0 := [some (vR (some (5, 0))), some (vI (nI i))]) (by decide) (Nat.le_of_ble_eq_true rfl) rfl ?_
  obtain ⟨hm, hN, hP, m1_, m2_, m3_, m4_, m5_, m6_, m7_⟩ := hM
  obtain ⟨n1_, n2_, n3_, n4_, n5_, n6_, n7_, n8_, n9_⟩ := hN i hi
  have hi250 : i < 250 := n8_.2.2.1
  have yN : isN (eN E) (nI i) := isN_nI hi h31_
  have q1 := (hT.2.2 i hi).1
  have q2 := (hT.2.2 i hi).2.1
  have q3 := eK_len hT hi
  have q4 := hT.1
  obtain ⟨x2, x3, -⟩ := hX.2.2.2.2.2 i hi
  refine jm_aload_n (pc := 0) dM_isParent_0 rfl ?_
  refine jm_geti (pc := 1) lM_118 dM_isParent_1 rfl (fun _ => rfl) ?_
  rw [m1_]
  refine jm_sipush (pc := 4) (v := 250) dM_isParent_4 (by decide) ?_
  refine jm_icmp_eq (pc := 7) (tgt := 39) dM_isParent_7 (by decide) (fun h7 => ?_) (fun h7 => ?_)
  · refine jm_iconst (pc := 39) (v := 0) dM_isParent_39 (by decide) ?_
    refine jm_zret (pc := 40) dM_isParent_40 rfl (by first | exact Or.inl rfl | exact Or.inr rfl | assumption) ⟨Nat.le_refl _, Nat.le_refl _⟩ ?_
    refine ⟨rfl, ?_⟩
    have z2 : nI (eS E i) = 2 → eS E i = 2 := fun z => (nI_eq (b := 2) (by omega) (by decide)).mp z
    have z3 : nI (eS E i) = 3 → eS E i = 3 := fun z => (nI_eq (b := 3) (by omega) (by decide)).mp z
    have y1 : nI (eK E i).length = 1 → (eK E i).length = 1 := fun z => (nI_eq (b := 1) (by omega) (by decide)).mp z
    have y3 : nI (eK E i).length = 3 → (eK E i).length = 3 := fun z => (nI_eq (b := 3) (by omega) (by decide)).mp z
    have y20 : nI (eD E i) = 20 → eD E i = 20 := fun z => (nI_eq (b := 20) (by omega) (by decide)).mp z
    have y250 : nI (eN E) = 250 → eN E = 250 := fun z => (nI_eq (b := 250) (by omega) (by decide)).mp z
    have w3 : 3 < nI (eS E i) → 3 < eS E i := fun z => Nat.lt_of_not_le fun q => nI_nlt (a := 3) q (by decide) z
    first
      | exact jbf (fun q => Nat.ne_of_lt q.1 (y250 h7))
      | exact jbf (fun q => Nat.not_le_of_lt (w3 h25) q.2.1)
      | exact jbf (fun q => Nat.ne_of_lt q.2.2.1 (y20 h36))
      | exact jbf (fun q => q.2.2.2.1 ⟨z2 h48, Nat.le_of_eq (y1 h58).symm⟩)
      | exact jbf (fun q => q.2.2.2.2 ⟨z3 h68, Nat.le_of_eq (y3 h78).symm⟩)
      | (have r1 : eN E < 250 := Nat.lt_of_le_of_ne q4 (fun z => h7 (congrArg nI z))
         have r2 : eS E i ≤ 3 := Nat.le_of_not_lt fun z => h25 (nI_lt (a := 3) z (by omega))
         have r3 : eD E i < 20 := Nat.lt_of_le_of_ne q2 (fun z => h36 (congrArg nI z))
         refine jbt ⟨r1, r2, r3, fun z => ?_, fun z => ?_⟩
         · first
             | exact h48 (congrArg nI z.1)
             | exact h58 (congrArg nI (Nat.le_antisymm (x2 z.1) z.2))
         · first
             | exact h68 (congrArg nI z.1)
             | exact h78 (congrArg nI (Nat.le_antisymm (x3 z.1) z.2)))
  · refine jm_aload_n (pc := 10) dM_isParent_10 rfl ?_
    refine jm_iload_n (pc := 11) dM_isParent_11 rfl ?_
    refine jm_callV (pc := 12) (c_M_isNode (d := d - 1) m1_) fM_isNode vM_isNode cM_149 dM_isParent_12 rfl rfl rfl rfl (by omega) ⟨Nat.le_refl _, Nat.le_refl _⟩ rfl (Nat.le_of_ble_eq_true rfl) (fun v s2 hq => ?_)
    obtain ⟨rfl, rfl⟩ := hq
    refine jm_if_eq (pc := 15) (tgt := 39) dM_isParent_15 (by decide) (fun h15 => ?_) (fun h15 => ?_)
    · exact absurd yN (jb_eq0 h15)
    · refine jm_aload_n (pc := 18) dM_isParent_18 rfl ?_
      refine jm_getq (pc := 19) lM_19 dM_isParent_19 rfl rfl (hm 6 rfl) ?_
      refine jm_iload_n (pc := 22) dM_isParent_22 rfl ?_
      refine jm_iald (pc := 23) dM_isParent_23 rfl (by decide) rfl (fun _ => rfl) ?hin ?_
      case hin =>
        exact vp_in_nI (N := 250) (by omega) (by decide)
      rw [nI_clamp (by omega), n1_]
      refine jm_iconst (pc := 24) (v := 3) dM_isParent_24 (by decide) ?_
      refine jm_icmp_gt (pc := 25) (tgt := 39) dM_isParent_25 (by decide) (fun h25 => ?_) (fun h25 => ?_)
      · refine jm_iconst (pc := 39) (v := 0) dM_isParent_39 (by decide) ?_
        refine jm_zret (pc := 40) dM_isParent_40 rfl (by first | exact Or.inl rfl | exact Or.inr rfl | assumption) ⟨Nat.le_refl _, Nat.le_refl _⟩ ?_
        refine ⟨rfl, ?_⟩
        have z2 : nI (eS E i) = 2 → eS E i = 2 := fun z => (nI_eq (b := 2) (by omega) (by decide)).mp z
        have z3 : nI (eS E i) = 3 → eS E i = 3 := fun z => (nI_eq (b := 3) (by omega) (by decide)).mp z
        have y1 : nI (eK E i).length = 1 → (eK E i).length = 1 := fun z => (nI_eq (b := 1) (by omega) (by decide)).mp z
        have y3 : nI (eK E i).length = 3 → (eK E i).length = 3 := fun z => (nI_eq (b := 3) (by omega) (by decide)).mp z
        have y20 : nI (eD E i) = 20 → eD E i = 20 := fun z => (nI_eq (b := 20) (by omega) (by decide)).mp z
        have y250 : nI (eN E) = 250 → eN E = 250 := fun z => (nI_eq (b := 250) (by omega) (by decide)).mp z
        have w3 : 3 < nI (eS E i) → 3 < eS E i := fun z => Nat.lt_of_not_le fun q => nI_nlt (a := 3) q (by decide) z
        first
          | exact jbf (fun q => Nat.ne_of_lt q.1 (y250 h7))
          | exact jbf (fun q => Nat.not_le_of_lt (w3 h25) q.2.1)
          | exact jbf (fun q => Nat.ne_of_lt q.2.2.1 (y20 h36))
          | exact jbf (fun q => q.2.2.2.1 ⟨z2 h48, Nat.le_of_eq (y1 h58).symm⟩)
          | exact jbf (fun q => q.2.2.2.2 ⟨z3 h68, Nat.le_of_eq (y3 h78).symm⟩)
          | (have r1 : eN E < 250 := Nat.lt_of_le_of_ne q4 (fun z => h7 (congrArg nI z))
             have r2 : eS E i ≤ 3 := Nat.le_of_not_lt fun z => h25 (nI_lt (a := 3) z (by omega))
             have r3 : eD E i < 20 := Nat.lt_of_le_of_ne q2 (fun z => h36 (congrArg nI z))
             refine jbt ⟨r1, r2, r3, fun z => ?_, fun z => ?_⟩
             · first
                 | exact h48 (congrArg nI z.1)
                 | exact h58 (congrArg nI (Nat.le_antisymm (x2 z.1) z.2))
             · first
                 | exact h68 (congrArg nI z.1)
                 | exact h78 (congrArg nI (Nat.le_antisymm (x3 z.1) z.2)))
      · refine jm_aload_n (pc := 28) dM_isParent_28 rfl ?_
        refine jm_getq (pc := 29) lM_22 dM_isParent_29 rfl rfl (hm 7 rfl) ?_
        refine jm_iload_n (pc := 32) dM_isParent_32 rfl ?_
        refine jm_iald (pc := 33) dM_isParent_33 rfl (by decide) rfl (fun _ => rfl) ?hin ?_
        case hin =>
          exact vp_in_nI (N := 250) (by omega) (by decide)
        rw [nI_clamp (by omega), n2_]
        refine jm_bipush (pc := 34) (v := 20) dM_isParent_34 (by decide) ?_
        refine jm_icmp_ne (pc := 36) (tgt := 41) dM_isParent_36 (by decide) (fun h36 => ?_) (fun h36 => ?_)
        · refine jm_aload_n (pc := 41) dM_isParent_41 rfl ?_
          refine jm_getq (pc := 42) lM_19 dM_isParent_42 rfl rfl (hm 6 rfl) ?_
          refine jm_iload_n (pc := 45) dM_isParent_45 rfl ?_
          refine jm_iald (pc := 46) dM_isParent_46 rfl (by decide) rfl (fun _ => rfl) ?hin ?_
          case hin =>
            exact vp_in_nI (N := 250) (by omega) (by decide)
          rw [nI_clamp (by omega), n1_]
          refine jm_iconst (pc := 47) (v := 2) dM_isParent_47 (by decide) ?_
          refine jm_icmp_ne (pc := 48) (tgt := 61) dM_isParent_48 (by decide) (fun h48 => ?_) (fun h48 => ?_)
          · refine jm_aload_n (pc := 61) dM_isParent_61 rfl ?_
            refine jm_getq (pc := 62) lM_19 dM_isParent_62 rfl rfl (hm 6 rfl) ?_
            refine jm_iload_n (pc := 65) dM_isParent_65 rfl ?_
            refine jm_iald (pc := 66) dM_isParent_66 rfl (by decide) rfl (fun _ => rfl) ?hin ?_
            case hin =>
              exact vp_in_nI (N := 250) (by omega) (by decide)
            rw [nI_clamp (by omega), n1_]
            refine jm_iconst (pc := 67) (v := 3) dM_isParent_67 (by decide) ?_
            refine jm_icmp_ne (pc := 68) (tgt := 81) dM_isParent_68 (by decide) (fun h68 => ?_) (fun h68 => ?_)
            · refine jm_iconst (pc := 81) (v := 1) dM_isParent_81 (by decide) ?_
              refine jm_goto (pc := 82) (tgt := 86) dM_isParent_82 (by decide) ?_
              refine jm_zret (pc := 86) dM_isParent_86 rfl (by first | exact Or.inl rfl | exact Or.inr rfl | assumption) ⟨Nat.le_refl _, Nat.le_refl _⟩ ?_
              refine ⟨rfl, ?_⟩
              have z2 : nI (eS E i) = 2 → eS E i = 2 := fun z => (nI_eq (b := 2) (by omega) (by decide)).mp z
              have z3 : nI (eS E i) = 3 → eS E i = 3 := fun z => (nI_eq (b := 3) (by omega) (by decide)).mp z
              have y1 : nI (eK E i).length = 1 → (eK E i).length = 1 := fun z => (nI_eq (b := 1) (by omega) (by decide)).mp z
              have y3 : nI (eK E i).length = 3 → (eK E i).length = 3 := fun z => (nI_eq (b := 3) (by omega) (by decide)).mp z
              have y20 : nI (eD E i) = 20 → eD E i = 20 := fun z => (nI_eq (b := 20) (by omega) (by decide)).mp z
              have y250 : nI (eN E) = 250 → eN E = 250 := fun z => (nI_eq (b := 250) (by omega) (by decide)).mp z
              have w3 : 3 < nI (eS E i) → 3 < eS E i := fun z => Nat.lt_of_not_le fun q => nI_nlt (a := 3) q (by decide) z
              first
                | exact jbf (fun q => Nat.ne_of_lt q.1 (y250 h7))
                | exact jbf (fun q => Nat.not_le_of_lt (w3 h25) q.2.1)
                | exact jbf (fun q => Nat.ne_of_lt q.2.2.1 (y20 h36))
                | exact jbf (fun q => q.2.2.2.1 ⟨z2 h48, Nat.le_of_eq (y1 h58).symm⟩)
                | exact jbf (fun q => q.2.2.2.2 ⟨z3 h68, Nat.le_of_eq (y3 h78).symm⟩)
                | (have r1 : eN E < 250 := Nat.lt_of_le_of_ne q4 (fun z => h7 (congrArg nI z))
                   have r2 : eS E i ≤ 3 := Nat.le_of_not_lt fun z => h25 (nI_lt (a := 3) z (by omega))
                   have r3 : eD E i < 20 := Nat.lt_of_le_of_ne q2 (fun z => h36 (congrArg nI z))
                   refine jbt ⟨r1, r2, r3, fun z => ?_, fun z => ?_⟩
                   · first
                       | exact h48 (congrArg nI z.1)
                       | exact h58 (congrArg nI (Nat.le_antisymm (x2 z.1) z.2))
                   · first
                       | exact h68 (congrArg nI z.1)
                       | exact h78 (congrArg nI (Nat.le_antisymm (x3 z.1) z.2)))
            · refine jm_aload_n (pc := 71) dM_isParent_71 rfl ?_
              refine jm_getq (pc := 72) lM_28 dM_isParent_72 rfl rfl (hm 9 rfl) ?_
              refine jm_iload_n (pc := 75) dM_isParent_75 rfl ?_
              refine jm_iald (pc := 76) dM_isParent_76 rfl (by decide) rfl (fun _ => rfl) ?hin ?_
              case hin =>
                exact vp_in_nI (N := 250) (by omega) (by decide)
              rw [nI_clamp (by omega), n4_]
              refine jm_iconst (pc := 77) (v := 3) dM_isParent_77 (by decide) ?_
              refine jm_icmp_eq (pc := 78) (tgt := 85) dM_isParent_78 (by decide) (fun h78 => ?_) (fun h78 => ?_)
              · refine jm_iconst (pc := 85) (v := 0) dM_isParent_85 (by decide) ?_
                refine jm_zret (pc := 86) dM_isParent_86 rfl (by first | exact Or.inl rfl | exact Or.inr rfl | assumption) ⟨Nat.le_refl _, Nat.le_refl _⟩ ?_
                refine ⟨rfl, ?_⟩
                have z2 : nI (eS E i) = 2 → eS E i = 2 := fun z => (nI_eq (b := 2) (by omega) (by decide)).mp z
                have z3 : nI (eS E i) = 3 → eS E i = 3 := fun z => (nI_eq (b := 3) (by omega) (by decide)).mp z
                have y1 : nI (eK E i).length = 1 → (eK E i).length = 1 := fun z => (nI_eq (b := 1) (by omega) (by decide)).mp z
                have y3 : nI (eK E i).length = 3 → (eK E i).length = 3 := fun z => (nI_eq (b := 3) (by omega) (by decide)).mp z
                have y20 : nI (eD E i) = 20 → eD E i = 20 := fun z => (nI_eq (b := 20) (by omega) (by decide)).mp z
                have y250 : nI (eN E) = 250 → eN E = 250 := fun z => (nI_eq (b := 250) (by omega) (by decide)).mp z
                have w3 : 3 < nI (eS E i) → 3 < eS E i := fun z => Nat.lt_of_not_le fun q => nI_nlt (a := 3) q (by decide) z
                first
                  | exact jbf (fun q => Nat.ne_of_lt q.1 (y250 h7))
                  | exact jbf (fun q => Nat.not_le_of_lt (w3 h25) q.2.1)
                  | exact jbf (fun q => Nat.ne_of_lt q.2.2.1 (y20 h36))
                  | exact jbf (fun q => q.2.2.2.1 ⟨z2 h48, Nat.le_of_eq (y1 h58).symm⟩)
                  | exact jbf (fun q => q.2.2.2.2 ⟨z3 h68, Nat.le_of_eq (y3 h78).symm⟩)
                  | (have r1 : eN E < 250 := Nat.lt_of_le_of_ne q4 (fun z => h7 (congrArg nI z))
                     have r2 : eS E i ≤ 3 := Nat.le_of_not_lt fun z => h25 (nI_lt (a := 3) z (by omega))
                     have r3 : eD E i < 20 := Nat.lt_of_le_of_ne q2 (fun z => h36 (congrArg nI z))
                     refine jbt ⟨r1, r2, r3, fun z => ?_, fun z => ?_⟩
                     · first
                         | exact h48 (congrArg nI z.1)
                         | exact h58 (congrArg nI (Nat.le_antisymm (x2 z.1) z.2))
                     · first
                         | exact h68 (congrArg nI z.1)
                         | exact h78 (congrArg nI (Nat.le_antisymm (x3 z.1) z.2)))
              · refine jm_iconst (pc := 81) (v := 1) dM_isParent_81 (by decide) ?_
                refine jm_goto (pc := 82) (tgt := 86) dM_isParent_82 (by decide) ?_
                refine jm_zret (pc := 86) dM_isParent_86 rfl (by first | exact Or.inl rfl | exact Or.inr rfl | assumption) ⟨Nat.le_refl _, Nat.le_refl _⟩ ?_
                refine ⟨rfl, ?_⟩
                have z2 : nI (eS E i) = 2 → eS E i = 2 := fun z => (nI_eq (b := 2) (by omega) (by decide)).mp z
                have z3 : nI (eS E i) = 3 → eS E i = 3 := fun z => (nI_eq (b := 3) (by omega) (by decide)).mp z
                have y1 : nI (eK E i).length = 1 → (eK E i).length = 1 := fun z => (nI_eq (b := 1) (by omega) (by decide)).mp z
                have y3 : nI (eK E i).length = 3 → (eK E i).length = 3 := fun z => (nI_eq (b := 3) (by omega) (by decide)).mp z
                have y20 : nI (eD E i) = 20 → eD E i = 20 := fun z => (nI_eq (b := 20) (by omega) (by decide)).mp z
                have y250 : nI (eN E) = 250 → eN E = 250 := fun z => (nI_eq (b := 250) (by omega) (by decide)).mp z
                have w3 : 3 < nI (eS E i) → 3 < eS E i := fun z => Nat.lt_of_not_le fun q => nI_nlt (a := 3) q (by decide) z
                first
                  | exact jbf (fun q => Nat.ne_of_lt q.1 (y250 h7))
                  | exact jbf (fun q => Nat.not_le_of_lt (w3 h25) q.2.1)
                  | exact jbf (fun q => Nat.ne_of_lt q.2.2.1 (y20 h36))
                  | exact jbf (fun q => q.2.2.2.1 ⟨z2 h48, Nat.le_of_eq (y1 h58).symm⟩)
                  | exact jbf (fun q => q.2.2.2.2 ⟨z3 h68, Nat.le_of_eq (y3 h78).symm⟩)
                  | (have r1 : eN E < 250 := Nat.lt_of_le_of_ne q4 (fun z => h7 (congrArg nI z))
                     have r2 : eS E i ≤ 3 := Nat.le_of_not_lt fun z => h25 (nI_lt (a := 3) z (by omega))
                     have r3 : eD E i < 20 := Nat.lt_of_le_of_ne q2 (fun z => h36 (congrArg nI z))
                     refine jbt ⟨r1, r2, r3, fun z => ?_, fun z => ?_⟩
                     · first
                         | exact h48 (congrArg nI z.1)
                         | exact h58 (congrArg nI (Nat.le_antisymm (x2 z.1) z.2))
                     · first
                         | exact h68 (congrArg nI z.1)
                         | exact h78 (congrArg nI (Nat.le_antisymm (x3 z.1) z.2)))
          · refine jm_aload_n (pc := 51) dM_isParent_51 rfl ?_
            refine jm_getq (pc := 52) lM_28 dM_isParent_52 rfl rfl (hm 9 rfl) ?_
            refine jm_iload_n (pc := 55) dM_isParent_55 rfl ?_
            refine jm_iald (pc := 56) dM_isParent_56 rfl (by decide) rfl (fun _ => rfl) ?hin ?_
            case hin =>
              exact vp_in_nI (N := 250) (by omega) (by decide)
            rw [nI_clamp (by omega), n4_]
            refine jm_iconst (pc := 57) (v := 1) dM_isParent_57 (by decide) ?_
            refine jm_icmp_eq (pc := 58) (tgt := 85) dM_isParent_58 (by decide) (fun h58 => ?_) (fun h58 => ?_)
            · refine jm_iconst (pc := 85) (v := 0) dM_isParent_85 (by decide) ?_
              refine jm_zret (pc := 86) dM_isParent_86 rfl (by first | exact Or.inl rfl | exact Or.inr rfl | assumption) ⟨Nat.le_refl _, Nat.le_refl _⟩ ?_
              refine ⟨rfl, ?_⟩
              have z2 : nI (eS E i) = 2 → eS E i = 2 := fun z => (nI_eq (b := 2) (by omega) (by decide)).mp z
              have z3 : nI (eS E i) = 3 → eS E i = 3 := fun z => (nI_eq (b := 3) (by omega) (by decide)).mp z
              have y1 : nI (eK E i).length = 1 → (eK E i).length = 1 := fun z => (nI_eq (b := 1) (by omega) (by decide)).mp z
              have y3 : nI (eK E i).length = 3 → (eK E i).length = 3 := fun z => (nI_eq (b := 3) (by omega) (by decide)).mp z
              have y20 : nI (eD E i) = 20 → eD E i = 20 := fun z => (nI_eq (b := 20) (by omega) (by decide)).mp z
              have y250 : nI (eN E) = 250 → eN E = 250 := fun z => (nI_eq (b := 250) (by omega) (by decide)).mp z
              have w3 : 3 < nI (eS E i) → 3 < eS E i := fun z => Nat.lt_of_not_le fun q => nI_nlt (a := 3) q (by decide) z
              first
                | exact jbf (fun q => Nat.ne_of_lt q.1 (y250 h7))
                | exact jbf (fun q => Nat.not_le_of_lt (w3 h25) q.2.1)
                | exact jbf (fun q => Nat.ne_of_lt q.2.2.1 (y20 h36))
                | exact jbf (fun q => q.2.2.2.1 ⟨z2 h48, Nat.le_of_eq (y1 h58).symm⟩)
                | exact jbf (fun q => q.2.2.2.2 ⟨z3 h68, Nat.le_of_eq (y3 h78).symm⟩)
                | (have r1 : eN E < 250 := Nat.lt_of_le_of_ne q4 (fun z => h7 (congrArg nI z))
                   have r2 : eS E i ≤ 3 := Nat.le_of_not_lt fun z => h25 (nI_lt (a := 3) z (by omega))
                   have r3 : eD E i < 20 := Nat.lt_of_le_of_ne q2 (fun z => h36 (congrArg nI z))
                   refine jbt ⟨r1, r2, r3, fun z => ?_, fun z => ?_⟩
                   · first
                       | exact h48 (congrArg nI z.1)
                       | exact h58 (congrArg nI (Nat.le_antisymm (x2 z.1) z.2))
                   · first
                       | exact h68 (congrArg nI z.1)
                       | exact h78 (congrArg nI (Nat.le_antisymm (x3 z.1) z.2)))
            · refine jm_aload_n (pc := 61) dM_isParent_61 rfl ?_
              refine jm_getq (pc := 62) lM_19 dM_isParent_62 rfl rfl (hm 6 rfl) ?_
              refine jm_iload_n (pc := 65) dM_isParent_65 rfl ?_
              refine jm_iald (pc := 66) dM_isParent_66 rfl (by decide) rfl (fun _ => rfl) ?hin ?_
              case hin =>
                exact vp_in_nI (N := 250) (by omega) (by decide)
              rw [nI_clamp (by omega), n1_]
              refine jm_iconst (pc := 67) (v := 3) dM_isParent_67 (by decide) ?_
              refine jm_icmp_ne (pc := 68) (tgt := 81) dM_isParent_68 (by decide) (fun h68 => ?_) (fun h68 => ?_)
              · refine jm_iconst (pc := 81) (v := 1) dM_isParent_81 (by decide) ?_
                refine jm_goto (pc := 82) (tgt := 86) dM_isParent_82 (by decide) ?_
                refine jm_zret (pc := 86) dM_isParent_86 rfl (by first | exact Or.inl rfl | exact Or.inr rfl | assumption) ⟨Nat.le_refl _, Nat.le_refl _⟩ ?_
                refine ⟨rfl, ?_⟩
                have z2 : nI (eS E i) = 2 → eS E i = 2 := fun z => (nI_eq (b := 2) (by omega) (by decide)).mp z
                have z3 : nI (eS E i) = 3 → eS E i = 3 := fun z => (nI_eq (b := 3) (by omega) (by decide)).mp z
                have y1 : nI (eK E i).length = 1 → (eK E i).length = 1 := fun z => (nI_eq (b := 1) (by omega) (by decide)).mp z
                have y3 : nI (eK E i).length = 3 → (eK E i).length = 3 := fun z => (nI_eq (b := 3) (by omega) (by decide)).mp z
                have y20 : nI (eD E i) = 20 → eD E i = 20 := fun z => (nI_eq (b := 20) (by omega) (by decide)).mp z
                have y250 : nI (eN E) = 250 → eN E = 250 := fun z => (nI_eq (b := 250) (by omega) (by decide)).mp z
                have w3 : 3 < nI (eS E i) → 3 < eS E i := fun z => Nat.lt_of_not_le fun q => nI_nlt (a := 3) q (by decide) z
                first
                  | exact jbf (fun q => Nat.ne_of_lt q.1 (y250 h7))
                  | exact jbf (fun q => Nat.not_le_of_lt (w3 h25) q.2.1)
                  | exact jbf (fun q => Nat.ne_of_lt q.2.2.1 (y20 h36))
                  | exact jbf (fun q => q.2.2.2.1 ⟨z2 h48, Nat.le_of_eq (y1 h58).symm⟩)
                  | exact jbf (fun q => q.2.2.2.2 ⟨z3 h68, Nat.le_of_eq (y3 h78).symm⟩)
                  | (have r1 : eN E < 250 := Nat.lt_of_le_of_ne q4 (fun z => h7 (congrArg nI z))
                     have r2 : eS E i ≤ 3 := Nat.le_of_not_lt fun z => h25 (nI_lt (a := 3) z (by omega))
                     have r3 : eD E i < 20 := Nat.lt_of_le_of_ne q2 (fun z => h36 (congrArg nI z))
                     refine jbt ⟨r1, r2, r3, fun z => ?_, fun z => ?_⟩
                     · first
                         | exact h48 (congrArg nI z.1)
                         | exact h58 (congrArg nI (Nat.le_antisymm (x2 z.1) z.2))
                     · first
                         | exact h68 (congrArg nI z.1)
                         | exact h78 (congrArg nI (Nat.le_antisymm (x3 z.1) z.2)))
              · refine jm_aload_n (pc := 71) dM_isParent_71 rfl ?_
                refine jm_getq (pc := 72) lM_28 dM_isParent_72 rfl rfl (hm 9 rfl) ?_
                refine jm_iload_n (pc := 75) dM_isParent_75 rfl ?_
                refine jm_iald (pc := 76) dM_isParent_76 rfl (by decide) rfl (fun _ => rfl) ?hin ?_
                case hin =>
                  exact vp_in_nI (N := 250) (by omega) (by decide)
                rw [nI_clamp (by omega), n4_]
                refine jm_iconst (pc := 77) (v := 3) dM_isParent_77 (by decide) ?_
                refine jm_icmp_eq (pc := 78) (tgt := 85) dM_isParent_78 (by decide) (fun h78 => ?_) (fun h78 => ?_)
                · refine jm_iconst (pc := 85) (v := 0) dM_isParent_85 (by decide) ?_
                  refine jm_zret (pc := 86) dM_isParent_86 rfl (by first | exact Or.inl rfl | exact Or.inr rfl | assumption) ⟨Nat.le_refl _, Nat.le_refl _⟩ ?_
                  refine ⟨rfl, ?_⟩
                  have z2 : nI (eS E i) = 2 → eS E i = 2 := fun z => (nI_eq (b := 2) (by omega) (by decide)).mp z
                  have z3 : nI (eS E i) = 3 → eS E i = 3 := fun z => (nI_eq (b := 3) (by omega) (by decide)).mp z
                  have y1 : nI (eK E i).length = 1 → (eK E i).length = 1 := fun z => (nI_eq (b := 1) (by omega) (by decide)).mp z
                  have y3 : nI (eK E i).length = 3 → (eK E i).length = 3 := fun z => (nI_eq (b := 3) (by omega) (by decide)).mp z
                  have y20 : nI (eD E i) = 20 → eD E i = 20 := fun z => (nI_eq (b := 20) (by omega) (by decide)).mp z
                  have y250 : nI (eN E) = 250 → eN E = 250 := fun z => (nI_eq (b := 250) (by omega) (by decide)).mp z
                  have w3 : 3 < nI (eS E i) → 3 < eS E i := fun z => Nat.lt_of_not_le fun q => nI_nlt (a := 3) q (by decide) z
                  first
                    | exact jbf (fun q => Nat.ne_of_lt q.1 (y250 h7))
                    | exact jbf (fun q => Nat.not_le_of_lt (w3 h25) q.2.1)
                    | exact jbf (fun q => Nat.ne_of_lt q.2.2.1 (y20 h36))
                    | exact jbf (fun q => q.2.2.2.1 ⟨z2 h48, Nat.le_of_eq (y1 h58).symm⟩)
                    | exact jbf (fun q => q.2.2.2.2 ⟨z3 h68, Nat.le_of_eq (y3 h78).symm⟩)
                    | (have r1 : eN E < 250 := Nat.lt_of_le_of_ne q4 (fun z => h7 (congrArg nI z))
                       have r2 : eS E i ≤ 3 := Nat.le_of_not_lt fun z => h25 (nI_lt (a := 3) z (by omega))
                       have r3 : eD E i < 20 := Nat.lt_of_le_of_ne q2 (fun z => h36 (congrArg nI z))
                       refine jbt ⟨r1, r2, r3, fun z => ?_, fun z => ?_⟩
                       · first
                           | exact h48 (congrArg nI z.1)
                           | exact h58 (congrArg nI (Nat.le_antisymm (x2 z.1) z.2))
                       · first
                           | exact h68 (congrArg nI z.1)
                           | exact h78 (congrArg nI (Nat.le_antisymm (x3 z.1) z.2)))
                · refine jm_iconst (pc := 81) (v := 1) dM_isParent_81 (by decide) ?_
                  refine jm_goto (pc := 82) (tgt := 86) dM_isParent_82 (by decide) ?_
                  refine jm_zret (pc := 86) dM_isParent_86 rfl (by first | exact Or.inl rfl | exact Or.inr rfl | assumption) ⟨Nat.le_refl _, Nat.le_refl _⟩ ?_
                  refine ⟨rfl, ?_⟩
                  have z2 : nI (eS E i) = 2 → eS E i = 2 := fun z => (nI_eq (b := 2) (by omega) (by decide)).mp z
                  have z3 : nI (eS E i) = 3 → eS E i = 3 := fun z => (nI_eq (b := 3) (by omega) (by decide)).mp z
                  have y1 : nI (eK E i).length = 1 → (eK E i).length = 1 := fun z => (nI_eq (b := 1) (by omega) (by decide)).mp z
                  have y3 : nI (eK E i).length = 3 → (eK E i).length = 3 := fun z => (nI_eq (b := 3) (by omega) (by decide)).mp z
                  have y20 : nI (eD E i) = 20 → eD E i = 20 := fun z => (nI_eq (b := 20) (by omega) (by decide)).mp z
                  have y250 : nI (eN E) = 250 → eN E = 250 := fun z => (nI_eq (b := 250) (by omega) (by decide)).mp z
                  have w3 : 3 < nI (eS E i) → 3 < eS E i := fun z => Nat.lt_of_not_le fun q => nI_nlt (a := 3) q (by decide) z
                  first
                    | exact jbf (fun q => Nat.ne_of_lt q.1 (y250 h7))
                    | exact jbf (fun q => Nat.not_le_of_lt (w3 h25) q.2.1)
                    | exact jbf (fun q => Nat.ne_of_lt q.2.2.1 (y20 h36))
                    | exact jbf (fun q => q.2.2.2.1 ⟨z2 h48, Nat.le_of_eq (y1 h58).symm⟩)
                    | exact jbf (fun q => q.2.2.2.2 ⟨z3 h68, Nat.le_of_eq (y3 h78).symm⟩)
                    | (have r1 : eN E < 250 := Nat.lt_of_le_of_ne q4 (fun z => h7 (congrArg nI z))
                       have r2 : eS E i ≤ 3 := Nat.le_of_not_lt fun z => h25 (nI_lt (a := 3) z (by omega))
                       have r3 : eD E i < 20 := Nat.lt_of_le_of_ne q2 (fun z => h36 (congrArg nI z))
                       refine jbt ⟨r1, r2, r3, fun z => ?_, fun z => ?_⟩
                       · first
                           | exact h48 (congrArg nI z.1)
                           | exact h58 (congrArg nI (Nat.le_antisymm (x2 z.1) z.2))
                       · first
                           | exact h68 (congrArg nI z.1)
                           | exact h78 (congrArg nI (Nat.le_antisymm (x3 z.1) z.2)))
        · refine jm_iconst (pc := 39) (v := 0) dM_isParent_39 (by decide) ?_
          refine jm_zret (pc := 40) dM_isParent_40 rfl (by first | exact Or.inl rfl | exact Or.inr rfl | assumption) ⟨Nat.le_refl _, Nat.le_refl _⟩ ?_
          refine ⟨rfl, ?_⟩
          have z2 : nI (eS E i) = 2 → eS E i = 2 := fun z => (nI_eq (b := 2) (by omega) (by decide)).mp z
          have z3 : nI (eS E i) = 3 → eS E i = 3 := fun z => (nI_eq (b := 3) (by omega) (by decide)).mp z
          have y1 : nI (eK E i).length = 1 → (eK E i).length = 1 := fun z => (nI_eq (b := 1) (by omega) (by decide)).mp z
          have y3 : nI (eK E i).length = 3 → (eK E i).length = 3 := fun z => (nI_eq (b := 3) (by omega) (by decide)).mp z
          have y20 : nI (eD E i) = 20 → eD E i = 20 := fun z => (nI_eq (b := 20) (by omega) (by decide)).mp z
          have y250 : nI (eN E) = 250 → eN E = 250 := fun z => (nI_eq (b := 250) (by omega) (by decide)).mp z
          have w3 : 3 < nI (eS E i) → 3 < eS E i := fun z => Nat.lt_of_not_le fun q => nI_nlt (a := 3) q (by decide) z
          first
            | exact jbf (fun q => Nat.ne_of_lt q.1 (y250 h7))
            | exact jbf (fun q => Nat.not_le_of_lt (w3 h25) q.2.1)
            | exact jbf (fun q => Nat.ne_of_lt q.2.2.1 (y20 h36))
            | exact jbf (fun q => q.2.2.2.1 ⟨z2 h48, Nat.le_of_eq (y1 h58).symm⟩)
            | exact jbf (fun q => q.2.2.2.2 ⟨z3 h68, Nat.le_of_eq (y3 h78).symm⟩)
            | (have r1 : eN E < 250 := Nat.lt_of_le_of_ne q4 (fun z => h7 (congrArg nI z))
               have r2 : eS E i ≤ 3 := Nat.le_of_not_lt fun z => h25 (nI_lt (a := 3) z (by omega))
               have r3 : eD E i < 20 := Nat.lt_of_le_of_ne q2 (fun z => h36 (congrArg nI z))
               refine jbt ⟨r1, r2, r3, fun z => ?_, fun z => ?_⟩
               · first
                   | exact h48 (congrArg nI z.1)
                   | exact h58 (congrArg nI (Nat.le_antisymm (x2 z.1) z.2))
               · first
                   | exact h68 (congrArg nI z.1)
                   | exact h78 (congrArg nI (Nat.le_antisymm (x3 z.1) z.2)))
set_option maxRecDepth 100000 in
set_option maxHeartbeats 4000000 in
theorem c_M_hasRow_0 {k : Nat} {p : Int32} (hM : MG E rm rv g w od sk st) (hk : k < 6) (hr7 : rm ≤ 7) : MC l D mM_hasRow d 0 0 [vR (some (5, 0)), vI (nI k), vI p] st (fun v s' => st = s' ∧ v = some (vI (jb (rm = 0)))) := by
  refine jm_start (ls0 := [some (vR (some (5, 0))), some (vI (nI k)), some (vI p)]) (by decide) (Nat.le_of_ble_eq_true rfl) rfl ?_
  obtain ⟨hm, hN, hP, m1_, m2_, m3_, m4_, m5_, m6_, m7_⟩ := hM
  refine jm_iload_n (pc := 0) dM_hasRow_0 rfl ?_
  refine jm_bipush (pc := 1) (v := 6) dM_hasRow_1 (by decide) ?_
  refine jm_icmp_ge (pc := 3) (tgt := 19) dM_hasRow_3 (by decide) (fun h3 => ?_) (fun h3 => ?_)
  · exact absurd h3 (nI_ge (b := 6) hk (by decide))
  · refine jm_aload_n (pc := 6) dM_hasRow_6 rfl ?_
    refine jm_geti (pc := 7) lM_121 dM_hasRow_7 rfl (fun _ => rfl) ?_
    rw [m2_]
    refine jm_if_ne (pc := 10) (tgt := 17) dM_hasRow_10 (by decide) (fun h10 => ?_) (fun h10 => ?_)
    · refine jm_iconst (pc := 17) (v := 0) dM_hasRow_17 (by decide) ?_
      refine jm_zret (pc := 18) dM_hasRow_18 rfl (by first | exact Or.inl rfl | exact Or.inr rfl | assumption) ⟨Nat.le_refl _, Nat.le_refl _⟩ ?_
      refine ⟨rfl, ?_⟩
      first
        | exact jbf (fun q => h10 (congrArg nI q))
        | exact jbt ((nI_eq (b := 0) (Nat.lt_of_le_of_lt hr7 (by decide)) (by decide)).mp h10)
    · refine jm_iconst (pc := 13) (v := 1) dM_hasRow_13 (by decide) ?_
      refine jm_goto (pc := 14) (tgt := 18) dM_hasRow_14 (by decide) ?_
      refine jm_zret (pc := 18) dM_hasRow_18 rfl (by first | exact Or.inl rfl | exact Or.inr rfl | assumption) ⟨Nat.le_refl _, Nat.le_refl _⟩ ?_
      refine ⟨rfl, ?_⟩
      first
        | exact jbf (fun q => h10 (congrArg nI q))
        | exact jbt ((nI_eq (b := 0) (Nat.lt_of_le_of_lt hr7 (by decide)) (by decide)).mp h10)
set_option maxRecDepth 100000 in
set_option maxHeartbeats 4000000 in
theorem c_M_hasRow_6 {p : Int32} (hM : MG E rm rv g w od sk st) (hr7 : rm ≤ 7) : MC l D mM_hasRow d 0 0 [vR (some (5, 0)), vI (nI 6), vI p] st (fun v s' => st = s' ∧ v = some (vI (jb (rm = 2)))) := by
  refine jm_start (ls0 := [some (vR (some (5, 0))), some (vI (nI 6)), some (vI p)]) (by decide) (Nat.le_of_ble_eq_true rfl) rfl ?_
  obtain ⟨hm, hN, hP, m1_, m2_, m3_, m4_, m5_, m6_, m7_⟩ := hM
  refine jm_iload_n (pc := 0) dM_hasRow_0 rfl ?_
  refine jm_bipush (pc := 1) (v := 6) dM_hasRow_1 (by decide) ?_
  refine jm_icmp_ge (pc := 3) (tgt := 19) dM_hasRow_3 (by decide) (fun h3 => ?_) (fun h3 => ?_)
  · refine jm_iload_n (pc := 19) dM_hasRow_19 rfl ?_
    skip
    · refine jm_tableIn (pc := 20) (tgt := 60) (off := 40) dM_hasRow_20 (by decide) (by decide) rfl (by decide) ?_
      refine jm_aload_n (pc := 60) dM_hasRow_60 rfl ?_
      refine jm_geti (pc := 61) lM_121 dM_hasRow_61 rfl (fun _ => rfl) ?_
      rw [m2_]
      refine jm_iconst (pc := 64) (v := 2) dM_hasRow_64 (by decide) ?_
      refine jm_icmp_ne (pc := 65) (tgt := 72) dM_hasRow_65 (by decide) (fun h65 => ?_) (fun h65 => ?_)
      · refine jm_iconst (pc := 72) (v := 0) dM_hasRow_72 (by decide) ?_
        refine jm_zret (pc := 73) dM_hasRow_73 rfl (by first | exact Or.inl rfl | exact Or.inr rfl | assumption) ⟨Nat.le_refl _, Nat.le_refl _⟩ ?_
        refine ⟨rfl, ?_⟩
        first
          | exact jbf (fun q => h65 (congrArg nI q))
          | exact jbt ((nI_eq (b := 2) (Nat.lt_of_le_of_lt hr7 (by decide)) (by decide)).mp h65)
      · refine jm_iconst (pc := 68) (v := 1) dM_hasRow_68 (by decide) ?_
        refine jm_goto (pc := 69) (tgt := 73) dM_hasRow_69 (by decide) ?_
        refine jm_zret (pc := 73) dM_hasRow_73 rfl (by first | exact Or.inl rfl | exact Or.inr rfl | assumption) ⟨Nat.le_refl _, Nat.le_refl _⟩ ?_
        refine ⟨rfl, ?_⟩
        first
          | exact jbf (fun q => h65 (congrArg nI q))
          | exact jbt ((nI_eq (b := 2) (Nat.lt_of_le_of_lt hr7 (by decide)) (by decide)).mp h65)
  · exact absurd (by decide) h3
set_option maxRecDepth 100000 in
set_option maxHeartbeats 4000000 in
theorem c_M_hasRow_7 {p : Int32} (hM : MG E rm rv g w od sk st) (hr7 : rm ≤ 7) : MC l D mM_hasRow d 0 0 [vR (some (5, 0)), vI (nI 7), vI p] st (fun v s' => st = s' ∧ v = some (vI (jb (rm = 2)))) := by
  refine jm_start (ls0 := [some (vR (some (5, 0))), some (vI (nI 7)), some (vI p)]) (by decide) (Nat.le_of_ble_eq_true rfl) rfl ?_
  obtain ⟨hm, hN, hP, m1_, m2_, m3_, m4_, m5_, m6_, m7_⟩ := hM
  refine jm_iload_n (pc := 0) dM_hasRow_0 rfl ?_
  refine jm_bipush (pc := 1) (v := 6) dM_hasRow_1 (by decide) ?_
  refine jm_icmp_ge (pc := 3) (tgt := 19) dM_hasRow_3 (by decide) (fun h3 => ?_) (fun h3 => ?_)
  · refine jm_iload_n (pc := 19) dM_hasRow_19 rfl ?_
    skip
    · refine jm_tableIn (pc := 20) (tgt := 60) (off := 40) dM_hasRow_20 (by decide) (by decide) rfl (by decide) ?_
      refine jm_aload_n (pc := 60) dM_hasRow_60 rfl ?_
      refine jm_geti (pc := 61) lM_121 dM_hasRow_61 rfl (fun _ => rfl) ?_
      rw [m2_]
      refine jm_iconst (pc := 64) (v := 2) dM_hasRow_64 (by decide) ?_
      refine jm_icmp_ne (pc := 65) (tgt := 72) dM_hasRow_65 (by decide) (fun h65 => ?_) (fun h65 => ?_)
      · refine jm_iconst (pc := 72) (v := 0) dM_hasRow_72 (by decide) ?_
        refine jm_zret (pc := 73) dM_hasRow_73 rfl (by first | exact Or.inl rfl | exact Or.inr rfl | assumption) ⟨Nat.le_refl _, Nat.le_refl _⟩ ?_
        refine ⟨rfl, ?_⟩
        first
          | exact jbf (fun q => h65 (congrArg nI q))
          | exact jbt ((nI_eq (b := 2) (Nat.lt_of_le_of_lt hr7 (by decide)) (by decide)).mp h65)
      · refine jm_iconst (pc := 68) (v := 1) dM_hasRow_68 (by decide) ?_
        refine jm_goto (pc := 69) (tgt := 73) dM_hasRow_69 (by decide) ?_
        refine jm_zret (pc := 73) dM_hasRow_73 rfl (by first | exact Or.inl rfl | exact Or.inr rfl | assumption) ⟨Nat.le_refl _, Nat.le_refl _⟩ ?_
        refine ⟨rfl, ?_⟩
        first
          | exact jbf (fun q => h65 (congrArg nI q))
          | exact jbt ((nI_eq (b := 2) (Nat.lt_of_le_of_lt hr7 (by decide)) (by decide)).mp h65)
  · exact absurd (by decide) h3
set_option maxRecDepth 100000 in
set_option maxHeartbeats 4000000 in
theorem c_M_hasRow_8 {p : Int32} (hM : MG E rm rv g w od sk st) (hr7 : rm ≤ 7) : MC l D mM_hasRow d 0 0 [vR (some (5, 0)), vI (nI 8), vI p] st (fun v s' => st = s' ∧ v = some (vI (jb (0 < rm ∧ rm < 6)))) := by
  refine jm_start (ls0 := [some (vR (some (5, 0))), some (vI (nI 8)), some (vI p)]) (by decide) (Nat.le_of_ble_eq_true rfl) rfl ?_
  obtain ⟨hm, hN, hP, m1_, m2_, m3_, m4_, m5_, m6_, m7_⟩ := hM
  refine jm_iload_n (pc := 0) dM_hasRow_0 rfl ?_
  refine jm_bipush (pc := 1) (v := 6) dM_hasRow_1 (by decide) ?_
  refine jm_icmp_ge (pc := 3) (tgt := 19) dM_hasRow_3 (by decide) (fun h3 => ?_) (fun h3 => ?_)
  · refine jm_iload_n (pc := 19) dM_hasRow_19 rfl ?_
    skip
    · refine jm_tableIn (pc := 20) (tgt := 74) (off := 54) dM_hasRow_20 (by decide) (by decide) rfl (by decide) ?_
      refine jm_aload_n (pc := 74) dM_hasRow_74 rfl ?_
      refine jm_geti (pc := 75) lM_121 dM_hasRow_75 rfl (fun _ => rfl) ?_
      rw [m2_]
      refine jm_if_le (pc := 78) (tgt := 94) dM_hasRow_78 (by decide) (fun h78 => ?_) (fun h78 => ?_)
      · refine jm_iconst (pc := 94) (v := 0) dM_hasRow_94 (by decide) ?_
        refine jm_zret (pc := 95) dM_hasRow_95 rfl (by first | exact Or.inl rfl | exact Or.inr rfl | assumption) ⟨Nat.le_refl _, Nat.le_refl _⟩ ?_
        refine ⟨rfl, ?_⟩
        first
          | exact jbf (fun q => nI_nle q.1 (Nat.lt_of_le_of_lt hr7 (by decide)) h78)
          | exact jbf (fun q => nI_ge (b := 6) q.2 (by decide) h87)
          | exact jbt ⟨Nat.pos_of_ne_zero (fun z => h78 (by rw [z]; decide)), Nat.lt_of_not_le fun z => h87 (nI_le (a := 6) z (Nat.lt_of_le_of_lt hr7 (by decide)))⟩
      · refine jm_aload_n (pc := 81) dM_hasRow_81 rfl ?_
        refine jm_geti (pc := 82) lM_121 dM_hasRow_82 rfl (fun _ => rfl) ?_
        rw [m2_]
        refine jm_bipush (pc := 85) (v := 6) dM_hasRow_85 (by decide) ?_
        refine jm_icmp_ge (pc := 87) (tgt := 94) dM_hasRow_87 (by decide) (fun h87 => ?_) (fun h87 => ?_)
        · refine jm_iconst (pc := 94) (v := 0) dM_hasRow_94 (by decide) ?_
          refine jm_zret (pc := 95) dM_hasRow_95 rfl (by first | exact Or.inl rfl | exact Or.inr rfl | assumption) ⟨Nat.le_refl _, Nat.le_refl _⟩ ?_
          refine ⟨rfl, ?_⟩
          first
            | exact jbf (fun q => nI_nle q.1 (Nat.lt_of_le_of_lt hr7 (by decide)) h78)
            | exact jbf (fun q => nI_ge (b := 6) q.2 (by decide) h87)
            | exact jbt ⟨Nat.pos_of_ne_zero (fun z => h78 (by rw [z]; decide)), Nat.lt_of_not_le fun z => h87 (nI_le (a := 6) z (Nat.lt_of_le_of_lt hr7 (by decide)))⟩
        · refine jm_iconst (pc := 90) (v := 1) dM_hasRow_90 (by decide) ?_
          refine jm_goto (pc := 91) (tgt := 95) dM_hasRow_91 (by decide) ?_
          refine jm_zret (pc := 95) dM_hasRow_95 rfl (by first | exact Or.inl rfl | exact Or.inr rfl | assumption) ⟨Nat.le_refl _, Nat.le_refl _⟩ ?_
          refine ⟨rfl, ?_⟩
          first
            | exact jbf (fun q => nI_nle q.1 (Nat.lt_of_le_of_lt hr7 (by decide)) h78)
            | exact jbf (fun q => nI_ge (b := 6) q.2 (by decide) h87)
            | exact jbt ⟨Nat.pos_of_ne_zero (fun z => h78 (by rw [z]; decide)), Nat.lt_of_not_le fun z => h87 (nI_le (a := 6) z (Nat.lt_of_le_of_lt hr7 (by decide)))⟩
  · exact absurd (by decide) h3
set_option maxRecDepth 100000 in
set_option maxHeartbeats 4000000 in
theorem c_M_hasRow_9 {p : Int32} (hM : MG E rm rv g w od sk st) (hr7 : rm ≤ 7) : MC l D mM_hasRow d 0 0 [vR (some (5, 0)), vI (nI 9), vI p] st (fun v s' => st = s' ∧ v = some (vI (jb (rm = 1)))) := by
  refine jm_start (ls0 := [some (vR (some (5, 0))), some (vI (nI 9)), some (vI p)]) (by decide) (Nat.le_of_ble_eq_true rfl) rfl ?_
  obtain ⟨hm, hN, hP, m1_, m2_, m3_, m4_, m5_, m6_, m7_⟩ := hM
  refine jm_iload_n (pc := 0) dM_hasRow_0 rfl ?_
  refine jm_bipush (pc := 1) (v := 6) dM_hasRow_1 (by decide) ?_
  refine jm_icmp_ge (pc := 3) (tgt := 19) dM_hasRow_3 (by decide) (fun h3 => ?_) (fun h3 => ?_)
  · refine jm_iload_n (pc := 19) dM_hasRow_19 rfl ?_
    skip
    · refine jm_tableIn (pc := 20) (tgt := 96) (off := 76) dM_hasRow_20 (by decide) (by decide) rfl (by decide) ?_
      refine jm_aload_n (pc := 96) dM_hasRow_96 rfl ?_
      refine jm_geti (pc := 97) lM_121 dM_hasRow_97 rfl (fun _ => rfl) ?_
      rw [m2_]
      refine jm_iconst (pc := 100) (v := 1) dM_hasRow_100 (by decide) ?_
      refine jm_icmp_ne (pc := 101) (tgt := 108) dM_hasRow_101 (by decide) (fun h101 => ?_) (fun h101 => ?_)
      · refine jm_iconst (pc := 108) (v := 0) dM_hasRow_108 (by decide) ?_
        refine jm_zret (pc := 109) dM_hasRow_109 rfl (by first | exact Or.inl rfl | exact Or.inr rfl | assumption) ⟨Nat.le_refl _, Nat.le_refl _⟩ ?_
        refine ⟨rfl, ?_⟩
        first
          | exact jbf (fun q => h101 (congrArg nI q))
          | exact jbt ((nI_eq (b := 1) (Nat.lt_of_le_of_lt hr7 (by decide)) (by decide)).mp h101)
      · refine jm_iconst (pc := 104) (v := 1) dM_hasRow_104 (by decide) ?_
        refine jm_goto (pc := 105) (tgt := 109) dM_hasRow_105 (by decide) ?_
        refine jm_zret (pc := 109) dM_hasRow_109 rfl (by first | exact Or.inl rfl | exact Or.inr rfl | assumption) ⟨Nat.le_refl _, Nat.le_refl _⟩ ?_
        refine ⟨rfl, ?_⟩
        first
          | exact jbf (fun q => h101 (congrArg nI q))
          | exact jbt ((nI_eq (b := 1) (Nat.lt_of_le_of_lt hr7 (by decide)) (by decide)).mp h101)
  · exact absurd (by decide) h3
set_option maxRecDepth 100000 in
set_option maxHeartbeats 4000000 in
theorem c_M_hasRow_10 {p : Int32} (hM : MG E rm rv g w od sk st) (hr7 : rm ≤ 7) : MC l D mM_hasRow d 0 0 [vR (some (5, 0)), vI (nI 10), vI p] st (fun v s' => st = s' ∧ v = some (vI (jb (0 < rm)))) := by
  refine jm_start (ls0 := [some (vR (some (5, 0))), some (vI (nI 10)), some (vI p)]) (by decide) (Nat.le_of_ble_eq_true rfl) rfl ?_
  obtain ⟨hm, hN, hP, m1_, m2_, m3_, m4_, m5_, m6_, m7_⟩ := hM
  refine jm_iload_n (pc := 0) dM_hasRow_0 rfl ?_
  refine jm_bipush (pc := 1) (v := 6) dM_hasRow_1 (by decide) ?_
  refine jm_icmp_ge (pc := 3) (tgt := 19) dM_hasRow_3 (by decide) (fun h3 => ?_) (fun h3 => ?_)
  · refine jm_iload_n (pc := 19) dM_hasRow_19 rfl ?_
    skip
    · refine jm_tableIn (pc := 20) (tgt := 110) (off := 90) dM_hasRow_20 (by decide) (by decide) rfl (by decide) ?_
      refine jm_aload_n (pc := 110) dM_hasRow_110 rfl ?_
      refine jm_geti (pc := 111) lM_121 dM_hasRow_111 rfl (fun _ => rfl) ?_
      rw [m2_]
      refine jm_if_le (pc := 114) (tgt := 121) dM_hasRow_114 (by decide) (fun h114 => ?_) (fun h114 => ?_)
      · refine jm_iconst (pc := 121) (v := 0) dM_hasRow_121 (by decide) ?_
        refine jm_zret (pc := 122) dM_hasRow_122 rfl (by first | exact Or.inl rfl | exact Or.inr rfl | assumption) ⟨Nat.le_refl _, Nat.le_refl _⟩ ?_
        refine ⟨rfl, ?_⟩
        first
          | exact jbf (fun q => nI_nle q (Nat.lt_of_le_of_lt hr7 (by decide)) h114)
          | exact jbt (Nat.pos_of_ne_zero (fun z => h114 (by rw [z]; decide)))
      · refine jm_iconst (pc := 117) (v := 1) dM_hasRow_117 (by decide) ?_
        refine jm_goto (pc := 118) (tgt := 122) dM_hasRow_118 (by decide) ?_
        refine jm_zret (pc := 122) dM_hasRow_122 rfl (by first | exact Or.inl rfl | exact Or.inr rfl | assumption) ⟨Nat.le_refl _, Nat.le_refl _⟩ ?_
        refine ⟨rfl, ?_⟩
        first
          | exact jbf (fun q => nI_nle q (Nat.lt_of_le_of_lt hr7 (by decide)) h114)
          | exact jbt (Nat.pos_of_ne_zero (fun z => h114 (by rw [z]; decide)))
  · exact absurd (by decide) h3
set_option maxRecDepth 100000 in
set_option maxHeartbeats 4000000 in
theorem c_M_hasRow_11 {p : Int32} (hM : MG E rm rv g w od sk st) (hr7 : rm ≤ 7) : MC l D mM_hasRow d 0 0 [vR (some (5, 0)), vI (nI 11), vI p] st (fun v s' => st = s' ∧ v = some (vI (jb (rm < 7)))) := by
  refine jm_start (ls0 := [some (vR (some (5, 0))), some (vI (nI 11)), some (vI p)]) (by decide) (Nat.le_of_ble_eq_true rfl) rfl ?_
  obtain ⟨hm, hN, hP, m1_, m2_, m3_, m4_, m5_, m6_, m7_⟩ := hM
  refine jm_iload_n (pc := 0) dM_hasRow_0 rfl ?_
  refine jm_bipush (pc := 1) (v := 6) dM_hasRow_1 (by decide) ?_
  refine jm_icmp_ge (pc := 3) (tgt := 19) dM_hasRow_3 (by decide) (fun h3 => ?_) (fun h3 => ?_)
  · refine jm_iload_n (pc := 19) dM_hasRow_19 rfl ?_
    skip
    · refine jm_tableIn (pc := 20) (tgt := 123) (off := 103) dM_hasRow_20 (by decide) (by decide) rfl (by decide) ?_
      refine jm_aload_n (pc := 123) dM_hasRow_123 rfl ?_
      refine jm_geti (pc := 124) lM_121 dM_hasRow_124 rfl (fun _ => rfl) ?_
      rw [m2_]
      refine jm_bipush (pc := 127) (v := 7) dM_hasRow_127 (by decide) ?_
      refine jm_icmp_ge (pc := 129) (tgt := 136) dM_hasRow_129 (by decide) (fun h129 => ?_) (fun h129 => ?_)
      · refine jm_iconst (pc := 136) (v := 0) dM_hasRow_136 (by decide) ?_
        refine jm_zret (pc := 137) dM_hasRow_137 rfl (by first | exact Or.inl rfl | exact Or.inr rfl | assumption) ⟨Nat.le_refl _, Nat.le_refl _⟩ ?_
        refine ⟨rfl, ?_⟩
        first
          | exact jbf (fun q => nI_ge (b := 7) q (by decide) h129)
          | exact jbt (Nat.lt_of_not_le fun z => h129 (nI_le (a := 7) z (Nat.lt_of_le_of_lt hr7 (by decide))))
      · refine jm_iconst (pc := 132) (v := 1) dM_hasRow_132 (by decide) ?_
        refine jm_goto (pc := 133) (tgt := 137) dM_hasRow_133 (by decide) ?_
        refine jm_zret (pc := 137) dM_hasRow_137 rfl (by first | exact Or.inl rfl | exact Or.inr rfl | assumption) ⟨Nat.le_refl _, Nat.le_refl _⟩ ?_
        refine ⟨rfl, ?_⟩
        first
          | exact jbf (fun q => nI_ge (b := 7) q (by decide) h129)
          | exact jbt (Nat.lt_of_not_le fun z => h129 (nI_le (a := 7) z (Nat.lt_of_le_of_lt hr7 (by decide))))
  · exact absurd (by decide) h3
set_option maxRecDepth 100000 in
set_option maxHeartbeats 4000000 in
theorem c_M_hasRow_c {p : Int32} (hM : MG E rm rv g w od sk st) (hr7 : rm ≤ 7) : MC l D mM_hasRow d 0 0 [vR (some (5, 0)), vI 12, vI p] st (fun v s' => st = s' ∧ v = some (vI (jb (isN (eNp E) p ∧ rm = eAr E p.toNatClampNeg)))) := by
  refine jm_start (ls0 := [some (vR (some (5, 0))), some (vI 12), some (vI p)]) (by decide) (Nat.le_of_ble_eq_true rfl) rfl ?_
  obtain ⟨hm, hN, hP, m1_, m2_, m3_, m4_, m5_, m6_, m7_⟩ := hM
  have n60 := hP.2.1
  have en := hP.1
  refine jm_iload_n (pc := 0) dM_hasRow_0 rfl ?_
  refine jm_bipush (pc := 1) (v := 6) dM_hasRow_1 (by decide) ?_
  refine jm_icmp_ge (pc := 3) (tgt := 19) dM_hasRow_3 (by decide) (fun h3 => ?_) (fun h3 => ?_)
  · refine jm_iload_n (pc := 19) dM_hasRow_19 rfl ?_
    skip
    · refine jm_tableOut (pc := 20) (tgt := 138) dM_hasRow_20 (by decide) (by decide) ?_
      refine jm_iload_n (pc := 138) dM_hasRow_138 rfl ?_
      refine jm_if_lt (pc := 139) (tgt := 167) dM_hasRow_139 (by decide) (fun h139 => ?_) (fun h139 => ?_)
      · refine jm_iconst (pc := 167) (v := 0) dM_hasRow_167 (by decide) ?_
        refine jm_zret (pc := 168) dM_hasRow_168 rfl (by first | exact Or.inl rfl | exact Or.inr rfl | assumption) ⟨Nat.le_refl _, Nat.le_refl _⟩ ?_
        refine ⟨rfl, ?_⟩
        first
          | exact jbf (fun q => q.1.1 h139)
          | exact jbf (fun q => q.1.2 h147)
          | exact jbf (p := isN (eNp E) (nI j) ∧ rm = eAr E j) (fun q => h160 (congrArg nI q.2))
          | exact jbt (p := isN (eNp E) (nI j) ∧ rm = eAr E j) ⟨hN2, (nI_eq (Nat.lt_of_le_of_lt hr7 (by decide)) (Nat.lt_of_le_of_lt a2_ (by decide))).mp h160⟩
      · refine jm_iload_n (pc := 142) dM_hasRow_142 rfl ?_
        refine jm_aload_n (pc := 143) dM_hasRow_143 rfl ?_
        refine jm_geti (pc := 144) lM_142 dM_hasRow_144 rfl (fun _ => rfl) ?_
        rw [en]
        refine jm_icmp_ge (pc := 147) (tgt := 167) dM_hasRow_147 (by decide) (fun h147 => ?_) (fun h147 => ?_)
        · refine jm_iconst (pc := 167) (v := 0) dM_hasRow_167 (by decide) ?_
          refine jm_zret (pc := 168) dM_hasRow_168 rfl (by first | exact Or.inl rfl | exact Or.inr rfl | assumption) ⟨Nat.le_refl _, Nat.le_refl _⟩ ?_
          refine ⟨rfl, ?_⟩
          first
            | exact jbf (fun q => q.1.1 h139)
            | exact jbf (fun q => q.1.2 h147)
            | exact jbf (p := isN (eNp E) (nI j) ∧ rm = eAr E j) (fun q => h160 (congrArg nI q.2))
            | exact jbt (p := isN (eNp E) (nI j) ∧ rm = eAr E j) ⟨hN2, (nI_eq (Nat.lt_of_le_of_lt hr7 (by decide)) (Nat.lt_of_le_of_lt a2_ (by decide))).mp h160⟩
        · have hN2 : isN (eNp E) p := ⟨h139, h147⟩
          obtain ⟨j, hj, rfl⟩ := isN_of hN2 (by omega)
          have ej : (nI j).toNatClampNeg = j := nI_clamp (by omega)
          obtain ⟨a1_, a2_, a3_, a4_, a5_⟩ := hP.2.2 j hj
          refine jm_aload_n (pc := 150) dM_hasRow_150 rfl ?_
          refine jm_geti (pc := 151) lM_121 dM_hasRow_151 rfl (fun _ => rfl) ?_
          rw [m2_]
          refine jm_aload_n (pc := 154) dM_hasRow_154 rfl ?_
          refine jm_getq (pc := 155) lM_7 dM_hasRow_155 rfl rfl (hm 2 rfl) ?_
          refine jm_iload_n (pc := 158) dM_hasRow_158 rfl ?_
          refine jm_iald (pc := 159) dM_hasRow_159 rfl (by decide) rfl (fun _ => rfl) ?hin ?_
          case hin =>
            exact vp_in_nI (N := 60) (by omega) (by decide)
          rw [nI_clamp (by omega), a1_]
          refine jm_icmp_ne (pc := 160) (tgt := 167) dM_hasRow_160 (by decide) (fun h160 => ?_) (fun h160 => ?_)
          · refine jm_iconst (pc := 167) (v := 0) dM_hasRow_167 (by decide) ?_
            refine jm_zret (pc := 168) dM_hasRow_168 rfl (by first | exact Or.inl rfl | exact Or.inr rfl | assumption) ⟨Nat.le_refl _, Nat.le_refl _⟩ ?_
            refine ⟨rfl, ?_⟩
            first
              | exact jbf (fun q => q.1.1 h139)
              | exact jbf (fun q => q.1.2 h147)
              | exact jbf (p := isN (eNp E) (nI j) ∧ rm = eAr E j) (fun q => h160 (congrArg nI q.2))
              | exact jbt (p := isN (eNp E) (nI j) ∧ rm = eAr E j) ⟨hN2, (nI_eq (Nat.lt_of_le_of_lt hr7 (by decide)) (Nat.lt_of_le_of_lt a2_ (by decide))).mp h160⟩
          · refine jm_iconst (pc := 163) (v := 1) dM_hasRow_163 (by decide) ?_
            refine jm_goto (pc := 164) (tgt := 168) dM_hasRow_164 (by decide) ?_
            refine jm_zret (pc := 168) dM_hasRow_168 rfl (by first | exact Or.inl rfl | exact Or.inr rfl | assumption) ⟨Nat.le_refl _, Nat.le_refl _⟩ ?_
            refine ⟨rfl, ?_⟩
            first
              | exact jbf (fun q => q.1.1 h139)
              | exact jbf (fun q => q.1.2 h147)
              | exact jbf (p := isN (eNp E) (nI j) ∧ rm = eAr E j) (fun q => h160 (congrArg nI q.2))
              | exact jbt (p := isN (eNp E) (nI j) ∧ rm = eAr E j) ⟨hN2, (nI_eq (Nat.lt_of_le_of_lt hr7 (by decide)) (Nat.lt_of_le_of_lt a2_ (by decide))).mp h160⟩
  · exact absurd (by decide) h3
theorem c_M_hasRow {k : Nat} {p : Int32} (hM : MG E rm rv g w od sk st) (hk : k < 12) (hr7 : rm ≤ 7) : MC l D mM_hasRow d 0 0 [vR (some (5, 0)), vI (nI k), vI p] st (fun v s' => st = s' ∧ v = some (vI (jb (fitP k rm)))) := by
  have hf := fit_dec k hk rm hr7
  by_cases h6 : k < 6
  · rw [if_pos h6] at hf
    rw [jb_congr hf]
    exact c_M_hasRow_0 hM h6 hr7
  · rw [if_neg h6] at hf
    rw [jb_congr hf]
    rcases (show k = 6 ∨ k = 7 ∨ k = 8 ∨ k = 9 ∨ k = 10 ∨ k = 11 by omega) with rfl | rfl | rfl | rfl | rfl | rfl
    · exact c_M_hasRow_6 hM hr7
    · exact c_M_hasRow_7 hM hr7
    · exact c_M_hasRow_8 hM hr7
    · exact c_M_hasRow_9 hM hr7
    · exact c_M_hasRow_10 hM hr7
    · exact c_M_hasRow_11 hM hr7
set_option maxRecDepth 100000 in
set_option maxHeartbeats 4000000 in
theorem lp_M_made {n m : Nat} {up s : Int32} {rv : Nat → Nat} {Q : Option aV → aS → Prop} (hn : n < 250) (hm7 : m ≤ 7) : ∀ (c k : Nat) (st : aS), k + c = m → mF st → st.1 5 0 17 = nI m → (∀ j, j < m → st.1 25 0 j = nI (rv j)) → MS l D mM_made d 0 0 Q 0 0 104 [some (vR (some (5, 0))), some (vI up), some (vI s), some (vI (nI n)), some (vI (nI m))] [] (mvF n rv c k st) → MS l D mM_made d 0 0 Q 0 0 70 [some (vR (some (5, 0))), some (vI up), some (vI s), some (vI (nI n)), some (vI (nI k))] [] st := by
  intro c
  induction c with
  | zero =>
    intro k st hk hm h17 h25 kk
    obtain rfl : k = m := by omega
    refine jm_iload (pc := 70) dM_made_70 rfl ?_
    refine jm_aload_n (pc := 72) dM_made_72 rfl ?_
    refine jm_geti (pc := 73) lM_121 dM_made_73 rfl (fun _ => rfl) ?_
    rw [h17]
    refine jm_icmp_ge (pc := 76) (tgt := 104) dM_made_76 (by decide) (fun h76 => ?_) (fun h76 => ?_)
    · exact kk
    · exact absurd (nI_le (Nat.le_refl k) (by omega)) h76
  | succ c ih =>
    intro k st hk hm h17 h25 kk
    have er := h25 k (by omega)
    refine jm_iload (pc := 70) dM_made_70 rfl ?_
    refine jm_aload_n (pc := 72) dM_made_72 rfl ?_
    refine jm_geti (pc := 73) lM_121 dM_made_73 rfl (fun _ => rfl) ?_
    rw [h17]
    refine jm_icmp_ge (pc := 76) (tgt := 104) dM_made_76 (by decide) (fun h76 => ?_) (fun h76 => ?_)
    · exact absurd h76 (nI_ge (by omega) (by omega))
    · refine jm_aload_n (pc := 79) dM_made_79 rfl ?_
      refine jm_getq (pc := 80) lM_46 dM_made_80 rfl rfl (hm 15 rfl) ?_
      refine jm_bipush (pc := 83) (v := 7) dM_made_83 (by decide) ?_
      refine jm_iload_n (pc := 85) dM_made_85 rfl ?_
      refine jm_imul (pc := 86) dM_made_86 ?_
      refine jm_iload (pc := 87) dM_made_87 rfl ?_
      refine jm_iadd (pc := 89) dM_made_89 ?_
      rw [e7]
      refine jm_aload_n (pc := 90) dM_made_90 rfl ?_
      refine jm_getq (pc := 91) lM_49 dM_made_91 rfl rfl (hm 16 rfl) ?_
      refine jm_iload (pc := 94) dM_made_94 rfl ?_
      refine jm_iald (pc := 96) dM_made_96 rfl (by decide) rfl (fun _ => rfl) ?hin ?_
      case hin =>
        exact vp_in_nI (N := 7) (by omega) (by decide)
      rw [nI_clamp (by omega), er]
      refine jm_iast (pc := 97) dM_made_97 rfl (by decide) rfl (fun _ => rfl) ?hin ?_
      case hin =>
        exact vp_in_nI (N := 1750) (by omega) (by decide)
      rw [nI_clamp (by omega)]
      refine jm_iinc (pc := 98) dM_made_98 rfl (by decide) ?_
      refine jm_goto (pc := 101) (tgt := 70) dM_made_101 (by decide) ?_
      rw [show nI k + Int32.ofInt 1 = nI (k + 1) from ni1 k]
      exact ih (k + 1) _ (by omega) hm ((sI_ne (by omega)).trans h17) (fun j hj => (sI_ne (by omega)).trans (h25 j hj)) kk
set_option maxRecDepth 100000 in
set_option maxHeartbeats 4000000 in
theorem c_M_made_0 {n m up dp len : Nat} {s : Int32} {rv : Nat → Nat}  (hm : mF st) (hn : n < 250) (h5 : st.1 5 0 5 = nI n) (h17 : st.1 5 0 17 = nI m) (hm7 : m ≤ 7) (h25 : ∀ j, j < m → st.1 25 0 j = nI (rv j)) (hup : up < n) (h16 : st.1 16 0 up = nI dp) (h18 : st.1 18 0 up = nI len) (h19 : st.1 19 0 up = -1)  : MC l D mM_made d 0 0 [vR (some (5, 0)), vI (nI up), vI s] st (fun v s' => v = some (vI (nI n)) ∧ s' = mk3 (mk2 st n up s m rv dp) n up len none) := by
  refine jm_start (ls0 := [some (vR (some (5, 0))), some (vI (nI up)), some (vI s), none, none]) (by decide) (Nat.le_of_ble_eq_true rfl) rfl ?_
  refine jm_aload_n (pc := 0) dM_made_0 rfl ?_
  refine jm_geti (pc := 1) lM_118 dM_made_1 rfl (fun _ => rfl) ?_
  rw [h5]
  refine jm_istore_n (pc := 4) dM_made_4 (by decide) ?_
  refine jm_aload_n (pc := 5) dM_made_5 rfl ?_
  refine jm_dup (pc := 6) dM_made_6 rfl ?_
  refine jm_geti (pc := 7) lM_118 dM_made_7 rfl (fun _ => rfl) ?_
  rw [h5]
  refine jm_iconst (pc := 10) (v := 1) dM_made_10 (by decide) ?_
  refine jm_iadd (pc := 11) dM_made_11 ?_
  rw [show nI n + 1 = nI (n + 1) from nI_1 n]
  refine jm_puti (pc := 12) pM_made_118 dM_made_12 rfl rfl ?_
  refine jm_aload_n (pc := 15) dM_made_15 rfl ?_
  refine jm_getq (pc := 16) lM_19 dM_made_16 rfl rfl (hm 6 rfl) ?_
  refine jm_iload_n (pc := 19) dM_made_19 rfl ?_
  refine jm_iload_n (pc := 20) dM_made_20 rfl ?_
  refine jm_iast (pc := 21) dM_made_21 rfl (by decide) rfl (fun _ => rfl) ?hin ?_
  case hin =>
    exact vp_in_nI (N := 250) (by omega) (by decide)
  rw [nI_clamp (by omega)]
  refine jm_aload_n (pc := 22) dM_made_22 rfl ?_
  refine jm_getq (pc := 23) lM_28 dM_made_23 rfl rfl (hm 9 rfl) ?_
  refine jm_iload_n (pc := 26) dM_made_26 rfl ?_
  refine jm_iconst (pc := 27) (v := 0) dM_made_27 (by decide) ?_
  refine jm_iast (pc := 28) dM_made_28 rfl (by decide) rfl (fun _ => rfl) ?hin ?_
  case hin =>
    exact vp_in_nI (N := 250) (by omega) (by decide)
  rw [nI_clamp (by omega)]
  refine jm_aload_n (pc := 29) dM_made_29 rfl ?_
  refine jm_getq (pc := 30) lM_31 dM_made_30 rfl rfl (hm 10 rfl) ?_
  refine jm_iload_n (pc := 33) dM_made_33 rfl ?_
  refine jm_iconst (pc := 34) (v := -1) dM_made_34 (by decide) ?_
  refine jm_iast (pc := 35) dM_made_35 rfl (by decide) rfl (fun _ => rfl) ?hin ?_
  case hin =>
    exact vp_in_nI (N := 250) (by omega) (by decide)
  rw [nI_clamp (by omega)]
  refine jm_aload_n (pc := 36) dM_made_36 rfl ?_
  refine jm_getq (pc := 37) lM_34 dM_made_37 rfl rfl (hm 11 rfl) ?_
  refine jm_iload_n (pc := 40) dM_made_40 rfl ?_
  refine jm_iconst (pc := 41) (v := -1) dM_made_41 (by decide) ?_
  refine jm_iast (pc := 42) dM_made_42 rfl (by decide) rfl (fun _ => rfl) ?hin ?_
  case hin =>
    exact vp_in_nI (N := 250) (by omega) (by decide)
  rw [nI_clamp (by omega)]
  refine jm_aload_n (pc := 43) dM_made_43 rfl ?_
  refine jm_getq (pc := 44) lM_37 dM_made_44 rfl rfl (hm 12 rfl) ?_
  refine jm_iload_n (pc := 47) dM_made_47 rfl ?_
  refine jm_iconst (pc := 48) (v := -1) dM_made_48 (by decide) ?_
  refine jm_iast (pc := 49) dM_made_49 rfl (by decide) rfl (fun _ => rfl) ?hin ?_
  case hin =>
    exact vp_in_nI (N := 250) (by omega) (by decide)
  rw [nI_clamp (by omega)]
  refine jm_aload_n (pc := 50) dM_made_50 rfl ?_
  refine jm_getq (pc := 51) lM_40 dM_made_51 rfl rfl (hm 13 rfl) ?_
  refine jm_iload_n (pc := 54) dM_made_54 rfl ?_
  refine jm_iconst (pc := 55) (v := -1) dM_made_55 (by decide) ?_
  refine jm_iast (pc := 56) dM_made_56 rfl (by decide) rfl (fun _ => rfl) ?hin ?_
  case hin =>
    exact vp_in_nI (N := 250) (by omega) (by decide)
  rw [nI_clamp (by omega)]
  refine jm_aload_n (pc := 57) dM_made_57 rfl ?_
  refine jm_getq (pc := 58) lM_43 dM_made_58 rfl rfl (hm 14 rfl) ?_
  refine jm_iload_n (pc := 61) dM_made_61 rfl ?_
  refine jm_aload_n (pc := 62) dM_made_62 rfl ?_
  refine jm_geti (pc := 63) lM_121 dM_made_63 rfl (fun _ => rfl) ?_
  rw [show (sI (sI (sI (sI (sI (sI (sI st 5 0 5 (nI (n + 1))) 15 0 n s) 18 0 n 0) 19 0 n (-1)) 20 0 n (-1)) 21 0 n (-1)) 22 0 n (-1)).1 5 0 17 = nI m from by simpa [sI, u3] using h17]
  refine jm_iast (pc := 66) dM_made_66 rfl (by decide) rfl (fun _ => rfl) ?hin ?_
  case hin =>
    exact vp_in_nI (N := 250) (by omega) (by decide)
  rw [nI_clamp (by omega)]
  refine jm_iconst (pc := 67) (v := 0) dM_made_67 (by decide) ?_
  refine jm_istore (pc := 68) dM_made_68 (by decide) ?_
  refine lp_M_made (rv := rv) hn hm7 m 0 (mk1 st n s m) (by omega) hm ((mk1_I (by omega) (by omega)).trans h17) (fun j hj => (mk1_I (by omega) (by omega)).trans (h25 j hj)) ?_
  have hm : mF (mvF n rv m 0 (mk1 st n s m)) := fun j hj => (congrArg (fun z => z.2.1 5 0 j) (mvF_2 n rv m 0 (mk1 st n s m))).trans (hm j hj)
  refine jm_aload_n (pc := 104) dM_made_104 rfl ?_
  refine jm_getq (pc := 105) lM_25 dM_made_105 rfl rfl (hm 8 rfl) ?_
  refine jm_iload_n (pc := 108) dM_made_108 rfl ?_
  refine jm_iload_n (pc := 109) dM_made_109 rfl ?_
  refine jm_iast (pc := 110) dM_made_110 rfl (by decide) rfl (fun _ => rfl) ?hin ?_
  case hin =>
    exact vp_in_nI (N := 250) (by omega) (by decide)
  rw [nI_clamp (by omega)]
  refine jm_aload_n (pc := 111) dM_made_111 rfl ?_
  refine jm_getq (pc := 112) lM_22 dM_made_112 rfl rfl (hm 7 rfl) ?_
  refine jm_iload_n (pc := 115) dM_made_115 rfl ?_
  refine jm_iload_n (pc := 116) dM_made_116 rfl ?_
  refine jm_iconst (pc := 117) (v := -1) dM_made_117 (by decide) ?_
  refine jm_icmp_ne (pc := 118) (tgt := 125) dM_made_118 (by decide) (fun h118 => ?_) (fun h118 => ?_)
  · refine jm_aload_n (pc := 125) dM_made_125 rfl ?_
    refine jm_getq (pc := 126) lM_22 dM_made_126 rfl rfl (hm 7 rfl) ?_
    refine jm_iload_n (pc := 129) dM_made_129 rfl ?_
    refine jm_iald (pc := 130) dM_made_130 rfl (by decide) rfl (fun _ => rfl) ?hin ?_
    case hin =>
      exact vp_in_nI (N := 250) (by omega) (by decide)
    rw [nI_clamp (by omega), show (sI (mvF n rv m 0 (mk1 st n s m)) 17 0 n (nI up)).1 16 0 up = nI dp from (sI_ne (by omega)).trans ((mvF_1 _ _ _ _ _ (by omega)).trans ((mk1_I (by omega) (by omega)).trans h16))]
    refine jm_iconst (pc := 131) (v := 1) dM_made_131 (by decide) ?_
    refine jm_iadd (pc := 132) dM_made_132 ?_
    rw [show nI dp + 1 = nI (dp + 1) from nI_1 dp]
    refine jm_iast (pc := 133) dM_made_133 rfl (by decide) rfl (fun _ => rfl) ?hin ?_
    case hin =>
      exact vp_in_nI (N := 250) (by omega) (by decide)
    rw [nI_clamp (by omega), show sI (sI (mvF n rv m 0 (mk1 st n s m)) 17 0 n (nI up)) 16 0 n (nI (dp + 1)) = mk2 st n up s m rv dp from rfl]
    have hm : mF (mk2 st n up s m rv dp) := hm
    refine jm_iload_n (pc := 134) dM_made_134 rfl ?_
    refine jm_iconst (pc := 135) (v := -1) dM_made_135 (by decide) ?_
    refine jm_icmp_ne (pc := 136) (tgt := 141) dM_made_136 (by decide) (fun h136 => ?_) (fun h136 => ?_)
    · refine jm_aload_n (pc := 141) dM_made_141 rfl ?_
      refine jm_getq (pc := 142) lM_31 dM_made_142 rfl rfl (hm 10 rfl) ?_
      refine jm_iload_n (pc := 145) dM_made_145 rfl ?_
      refine jm_iald (pc := 146) dM_made_146 rfl (by decide) rfl (fun _ => rfl) ?hin ?_
      case hin =>
        exact vp_in_nI (N := 250) (by omega) (by decide)
      rw [nI_clamp (by omega), show (mk2 st n up s m rv dp).1 19 0 up = -1 from (mk2_I (by omega) (by omega) (by omega)).trans h19]
      refine jm_iconst (pc := 147) (v := -1) dM_made_147 (by decide) ?_
      refine jm_icmp_ne (pc := 148) (tgt := 161) dM_made_148 (by decide) (fun h148 => ?_) (fun h148 => ?_)
      · exact absurd rfl h148
      · refine jm_aload_n (pc := 151) dM_made_151 rfl ?_
        refine jm_getq (pc := 152) lM_31 dM_made_152 rfl rfl (hm 10 rfl) ?_
        refine jm_iload_n (pc := 155) dM_made_155 rfl ?_
        refine jm_iload_n (pc := 156) dM_made_156 rfl ?_
        refine jm_iast (pc := 157) dM_made_157 rfl (by decide) rfl (fun _ => rfl) ?hin ?_
        case hin =>
          exact vp_in_nI (N := 250) (by omega) (by decide)
        rw [nI_clamp (by omega)]
        refine jm_goto (pc := 158) (tgt := 173) dM_made_158 (by decide) ?_
        try rw [nI_clamp (by omega)]
        refine jm_aload_n (pc := 173) dM_made_173 rfl ?_
        refine jm_getq (pc := 174) lM_34 dM_made_174 rfl rfl (hm 11 rfl) ?_
        refine jm_iload_n (pc := 177) dM_made_177 rfl ?_
        refine jm_iload_n (pc := 178) dM_made_178 rfl ?_
        refine jm_iast (pc := 179) dM_made_179 rfl (by decide) rfl (fun _ => rfl) ?hin ?_
        case hin =>
          exact vp_in_nI (N := 250) (by omega) (by decide)
        rw [nI_clamp (by omega)]
        refine jm_aload_n (pc := 180) dM_made_180 rfl ?_
        refine jm_getq (pc := 181) lM_28 dM_made_181 rfl rfl (hm 9 rfl) ?_
        refine jm_iload_n (pc := 184) dM_made_184 rfl ?_
        first | refine jm_dup2_2 (pc := 185) dM_made_185 rfl ?_ | refine jm_dup2_11 (pc := 185) dM_made_185 rfl rfl ?_
        refine jm_iald (pc := 186) dM_made_186 rfl (by decide) rfl (fun _ => rfl) ?hin ?_
        case hin =>
          exact vp_in_nI (N := 250) (by omega) (by decide)
        rw [nI_clamp (by omega), show (sI (sI (mk2 st n up s m rv dp) 19 0 up (nI n)) 20 0 up (nI n)).1 18 0 up = nI len from (sI_ne (by omega)).trans ((sI_ne (by omega)).trans ((mk2_I (by omega) (by omega) (by omega)).trans h18))]
        refine jm_iconst (pc := 187) (v := 1) dM_made_187 (by decide) ?_
        refine jm_iadd (pc := 188) dM_made_188 ?_
        rw [show nI len + 1 = nI (len + 1) from nI_1 len]
        refine jm_iast (pc := 189) dM_made_189 rfl (by decide) rfl (fun _ => rfl) ?hin ?_
        case hin =>
          exact vp_in_nI (N := 250) (by omega) (by decide)
        rw [nI_clamp (by omega)]
        refine jm_iload_n (pc := 190) dM_made_190 rfl ?_
        refine jm_iret (pc := 191) dM_made_191 rfl ⟨Nat.le_refl _, Nat.le_refl _⟩ ?_
        exact ⟨rfl, rfl⟩
    · exact absurd h136 (fun z => nI_pos (n := up) (by omega) (by rw [z]; decide))
  · exact absurd h118 (fun z => nI_pos (n := up) (by omega) (by rw [z]; decide))
set_option maxRecDepth 100000 in
set_option maxHeartbeats 4000000 in
theorem c_M_made_1 {n m up dp len : Nat} {s : Int32} {rv : Nat → Nat} {z z0 : Nat} (hm : mF st) (hn : n < 250) (h5 : st.1 5 0 5 = nI n) (h17 : st.1 5 0 17 = nI m) (hm7 : m ≤ 7) (h25 : ∀ j, j < m → st.1 25 0 j = nI (rv j)) (hup : up < n) (h16 : st.1 16 0 up = nI dp) (h18 : st.1 18 0 up = nI len) (h19 : st.1 19 0 up = nI z0) (hz0 : z0 < 250) (h20 : st.1 20 0 up = nI z) (hz : z < 250) : MC l D mM_made d 0 0 [vR (some (5, 0)), vI (nI up), vI s] st (fun v s' => v = some (vI (nI n)) ∧ s' = mk3 (mk2 st n up s m rv dp) n up len (some z)) := by
  refine jm_start (ls0 := [some (vR (some (5, 0))), some (vI (nI up)), some (vI s), none, none]) (by decide) (Nat.le_of_ble_eq_true rfl) rfl ?_
  refine jm_aload_n (pc := 0) dM_made_0 rfl ?_
  refine jm_geti (pc := 1) lM_118 dM_made_1 rfl (fun _ => rfl) ?_
  rw [h5]
  refine jm_istore_n (pc := 4) dM_made_4 (by decide) ?_
  refine jm_aload_n (pc := 5) dM_made_5 rfl ?_
  refine jm_dup (pc := 6) dM_made_6 rfl ?_
  refine jm_geti (pc := 7) lM_118 dM_made_7 rfl (fun _ => rfl) ?_
  rw [h5]
  refine jm_iconst (pc := 10) (v := 1) dM_made_10 (by decide) ?_
  refine jm_iadd (pc := 11) dM_made_11 ?_
  rw [show nI n + 1 = nI (n + 1) from nI_1 n]
  refine jm_puti (pc := 12) pM_made_118 dM_made_12 rfl rfl ?_
  refine jm_aload_n (pc := 15) dM_made_15 rfl ?_
  refine jm_getq (pc := 16) lM_19 dM_made_16 rfl rfl (hm 6 rfl) ?_
  refine jm_iload_n (pc := 19) dM_made_19 rfl ?_
  refine jm_iload_n (pc := 20) dM_made_20 rfl ?_
  refine jm_iast (pc := 21) dM_made_21 rfl (by decide) rfl (fun _ => rfl) ?hin ?_
  case hin =>
    exact vp_in_nI (N := 250) (by omega) (by decide)
  rw [nI_clamp (by omega)]
  refine jm_aload_n (pc := 22) dM_made_22 rfl ?_
  refine jm_getq (pc := 23) lM_28 dM_made_23 rfl rfl (hm 9 rfl) ?_
  refine jm_iload_n (pc := 26) dM_made_26 rfl ?_
  refine jm_iconst (pc := 27) (v := 0) dM_made_27 (by decide) ?_
  refine jm_iast (pc := 28) dM_made_28 rfl (by decide) rfl (fun _ => rfl) ?hin ?_
  case hin =>
    exact vp_in_nI (N := 250) (by omega) (by decide)
  rw [nI_clamp (by omega)]
  refine jm_aload_n (pc := 29) dM_made_29 rfl ?_
  refine jm_getq (pc := 30) lM_31 dM_made_30 rfl rfl (hm 10 rfl) ?_
  refine jm_iload_n (pc := 33) dM_made_33 rfl ?_
  refine jm_iconst (pc := 34) (v := -1) dM_made_34 (by decide) ?_
  refine jm_iast (pc := 35) dM_made_35 rfl (by decide) rfl (fun _ => rfl) ?hin ?_
  case hin =>
    exact vp_in_nI (N := 250) (by omega) (by decide)
  rw [nI_clamp (by omega)]
  refine jm_aload_n (pc := 36) dM_made_36 rfl ?_
  refine jm_getq (pc := 37) lM_34 dM_made_37 rfl rfl (hm 11 rfl) ?_
  refine jm_iload_n (pc := 40) dM_made_40 rfl ?_
  refine jm_iconst (pc := 41) (v := -1) dM_made_41 (by decide) ?_
  refine jm_iast (pc := 42) dM_made_42 rfl (by decide) rfl (fun _ => rfl) ?hin ?_
  case hin =>
    exact vp_in_nI (N := 250) (by omega) (by decide)
  rw [nI_clamp (by omega)]
  refine jm_aload_n (pc := 43) dM_made_43 rfl ?_
  refine jm_getq (pc := 44) lM_37 dM_made_44 rfl rfl (hm 12 rfl) ?_
  refine jm_iload_n (pc := 47) dM_made_47 rfl ?_
  refine jm_iconst (pc := 48) (v := -1) dM_made_48 (by decide) ?_
  refine jm_iast (pc := 49) dM_made_49 rfl (by decide) rfl (fun _ => rfl) ?hin ?_
  case hin =>
    exact vp_in_nI (N := 250) (by omega) (by decide)
  rw [nI_clamp (by omega)]
  refine jm_aload_n (pc := 50) dM_made_50 rfl ?_
  refine jm_getq (pc := 51) lM_40 dM_made_51 rfl rfl (hm 13 rfl) ?_
  refine jm_iload_n (pc := 54) dM_made_54 rfl ?_
  refine jm_iconst (pc := 55) (v := -1) dM_made_55 (by decide) ?_
  refine jm_iast (pc := 56) dM_made_56 rfl (by decide) rfl (fun _ => rfl) ?hin ?_
  case hin =>
    exact vp_in_nI (N := 250) (by omega) (by decide)
  rw [nI_clamp (by omega)]
  refine jm_aload_n (pc := 57) dM_made_57 rfl ?_
  refine jm_getq (pc := 58) lM_43 dM_made_58 rfl rfl (hm 14 rfl) ?_
  refine jm_iload_n (pc := 61) dM_made_61 rfl ?_
  refine jm_aload_n (pc := 62) dM_made_62 rfl ?_
  refine jm_geti (pc := 63) lM_121 dM_made_63 rfl (fun _ => rfl) ?_
  rw [show (sI (sI (sI (sI (sI (sI (sI st 5 0 5 (nI (n + 1))) 15 0 n s) 18 0 n 0) 19 0 n (-1)) 20 0 n (-1)) 21 0 n (-1)) 22 0 n (-1)).1 5 0 17 = nI m from by simpa [sI, u3] using h17]
  refine jm_iast (pc := 66) dM_made_66 rfl (by decide) rfl (fun _ => rfl) ?hin ?_
  case hin =>
    exact vp_in_nI (N := 250) (by omega) (by decide)
  rw [nI_clamp (by omega)]
  refine jm_iconst (pc := 67) (v := 0) dM_made_67 (by decide) ?_
  refine jm_istore (pc := 68) dM_made_68 (by decide) ?_
  refine lp_M_made (rv := rv) hn hm7 m 0 (mk1 st n s m) (by omega) hm ((mk1_I (by omega) (by omega)).trans h17) (fun j hj => (mk1_I (by omega) (by omega)).trans (h25 j hj)) ?_
  have hm : mF (mvF n rv m 0 (mk1 st n s m)) := fun j hj => (congrArg (fun z => z.2.1 5 0 j) (mvF_2 n rv m 0 (mk1 st n s m))).trans (hm j hj)
  refine jm_aload_n (pc := 104) dM_made_104 rfl ?_
  refine jm_getq (pc := 105) lM_25 dM_made_105 rfl rfl (hm 8 rfl) ?_
  refine jm_iload_n (pc := 108) dM_made_108 rfl ?_
  refine jm_iload_n (pc := 109) dM_made_109 rfl ?_
  refine jm_iast (pc := 110) dM_made_110 rfl (by decide) rfl (fun _ => rfl) ?hin ?_
  case hin =>
    exact vp_in_nI (N := 250) (by omega) (by decide)
  rw [nI_clamp (by omega)]
  refine jm_aload_n (pc := 111) dM_made_111 rfl ?_
  refine jm_getq (pc := 112) lM_22 dM_made_112 rfl rfl (hm 7 rfl) ?_
  refine jm_iload_n (pc := 115) dM_made_115 rfl ?_
  refine jm_iload_n (pc := 116) dM_made_116 rfl ?_
  refine jm_iconst (pc := 117) (v := -1) dM_made_117 (by decide) ?_
  refine jm_icmp_ne (pc := 118) (tgt := 125) dM_made_118 (by decide) (fun h118 => ?_) (fun h118 => ?_)
  · refine jm_aload_n (pc := 125) dM_made_125 rfl ?_
    refine jm_getq (pc := 126) lM_22 dM_made_126 rfl rfl (hm 7 rfl) ?_
    refine jm_iload_n (pc := 129) dM_made_129 rfl ?_
    refine jm_iald (pc := 130) dM_made_130 rfl (by decide) rfl (fun _ => rfl) ?hin ?_
    case hin =>
      exact vp_in_nI (N := 250) (by omega) (by decide)
    rw [nI_clamp (by omega), show (sI (mvF n rv m 0 (mk1 st n s m)) 17 0 n (nI up)).1 16 0 up = nI dp from (sI_ne (by omega)).trans ((mvF_1 _ _ _ _ _ (by omega)).trans ((mk1_I (by omega) (by omega)).trans h16))]
    refine jm_iconst (pc := 131) (v := 1) dM_made_131 (by decide) ?_
    refine jm_iadd (pc := 132) dM_made_132 ?_
    rw [show nI dp + 1 = nI (dp + 1) from nI_1 dp]
    refine jm_iast (pc := 133) dM_made_133 rfl (by decide) rfl (fun _ => rfl) ?hin ?_
    case hin =>
      exact vp_in_nI (N := 250) (by omega) (by decide)
    rw [nI_clamp (by omega), show sI (sI (mvF n rv m 0 (mk1 st n s m)) 17 0 n (nI up)) 16 0 n (nI (dp + 1)) = mk2 st n up s m rv dp from rfl]
    have hm : mF (mk2 st n up s m rv dp) := hm
    refine jm_iload_n (pc := 134) dM_made_134 rfl ?_
    refine jm_iconst (pc := 135) (v := -1) dM_made_135 (by decide) ?_
    refine jm_icmp_ne (pc := 136) (tgt := 141) dM_made_136 (by decide) (fun h136 => ?_) (fun h136 => ?_)
    · refine jm_aload_n (pc := 141) dM_made_141 rfl ?_
      refine jm_getq (pc := 142) lM_31 dM_made_142 rfl rfl (hm 10 rfl) ?_
      refine jm_iload_n (pc := 145) dM_made_145 rfl ?_
      refine jm_iald (pc := 146) dM_made_146 rfl (by decide) rfl (fun _ => rfl) ?hin ?_
      case hin =>
        exact vp_in_nI (N := 250) (by omega) (by decide)
      rw [nI_clamp (by omega), show (mk2 st n up s m rv dp).1 19 0 up = nI z0 from (mk2_I (by omega) (by omega) (by omega)).trans h19]
      refine jm_iconst (pc := 147) (v := -1) dM_made_147 (by decide) ?_
      refine jm_icmp_ne (pc := 148) (tgt := 161) dM_made_148 (by decide) (fun h148 => ?_) (fun h148 => ?_)
      · refine jm_aload_n (pc := 161) dM_made_161 rfl ?_
        refine jm_getq (pc := 162) lM_37 dM_made_162 rfl rfl (hm 12 rfl) ?_
        refine jm_aload_n (pc := 165) dM_made_165 rfl ?_
        refine jm_getq (pc := 166) lM_34 dM_made_166 rfl rfl (hm 11 rfl) ?_
        refine jm_iload_n (pc := 169) dM_made_169 rfl ?_
        refine jm_iald (pc := 170) dM_made_170 rfl (by decide) rfl (fun _ => rfl) ?hin ?_
        case hin =>
          exact vp_in_nI (N := 250) (by omega) (by decide)
        rw [nI_clamp (by omega), show (mk2 st n up s m rv dp).1 20 0 up = nI z from (mk2_I (by omega) (by omega) (by omega)).trans h20]
        refine jm_iload_n (pc := 171) dM_made_171 rfl ?_
        refine jm_iast (pc := 172) dM_made_172 rfl (by decide) rfl (fun _ => rfl) ?hin ?_
        case hin =>
          exact vp_in_nI (N := 250) (by omega) (by decide)
        try rw [nI_clamp (by omega)]
        refine jm_aload_n (pc := 173) dM_made_173 rfl ?_
        refine jm_getq (pc := 174) lM_34 dM_made_174 rfl rfl (hm 11 rfl) ?_
        refine jm_iload_n (pc := 177) dM_made_177 rfl ?_
        refine jm_iload_n (pc := 178) dM_made_178 rfl ?_
        refine jm_iast (pc := 179) dM_made_179 rfl (by decide) rfl (fun _ => rfl) ?hin ?_
        case hin =>
          exact vp_in_nI (N := 250) (by omega) (by decide)
        rw [nI_clamp (by omega)]
        refine jm_aload_n (pc := 180) dM_made_180 rfl ?_
        refine jm_getq (pc := 181) lM_28 dM_made_181 rfl rfl (hm 9 rfl) ?_
        refine jm_iload_n (pc := 184) dM_made_184 rfl ?_
        first | refine jm_dup2_2 (pc := 185) dM_made_185 rfl ?_ | refine jm_dup2_11 (pc := 185) dM_made_185 rfl rfl ?_
        refine jm_iald (pc := 186) dM_made_186 rfl (by decide) rfl (fun _ => rfl) ?hin ?_
        case hin =>
          exact vp_in_nI (N := 250) (by omega) (by decide)
        rw [nI_clamp (by omega), show (sI (sI (mk2 st n up s m rv dp) 21 0 z (nI n)) 20 0 up (nI n)).1 18 0 up = nI len from (sI_ne (by omega)).trans ((sI_ne (by omega)).trans ((mk2_I (by omega) (by omega) (by omega)).trans h18))]
        refine jm_iconst (pc := 187) (v := 1) dM_made_187 (by decide) ?_
        refine jm_iadd (pc := 188) dM_made_188 ?_
        rw [show nI len + 1 = nI (len + 1) from nI_1 len]
        refine jm_iast (pc := 189) dM_made_189 rfl (by decide) rfl (fun _ => rfl) ?hin ?_
        case hin =>
          exact vp_in_nI (N := 250) (by omega) (by decide)
        rw [nI_clamp (by omega)]
        refine jm_iload_n (pc := 190) dM_made_190 rfl ?_
        refine jm_iret (pc := 191) dM_made_191 rfl ⟨Nat.le_refl _, Nat.le_refl _⟩ ?_
        exact ⟨rfl, rfl⟩
      · exact absurd h148 (fun z => nI_pos (n := z0) (by omega) (by rw [z]; decide))
    · exact absurd h136 (fun z => nI_pos (n := up) (by omega) (by rw [z]; decide))
  · exact absurd h118 (fun z => nI_pos (n := up) (by omega) (by rw [z]; decide))
set_option maxRecDepth 100000 in
set_option maxHeartbeats 4000000 in
theorem c_M_made_r {n m : Nat} {s : Int32} {rv : Nat → Nat} (hm : mF st) (hn : n < 250) (h5 : st.1 5 0 5 = nI n) (h17 : st.1 5 0 17 = nI m) (hm7 : m ≤ 7) (h25 : ∀ j, j < m → st.1 25 0 j = nI (rv j)) : MC l D mM_made d 0 0 [vR (some (5, 0)), vI (-1), vI s] st (fun v s' => v = some (vI (nI n)) ∧ s' = sI (sI (mvF n rv m 0 (mk1 st n s m)) 17 0 n (-1)) 16 0 n 0) := by
  refine jm_start (ls0 := [some (vR (some (5, 0))), some (vI (-1)), some (vI s), none, none]) (by decide) (Nat.le_of_ble_eq_true rfl) rfl ?_
  refine jm_aload_n (pc := 0) dM_made_0 rfl ?_
  refine jm_geti (pc := 1) lM_118 dM_made_1 rfl (fun _ => rfl) ?_
  rw [h5]
  refine jm_istore_n (pc := 4) dM_made_4 (by decide) ?_
  refine jm_aload_n (pc := 5) dM_made_5 rfl ?_
  refine jm_dup (pc := 6) dM_made_6 rfl ?_
  refine jm_geti (pc := 7) lM_118 dM_made_7 rfl (fun _ => rfl) ?_
  rw [h5]
  refine jm_iconst (pc := 10) (v := 1) dM_made_10 (by decide) ?_
  refine jm_iadd (pc := 11) dM_made_11 ?_
  rw [show nI n + 1 = nI (n + 1) from nI_1 n]
  refine jm_puti (pc := 12) pM_made_118 dM_made_12 rfl rfl ?_
  refine jm_aload_n (pc := 15) dM_made_15 rfl ?_
  refine jm_getq (pc := 16) lM_19 dM_made_16 rfl rfl (hm 6 rfl) ?_
  refine jm_iload_n (pc := 19) dM_made_19 rfl ?_
  refine jm_iload_n (pc := 20) dM_made_20 rfl ?_
  refine jm_iast (pc := 21) dM_made_21 rfl (by decide) rfl (fun _ => rfl) ?hin ?_
  case hin =>
    exact vp_in_nI (N := 250) (by omega) (by decide)
  rw [nI_clamp (by omega)]
  refine jm_aload_n (pc := 22) dM_made_22 rfl ?_
  refine jm_getq (pc := 23) lM_28 dM_made_23 rfl rfl (hm 9 rfl) ?_
  refine jm_iload_n (pc := 26) dM_made_26 rfl ?_
  refine jm_iconst (pc := 27) (v := 0) dM_made_27 (by decide) ?_
  refine jm_iast (pc := 28) dM_made_28 rfl (by decide) rfl (fun _ => rfl) ?hin ?_
  case hin =>
    exact vp_in_nI (N := 250) (by omega) (by decide)
  rw [nI_clamp (by omega)]
  refine jm_aload_n (pc := 29) dM_made_29 rfl ?_
  refine jm_getq (pc := 30) lM_31 dM_made_30 rfl rfl (hm 10 rfl) ?_
  refine jm_iload_n (pc := 33) dM_made_33 rfl ?_
  refine jm_iconst (pc := 34) (v := -1) dM_made_34 (by decide) ?_
  refine jm_iast (pc := 35) dM_made_35 rfl (by decide) rfl (fun _ => rfl) ?hin ?_
  case hin =>
    exact vp_in_nI (N := 250) (by omega) (by decide)
  rw [nI_clamp (by omega)]
  refine jm_aload_n (pc := 36) dM_made_36 rfl ?_
  refine jm_getq (pc := 37) lM_34 dM_made_37 rfl rfl (hm 11 rfl) ?_
  refine jm_iload_n (pc := 40) dM_made_40 rfl ?_
  refine jm_iconst (pc := 41) (v := -1) dM_made_41 (by decide) ?_
  refine jm_iast (pc := 42) dM_made_42 rfl (by decide) rfl (fun _ => rfl) ?hin ?_
  case hin =>
    exact vp_in_nI (N := 250) (by omega) (by decide)
  rw [nI_clamp (by omega)]
  refine jm_aload_n (pc := 43) dM_made_43 rfl ?_
  refine jm_getq (pc := 44) lM_37 dM_made_44 rfl rfl (hm 12 rfl) ?_
  refine jm_iload_n (pc := 47) dM_made_47 rfl ?_
  refine jm_iconst (pc := 48) (v := -1) dM_made_48 (by decide) ?_
  refine jm_iast (pc := 49) dM_made_49 rfl (by decide) rfl (fun _ => rfl) ?hin ?_
  case hin =>
    exact vp_in_nI (N := 250) (by omega) (by decide)
  rw [nI_clamp (by omega)]
  refine jm_aload_n (pc := 50) dM_made_50 rfl ?_
  refine jm_getq (pc := 51) lM_40 dM_made_51 rfl rfl (hm 13 rfl) ?_
  refine jm_iload_n (pc := 54) dM_made_54 rfl ?_
  refine jm_iconst (pc := 55) (v := -1) dM_made_55 (by decide) ?_
  refine jm_iast (pc := 56) dM_made_56 rfl (by decide) rfl (fun _ => rfl) ?hin ?_
  case hin =>
    exact vp_in_nI (N := 250) (by omega) (by decide)
  rw [nI_clamp (by omega)]
  refine jm_aload_n (pc := 57) dM_made_57 rfl ?_
  refine jm_getq (pc := 58) lM_43 dM_made_58 rfl rfl (hm 14 rfl) ?_
  refine jm_iload_n (pc := 61) dM_made_61 rfl ?_
  refine jm_aload_n (pc := 62) dM_made_62 rfl ?_
  refine jm_geti (pc := 63) lM_121 dM_made_63 rfl (fun _ => rfl) ?_
  rw [show (sI (sI (sI (sI (sI (sI (sI st 5 0 5 (nI (n + 1))) 15 0 n s) 18 0 n 0) 19 0 n (-1)) 20 0 n (-1)) 21 0 n (-1)) 22 0 n (-1)).1 5 0 17 = nI m from by simpa [sI, u3] using h17]
  refine jm_iast (pc := 66) dM_made_66 rfl (by decide) rfl (fun _ => rfl) ?hin ?_
  case hin =>
    exact vp_in_nI (N := 250) (by omega) (by decide)
  rw [nI_clamp (by omega)]
  refine jm_iconst (pc := 67) (v := 0) dM_made_67 (by decide) ?_
  refine jm_istore (pc := 68) dM_made_68 (by decide) ?_
  refine lp_M_made (rv := rv) hn hm7 m 0 (mk1 st n s m) (by omega) hm ((mk1_I (by omega) (by omega)).trans h17) (fun j hj => (mk1_I (by omega) (by omega)).trans (h25 j hj)) ?_
  have hm : mF (mvF n rv m 0 (mk1 st n s m)) := fun j hj => (congrArg (fun z => z.2.1 5 0 j) (mvF_2 n rv m 0 (mk1 st n s m))).trans (hm j hj)
  refine jm_aload_n (pc := 104) dM_made_104 rfl ?_
  refine jm_getq (pc := 105) lM_25 dM_made_105 rfl rfl (hm 8 rfl) ?_
  refine jm_iload_n (pc := 108) dM_made_108 rfl ?_
  refine jm_iload_n (pc := 109) dM_made_109 rfl ?_
  refine jm_iast (pc := 110) dM_made_110 rfl (by decide) rfl (fun _ => rfl) ?hin ?_
  case hin =>
    exact vp_in_nI (N := 250) (by omega) (by decide)
  rw [nI_clamp (by omega)]
  refine jm_aload_n (pc := 111) dM_made_111 rfl ?_
  refine jm_getq (pc := 112) lM_22 dM_made_112 rfl rfl (hm 7 rfl) ?_
  refine jm_iload_n (pc := 115) dM_made_115 rfl ?_
  refine jm_iload_n (pc := 116) dM_made_116 rfl ?_
  refine jm_iconst (pc := 117) (v := -1) dM_made_117 (by decide) ?_
  refine jm_icmp_ne (pc := 118) (tgt := 125) dM_made_118 (by decide) (fun h118 => ?_) (fun h118 => ?_)
  · exact absurd rfl h118
  · refine jm_iconst (pc := 121) (v := 0) dM_made_121 (by decide) ?_
    refine jm_goto (pc := 122) (tgt := 133) dM_made_122 (by decide) ?_
    refine jm_iast (pc := 133) dM_made_133 rfl (by decide) rfl (fun _ => rfl) ?hin ?_
    case hin =>
      exact vp_in_nI (N := 250) (by omega) (by decide)
    rw [nI_clamp (by omega)]
    refine jm_iload_n (pc := 134) dM_made_134 rfl ?_
    refine jm_iconst (pc := 135) (v := -1) dM_made_135 (by decide) ?_
    refine jm_icmp_ne (pc := 136) (tgt := 141) dM_made_136 (by decide) (fun h136 => ?_) (fun h136 => ?_)
    · exact absurd rfl h136
    · refine jm_iload_n (pc := 139) dM_made_139 rfl ?_
      refine jm_iret (pc := 140) dM_made_140 rfl ⟨Nat.le_refl _, Nat.le_refl _⟩ ?_
      exact ⟨rfl, rfl⟩
set_option maxRecDepth 100000 in
set_option maxHeartbeats 4000000 in
theorem c_M_begin  (hm : mF st) (hd : 1 ≤ d) : MC l D mM_begin d 0 0 [vR (some (5, 0))] st (fun v s' => s' = mfg (mk0 (sL (sL (sI (sI st 5 0 5 0) 5 0 17 0) 5 0 18 0) 5 0 19 0)) ∧ v = none) := by
  refine jm_start (ls0 := [some (vR (some (5, 0)))]) (by decide) (Nat.le_of_ble_eq_true rfl) rfl ?_
  refine jm_aload_n (pc := 0) dM_begin_0 rfl ?_
  refine jm_iconst (pc := 1) (v := 0) dM_begin_1 (by decide) ?_
  refine jm_puti (pc := 2) pM_begin_118 dM_begin_2 rfl rfl ?_
  refine jm_aload_n (pc := 5) dM_begin_5 rfl ?_
  refine jm_iconst (pc := 6) (v := 0) dM_begin_6 (by decide) ?_
  refine jm_puti (pc := 7) pM_begin_121 dM_begin_7 rfl rfl ?_
  refine jm_aload_n (pc := 10) dM_begin_10 rfl ?_
  refine jm_lconst (pc := 11) (v := 0) dM_begin_11 (by decide) ?_
  refine jm_putl (pc := 12) pM_begin_124 dM_begin_12 rfl rfl ?_
  refine jm_aload_n (pc := 15) dM_begin_15 rfl ?_
  refine jm_lconst (pc := 16) (v := 0) dM_begin_16 (by decide) ?_
  refine jm_putl (pc := 17) pM_begin_128 dM_begin_17 rfl rfl ?_
  refine jm_aload_n (pc := 20) dM_begin_20 rfl ?_
  refine jm_iconst (pc := 21) (v := -1) dM_begin_21 (by decide) ?_
  refine jm_iconst (pc := 22) (v := 0) dM_begin_22 (by decide) ?_
  refine jm_callV (pc := 23) (c_M_made_r (d := d - 1) (st := (sL (sL (sI (sI st 5 0 5 0) 5 0 17 0) 5 0 18 0) 5 0 19 0)) (n := 0) (m := 0) (rv := fun _ => 0) hm (by decide) (show (sI (sI st 5 0 5 0) 5 0 17 0).1 5 0 5 = nI 0 from (sI_ne (by omega)).trans sI_eq) (show (sI (sI st 5 0 5 0) 5 0 17 0).1 5 0 17 = nI 0 from sI_eq) (by decide) (fun j hj => absurd hj (by omega))) fM_made vM_made cM_131 dM_begin_23 rfl rfl rfl rfl (by omega) ⟨Nat.le_refl _, Nat.le_refl _⟩ rfl (Nat.le_of_ble_eq_true rfl) (fun v s2 hq => ?_)
  obtain ⟨rfl, rfl⟩ := hq
  refine jm_pop (pc := 26) dM_begin_26 rfl ?_
  refine jm_aload_n (pc := 27) dM_begin_27 rfl ?_
  refine jm_callV (pc := 28) (c_M_changed (d := d - 1)) fM_changed vM_changed cM_135 dM_begin_28 rfl rfl rfl rfl (by omega) ⟨Nat.le_refl _, Nat.le_refl _⟩ rfl (Nat.le_of_ble_eq_true rfl) (fun v s2 hq => ?_)
  obtain ⟨rfl, rfl⟩ := hq
  refine jm_vret (pc := 31) dM_begin_31 rfl ⟨Nat.le_refl _, Nat.le_refl _⟩ ?_
  exact ⟨rfl, rfl⟩
set_option maxRecDepth 100000 in
set_option maxHeartbeats 4000000 in
theorem c_M_clear  (hm : mF st) (hd : 2 ≤ d) : MC l D mM_clear d 0 0 [vR (some (5, 0))] st (fun v s' => s' = mfg (mk0 (sL (sL (sI (sI (sI st 5 0 0 0) 5 0 5 0) 5 0 17 0) 5 0 18 0) 5 0 19 0)) ∧ v = none) := by
  refine jm_start (ls0 := [some (vR (some (5, 0)))]) (by decide) (Nat.le_of_ble_eq_true rfl) rfl ?_
  refine jm_aload_n (pc := 0) dM_clear_0 rfl ?_
  refine jm_iconst (pc := 1) (v := 0) dM_clear_1 (by decide) ?_
  refine jm_puti (pc := 2) pM_clear_115 dM_clear_2 rfl rfl ?_
  refine jm_aload_n (pc := 5) dM_clear_5 rfl ?_
  refine jm_callV (pc := 6) (c_M_begin (d := d - 1) hm (by omega)) fM_begin vM_begin cM_112 dM_clear_6 rfl rfl rfl rfl (by omega) ⟨Nat.le_refl _, Nat.le_refl _⟩ rfl (Nat.le_of_ble_eq_true rfl) (fun v s2 hq => ?_)
  obtain ⟨rfl, rfl⟩ := hq
  refine jm_vret (pc := 9) dM_clear_9 rfl ⟨Nat.le_refl _, Nat.le_refl _⟩ ?_
  exact ⟨rfl, rfl⟩
end CN2
