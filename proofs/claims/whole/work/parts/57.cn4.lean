section CN4
variable {l : Launch} {D : mD} {d : Nat} {st : aS} {E : EE} {rm : Nat} {rv : Nat → Nat} {g w : Int64} {od sk : Int32}
theorem MG.lk {st s' : aS} (h : MG E rm rv g w od sk st) (h22 : s'.2.2 = st.2.2) (h1 : ∀ a b c, ¬ (26 ≤ a ∧ a ≤ 40) → s'.1 a b c = st.1 a b c) (h2 : ∀ a b c, ¬ (26 ≤ a) → s'.2.1 a b c = st.2.1 a b c) : MG E rm rv g w od sk s' := by
  obtain ⟨q1, q2, q3, q4, q5, q6, q7, q8, q9, q10⟩ := h
  refine ⟨fun j hj => (congrArg (fun z => z.1 5 0 j) h22).trans (q1 j hj), fun i hi => ?_, ⟨(h1 5 0 1 (by omega)).trans q3.1, q3.2.1, fun p hp => ⟨(h1 12 0 p (by omega)).trans (q3.2.2 p hp).1, (q3.2.2 p hp).2.1, (h1 13 0 p (by omega)).trans (q3.2.2 p hp).2.2.1, (q3.2.2 p hp).2.2.2.1, fun m hm => (h1 14 0 _ (by omega)).trans ((q3.2.2 p hp).2.2.2.2 m hm)⟩⟩, (h1 5 0 5 (by omega)).trans q4, (h1 5 0 17 (by omega)).trans q5, fun k hk => (h1 25 0 k (by omega)).trans (q6 k hk), (h2 5 0 18 (by omega)).trans q7, (h2 5 0 19 (by omega)).trans q8, (h1 5 0 40 (by omega)).trans q9, (h1 5 0 41 (by omega)).trans q10⟩
  obtain ⟨a1, a2, a3, a4, a5, a6, a7, a8, a9⟩ := q2 i hi
  exact ⟨(h1 15 0 i (by omega)).trans a1, (h1 16 0 i (by omega)).trans a2, (h1 17 0 i (by omega)).trans a3, (h1 18 0 i (by omega)).trans a4, (h1 19 0 i (by omega)).trans a5, (h1 20 0 i (by omega)).trans a6, fun k p hk => (h1 21 0 p (by omega)).trans (a7 k p hk), ⟨(h1 23 0 i (by omega)).trans a8.1, a8.2.1, a8.2.2.1, fun k hk => ⟨(h1 24 0 _ (by omega)).trans (a8.2.2.2 k hk).1, (a8.2.2.2 k hk).2⟩⟩, fun z => (h1 22 0 i (by omega)).trans (a9 z)⟩
set_option maxRecDepth 100000 in
set_option maxHeartbeats 4000000 in
theorem lp_look_A {N : Nat} {Q : Option aV → aS → Prop} (hN : N ≤ 250) : ∀ (n k : Nat) (st : aS), k + n = 60 * N → mF st → st.1 5 0 5 = nI N → (∀ s', s'.2 = st.2 → (∀ a b c, ¬ a = 26 → s'.1 a b c = st.1 a b c) → (∀ c, (c < k → st.1 26 0 c = 0) → c < 60 * N → s'.1 26 0 c = 0) → MS l D mM_look d 0 0 Q 0 0 26 [some (vR (some (5, 0))), some (vI (nI (60 * N))), none, none, none, none] [] s') → MS l D mM_look d 0 0 Q 0 0 2 [some (vR (some (5, 0))), some (vI (nI k)), none, none, none, none] [] st := by
  intro n
  induction n with
  | zero =>
    intro k st hk hm h5 kk
    obtain rfl : k = 60 * N := by omega
    refine jm_iload_n (pc := 2) dM_look_2 rfl ?_
    refine jm_bipush (pc := 3) (v := 60) dM_look_3 (by decide) ?_
    refine jm_aload_n (pc := 5) dM_look_5 rfl ?_
    refine jm_geti (pc := 6) lM_118 dM_look_6 rfl (fun _ => rfl) ?_
    rw [h5]
    refine jm_imul (pc := 9) dM_look_9 ?_
    rw [e60]
    refine jm_icmp_ge (pc := 10) (tgt := 26) dM_look_10 (by decide) (fun h10 => ?_) (fun h10 => ?_)
    · exact kk st rfl (fun _ _ _ _ => rfl) (fun c h1 h2 => h1 h2)
    · exact absurd (nI_le (Nat.le_refl _) (by omega)) h10
  | succ n ih =>
    intro k st hk hm h5 kk
    refine jm_iload_n (pc := 2) dM_look_2 rfl ?_
    refine jm_bipush (pc := 3) (v := 60) dM_look_3 (by decide) ?_
    refine jm_aload_n (pc := 5) dM_look_5 rfl ?_
    refine jm_geti (pc := 6) lM_118 dM_look_6 rfl (fun _ => rfl) ?_
    rw [h5]
    refine jm_imul (pc := 9) dM_look_9 ?_
    rw [e60]
    refine jm_icmp_ge (pc := 10) (tgt := 26) dM_look_10 (by decide) (fun h10 => ?_) (fun h10 => ?_)
    · exact absurd h10 (nI_ge (by omega) (by omega))
    · refine jm_aload_n (pc := 13) dM_look_13 rfl ?_
      refine jm_getq (pc := 14) lM_52 dM_look_14 rfl rfl (hm 20 rfl) ?_
      refine jm_iload_n (pc := 17) dM_look_17 rfl ?_
      refine jm_iconst (pc := 18) (v := 0) dM_look_18 (by decide) ?_
      refine jm_iast (pc := 19) dM_look_19 rfl (by decide) rfl (fun _ => rfl) ?hin ?_
      case hin =>
        exact vp_in_nI (N := 15000) (by omega) (by decide)
      rw [nI_clamp (by omega)]
      refine jm_iinc (pc := 20) dM_look_20 rfl (by decide) ?_
      refine jm_goto (pc := 23) (tgt := 2) dM_look_23 (by decide) ?_
      rw [show nI k + Int32.ofInt 1 = nI (k + 1) from ni1 k]
      refine ih (k + 1) _ (by omega) hm ((sI_ne (by omega)).trans h5) (fun s' e2 e1 e0 => kk s' e2 (fun a b c q => (e1 a b c q).trans (sI_ne (by omega))) (fun c h1 h2 => e0 c (fun h3 => ?_) h2))
      by_cases e : c = k
      · subst e; exact sI_eq
      · exact (sI_ne (by omega)).trans (h1 (by omega))
set_option maxRecDepth 100000 in
set_option maxHeartbeats 4000000 in
theorem lp_look_x {i : Nat} {v : Int64} {y : Int32} {Q : Option aV → aS → Prop} (hi : i < 250) : ∀ (n k : Nat) (st : aS), k + n = 60 → mF st → MS l D mM_look d 0 0 Q 0 0 104 [some (vR (some (5, 0))), some (vI y), some (vL v), none, some (vI (nI i)), some (vI (nI 60))] [] (incF i v n k st) → MS l D mM_look d 0 0 Q 0 0 68 [some (vR (some (5, 0))), some (vI y), some (vL v), none, some (vI (nI i)), some (vI (nI k))] [] st := by
  intro n
  induction n with
  | zero =>
    intro k st hk hm kk
    obtain rfl : k = 60 := by omega
    refine jm_iload (pc := 68) dM_look_68 rfl ?_
    refine jm_bipush (pc := 70) (v := 60) dM_look_70 (by decide) ?_
    refine jm_icmp_ge (pc := 72) (tgt := 104) dM_look_72 (by decide) (fun h72 => ?_) (fun h72 => ?_)
    · exact kk
    · exact absurd (by decide) h72
  | succ n ih =>
    intro k st hk hm kk
    refine jm_iload (pc := 68) dM_look_68 rfl ?_
    refine jm_bipush (pc := 70) (v := 60) dM_look_70 (by decide) ?_
    refine jm_icmp_ge (pc := 72) (tgt := 104) dM_look_72 (by decide) (fun h72 => ?_) (fun h72 => ?_)
    · exact absurd h72 (nI_ge (b := 60) (by omega) (by decide))
    · refine jm_aload_n (pc := 75) dM_look_75 rfl ?_
      refine jm_getq (pc := 76) lM_52 dM_look_76 rfl rfl (hm 20 rfl) ?_
      refine jm_bipush (pc := 79) (v := 60) dM_look_79 (by decide) ?_
      refine jm_iload (pc := 81) dM_look_81 rfl ?_
      refine jm_imul (pc := 83) dM_look_83 ?_
      refine jm_iload (pc := 84) dM_look_84 rfl ?_
      refine jm_iadd (pc := 86) dM_look_86 ?_
      rw [e60b]
      first | refine jm_dup2_2 (pc := 87) dM_look_87 rfl ?_ | refine jm_dup2_11 (pc := 87) dM_look_87 rfl rfl ?_
      refine jm_iald (pc := 88) dM_look_88 rfl (by decide) rfl (fun _ => rfl) ?hin ?_
      case hin =>
        exact vp_in_nI (N := 15000) (by omega) (by decide)
      rw [nI_clamp (by omega)]
      refine jm_lload_n (pc := 89) dM_look_89 rfl ?_
      refine jm_iload (pc := 90) dM_look_90 rfl ?_
      refine jm_lshr (pc := 92) dM_look_92 ?_
      refine jm_lconst (pc := 93) (v := 1) dM_look_93 (by decide) ?_
      refine jm_land (pc := 94) dM_look_94 ?_
      refine jm_l2i (pc := 95) dM_look_95 ?_
      rw [bit_I (by omega)]
      refine jm_iadd (pc := 96) dM_look_96 ?_
      refine jm_iast (pc := 97) dM_look_97 rfl (by decide) rfl (fun _ => rfl) ?hin ?_
      case hin =>
        exact vp_in_nI (N := 15000) (by omega) (by decide)
      rw [nI_clamp (by omega)]
      refine jm_iinc (pc := 98) dM_look_98 rfl (by decide) ?_
      refine jm_goto (pc := 101) (tgt := 68) dM_look_101 (by decide) ?_
      rw [show nI k + Int32.ofInt 1 = nI (k + 1) from ni1 k]
      exact ih (k + 1) _ (by omega) hm kk
set_option maxRecDepth 100000 in
set_option maxHeartbeats 4000000 in
theorem lp_look_u {v : Int64} {y : Int32} {Q : Option aV → aS → Prop} (hT : TR E) (hX : TX E) : ∀ (i : Nat) (st : aS) (x5 : Option aV), i < eN E → mF st → (∀ j, j < eN E → st.1 17 0 j = if j = 0 then -1 else nI (eP E j)) → (∀ s' z4 z5, UPQ E i v st s' → MS l D mM_look d 0 0 Q 0 0 116 [some (vR (some (5, 0))), some (vI y), some (vL v), none, z4, z5] [] s') → MS l D mM_look d 0 0 Q 0 0 59 [some (vR (some (5, 0))), some (vI y), some (vL v), none, some (vI (nI i)), x5] [] st := by
  intro i
  induction i using Nat.strongRecOn with
  | _ i ih =>
    intro st x5 hi hm h17 kk
    have hi250 : i < 250 := Nat.lt_of_lt_of_le hi hT.1
    have ep := h17 i hi
    have hm2 : mF (incF i v 60 0 st) := fun j hj => (congrArg (fun z => z.2.1 5 0 j) (incF_2 i v 60 0 st)).trans (hm j hj)
    have e17 : ∀ j, j < eN E → (incF i v 60 0 st).1 17 0 j = if j = 0 then -1 else nI (eP E j) := fun j hj => (incF_1 _ _ _ _ _ (by omega)).trans (h17 j hj)
    refine jm_iload (pc := 59) dM_look_59 rfl ?_
    refine jm_iconst (pc := 61) (v := -1) dM_look_61 (by decide) ?_
    refine jm_icmp_eq (pc := 62) (tgt := 116) dM_look_62 (by decide) (fun h62 => ?_) (fun h62 => ?_)
    · exact absurd h62 (fun z => nI_pos (n := i) (by omega) (by rw [z]; decide))
    · refine jm_iconst (pc := 65) (v := 0) dM_look_65 (by decide) ?_
      refine jm_istore (pc := 66) dM_look_66 (by decide) ?_
      refine lp_look_x hi250 60 0 st rfl hm ?_
      have hm := hm2
      refine jm_aload_n (pc := 104) dM_look_104 rfl ?_
      refine jm_getq (pc := 105) lM_25 dM_look_105 rfl rfl (hm 8 rfl) ?_
      refine jm_iload (pc := 108) dM_look_108 rfl ?_
      refine jm_iald (pc := 110) dM_look_110 rfl (by decide) rfl (fun _ => rfl) ?hin ?_
      case hin =>
        exact vp_in_nI (N := 250) (by omega) (by decide)
      rw [nI_clamp (by omega), e17 i hi]
      refine jm_istore (pc := 111) dM_look_111 (by decide) ?_
      refine jm_goto (pc := 113) (tgt := 59) dM_look_113 (by decide) ?_
      by_cases e0 : i = 0
      · subst e0
        rw [if_pos rfl]
        refine jm_iload (pc := 59) dM_look_59 rfl ?_
        refine jm_iconst (pc := 61) (v := -1) dM_look_61 (by decide) ?_
        refine jm_icmp_eq (pc := 62) (tgt := 116) dM_look_62 (by decide) (fun h62 => ?_) (fun h62 => ?_)
        · exact kk _ _ _ (UPQ_0 hX.2.2.2.1)
        · exact absurd rfl h62
      · rw [if_neg e0]
        have hlt := (hX.2.2.2.2.1 i (by omega) hi).1
        exact ih (eP E i) hlt _ _ (by omega) hm2 e17 (fun s' z4 z5 h => kk s' z4 z5 (UPQ_s hT.2.1 hlt h))
set_option maxRecDepth 100000 in
set_option maxHeartbeats 4000000 in
theorem lp_look_B {Q : Option aV → aS → Prop} (hT : TR E) (hX : TX E) (hd : 1 ≤ d) : ∀ (n k : Nat) (c : Nat → Nat → Nat) (st : aS) (z2 z3 z4 z5 : Option aV), k + n = eN E → MG E rm rv g w od sk st → CT E k c → (∀ i, i < eN E → ∀ x, x < 60 → st.1 26 0 (60 * i + x) = nI (c i x)) → (∀ s' c' y2 y3 y4 y5, MG E rm rv g w od sk s' → s'.2 = st.2 → (∀ a b c, ¬ a = 26 → s'.1 a b c = st.1 a b c) → CT E (eN E) c' → (∀ i, i < eN E → ∀ x, x < 60 → s'.1 26 0 (60 * i + x) = nI (c' i x)) → MS l D mM_look d 0 0 Q 0 0 122 [some (vR (some (5, 0))), some (vI (nI (eN E))), y2, y3, y4, y5] [] s') → MS l D mM_look d 0 0 Q 0 0 28 [some (vR (some (5, 0))), some (vI (nI k)), z2, z3, z4, z5] [] st := by
  intro n
  induction n with
  | zero =>
    intro k c st z2 z3 z4 z5 hk hM hC h26 kk
    obtain rfl : k = eN E := by omega
    have hM0 := hM
    have h250 := hT.1
    obtain ⟨hm, hN, hP, m1_, m2_, m3_, m4_, m5_, m6_, m7_⟩ := hM
    refine jm_iload_n (pc := 28) dM_look_28 rfl ?_
    refine jm_aload_n (pc := 29) dM_look_29 rfl ?_
    refine jm_geti (pc := 30) lM_118 dM_look_30 rfl (fun _ => rfl) ?_
    rw [m1_]
    refine jm_icmp_ge (pc := 33) (tgt := 122) dM_look_33 (by decide) (fun h33 => ?_) (fun h33 => ?_)
    · exact kk st c _ _ _ _ hM0 rfl (fun _ _ _ _ => rfl) hC h26
    · exact absurd (nI_le (Nat.le_refl _) (by omega)) h33
  | succ n ih =>
    intro k c st z2 z3 z4 z5 hk hM hC h26 kk
    have hM0 := hM
    have h250 := hT.1
    obtain ⟨hm, hN, hP, m1_, m2_, m3_, m4_, m5_, m6_, m7_⟩ := hM
    have hkN : k < eN E := by omega
    obtain ⟨n1_, n2_, n3_, n4_, n5_, n6_, n7_, n8_, n9_⟩ := hN k hkN
    have q1 := (hT.2.2 k hkN).1
    have hv60 : ∀ j, j < eW E k → eV E k j < 60 := fun j hj => (n8_.2.2.2 j hj).2
    refine jm_iload_n (pc := 28) dM_look_28 rfl ?_
    refine jm_aload_n (pc := 29) dM_look_29 rfl ?_
    refine jm_geti (pc := 30) lM_118 dM_look_30 rfl (fun _ => rfl) ?_
    rw [m1_]
    refine jm_icmp_ge (pc := 33) (tgt := 122) dM_look_33 (by decide) (fun h33 => ?_) (fun h33 => ?_)
    · exact absurd h33 (nI_ge (by omega) (by omega))
    · refine jm_aload_n (pc := 36) dM_look_36 rfl ?_
      refine jm_getq (pc := 37) lM_19 dM_look_37 rfl rfl (hm 6 rfl) ?_
      refine jm_iload_n (pc := 40) dM_look_40 rfl ?_
      refine jm_iald (pc := 41) dM_look_41 rfl (by decide) rfl (fun _ => rfl) ?hin ?_
      case hin =>
        exact vp_in_nI (N := 250) (by omega) (by decide)
      rw [nI_clamp (by omega), n1_]
      refine jm_iconst (pc := 42) (v := 3) dM_look_42 (by decide) ?_
      refine jm_icmp_gt (pc := 43) (tgt := 49) dM_look_43 (by decide) (fun h43 => ?_) (fun h43 => ?_)
      · refine jm_aload_n (pc := 49) dM_look_49 rfl ?_
        refine jm_iload_n (pc := 50) dM_look_50 rfl ?_
        refine jm_iconst (pc := 51) (v := 0) dM_look_51 (by decide) ?_
        refine jm_callV (pc := 52) (c_M_rowOf (d := d - 1) hm n8_ (Nat.zero_le _)) fM_rowOf vM_rowOf cM_159 dM_look_52 rfl rfl rfl rfl (by omega) ⟨Nat.le_refl _, Nat.le_refl _⟩ rfl (Nat.le_of_ble_eq_true rfl) (fun v s2 hq => ?_)
        obtain ⟨rfl, rfl⟩ := hq
        refine jm_lstore_n (pc := 55) dM_look_55 (by decide) ?_
        refine jm_iload_n (pc := 56) dM_look_56 rfl ?_
        refine jm_istore (pc := 57) dM_look_57 (by decide) ?_
        refine lp_look_u hT hX k st _ hkN hm (fun j hj => (hN j hj).2.2.1) (fun s' y4 y5 hU => ?_)
        obtain ⟨u1, u2, u3'⟩ := hU
        have hM2 : MG E rm rv g w od sk s' := hM0.lk (by rw [u1]) (fun a b c q => u2 a b c (by omega)) (fun a b c q => by rw [u1])
        obtain ⟨c', hc'⟩ : ∃ c' : Nat → Nat → Nat, ∀ i, i < eN E → ∀ x, x < 60 → (subP (eP E) i k ∧ inR E k x → c' i x = c i x + 1) ∧ (¬ (subP (eP E) i k ∧ inR E k x) → c' i x = c i x) := ⟨fun i x => @ite _ (subP (eP E) i k ∧ inR E k x) (Classical.propDecidable _) (c i x + 1) (c i x), fun i hi x hx => ⟨fun q => if_pos q, fun q => if_neg q⟩⟩
        have hb : ∀ x, x < 60 → ((rowS (eW E k) (eV E k) 0).toBitVec.getLsbD x = true ↔ inR E k x) := fun x hx => by
          have := rowS_iff (w := eW E k) (fr := 0) (vr := eV E k) (v := x) hv60
          unfold gB at this
          rw [this]
          exact ⟨fun ⟨j, _, q1, q2⟩ => ⟨j, q1, q2⟩, fun ⟨j, q1, q2⟩ => ⟨j, Nat.zero_le j, q1, q2⟩⟩
        have h26b : ∀ i, i < eN E → ∀ x, x < 60 → s'.1 26 0 (60 * i + x) = nI (c' i x) := by
          intro i hi x hx
          obtain ⟨p1, p2⟩ := u3' i hi x hx
          obtain ⟨r1, r2⟩ := hc' i hi x hx
          by_cases hs : subP (eP E) i k
          · rw [p1 hs, h26 i hi x hx]
            unfold bI
            by_cases hr : inR E k x
            · rw [if_pos ((hb x hx).mpr hr), r1 ⟨hs, hr⟩, nI_add]
            · rw [if_neg (fun q => hr ((hb x hx).mp q)), r2 (fun q => hr q.2), nI_add]
              rfl
          · rw [p2 hs, h26 i hi x hx, r2 (fun q => hs q.1)]
        have hC2 : CT E (k + 1) c' := CT_step (fun x _ => sub_root hX k hkN) hC hc' hX.1
        refine jm_iinc (pc := 116) dM_look_116 rfl (by decide) ?_
        refine jm_goto (pc := 119) (tgt := 28) dM_look_119 (by decide) ?_
        rw [show nI k + Int32.ofInt 1 = nI (k + 1) from ni1 k]
        exact ih (k + 1) c' s' _ _ _ _ (by omega) hM2 hC2 h26b (fun t c2 x2 x3 x4 x5 g1 g2 g3 => kk t c2 x2 x3 x4 x5 g1 (g2.trans u1) (fun a b c q => (g3 a b c q).trans (u2 a b c (by omega))))
      · refine jm_goto (pc := 46) (tgt := 116) dM_look_46 (by decide) ?_
        have hW0 : eW E k = 0 := (hX.2.2.2.2.2 k hkN).2.2.2.1 (by
          have : ¬ 3 < eS E k := fun z => h43 (nI_lt (a := 3) z (by omega))
          omega)
        have hC2 : CT E (k + 1) c := CT_step (fun x hx => by obtain ⟨j, hj, -⟩ := hx; omega) hC (fun i hi x hx => ⟨fun q => by obtain ⟨j, hj, -⟩ := q.2; omega, fun _ => rfl⟩) hX.1
        refine jm_iinc (pc := 116) dM_look_116 rfl (by decide) ?_
        refine jm_goto (pc := 119) (tgt := 28) dM_look_119 (by decide) ?_
        rw [show nI k + Int32.ofInt 1 = nI (k + 1) from ni1 k]
        exact ih (k + 1) c st _ _ _ _ (by omega) hM0 hC2 h26 kk
set_option maxRecDepth 100000 in
set_option maxHeartbeats 4000000 in
theorem lp_look_y {i N : Nat} {c : Nat → Nat → Nat} {z3 z4 z5 : Option aV} {Q : Option aV → aS → Prop} (hi : i < N) (hN250 : N ≤ 250) (hc : ∀ i, i < N → ∀ x, x < 60 → c i x ≤ 250) : ∀ (n k : Nat) (O I : Int64) (st : aS), k + n = 60 → mF st → (∀ j, j < N → ∀ x, x < 60 → st.1 26 0 (60 * j + x) = nI (c j x)) → st.2.1 27 0 i = O → st.2.1 28 0 i = I → (∀ s' y2, LKc i st s' → s'.2.1 27 0 i = acF (fun x => c i x < c 0 x) n k O → s'.2.1 28 0 i = acF (fun x => 0 < c i x) n k I → MS l D mM_look d 0 0 Q 0 0 221 [some (vR (some (5, 0))), some (vI (nI i)), y2, z3, z4, z5] [] s') → MS l D mM_look d 0 0 Q 0 0 151 [some (vR (some (5, 0))), some (vI (nI i)), some (vI (nI k)), z3, z4, z5] [] st := by
  intro n
  induction n with
  | zero =>
    intro k O I st hk hm h26 hO hI kk
    obtain rfl : k = 60 := by omega
    refine jm_iload_n (pc := 151) dM_look_151 rfl ?_
    refine jm_bipush (pc := 152) (v := 60) dM_look_152 (by decide) ?_
    refine jm_icmp_ge (pc := 154) (tgt := 221) dM_look_154 (by decide) (fun h154 => ?_) (fun h154 => ?_)
    · exact kk st _ LKc.rf hO hI
    · exact absurd (by decide) h154
  | succ n ih =>
    intro k O I st hk hm h26 hO hI kk
    have c0 := h26 0 (by omega) k (by omega)
    have c1 := h26 i hi k (by omega)
    rw [show 60 * 0 + k = k by omega] at c0
    have b0 := hc 0 (by omega) k (by omega)
    have b1' := hc i hi k (by omega)
    refine jm_iload_n (pc := 151) dM_look_151 rfl ?_
    refine jm_bipush (pc := 152) (v := 60) dM_look_152 (by decide) ?_
    refine jm_icmp_ge (pc := 154) (tgt := 221) dM_look_154 (by decide) (fun h154 => ?_) (fun h154 => ?_)
    · exact absurd h154 (nI_ge (b := 60) (by omega) (by decide))
    · refine jm_aload_n (pc := 157) dM_look_157 rfl ?_
      refine jm_getq (pc := 158) lM_52 dM_look_158 rfl rfl (hm 20 rfl) ?_
      refine jm_iload_n (pc := 161) dM_look_161 rfl ?_
      refine jm_iald (pc := 162) dM_look_162 rfl (by decide) rfl (fun _ => rfl) ?hin ?_
      case hin =>
        exact vp_in_nI (N := 15000) (by omega) (by decide)
      rw [nI_clamp (by omega), c0]
      refine jm_aload_n (pc := 163) dM_look_163 rfl ?_
      refine jm_getq (pc := 164) lM_52 dM_look_164 rfl rfl (hm 20 rfl) ?_
      refine jm_bipush (pc := 167) (v := 60) dM_look_167 (by decide) ?_
      refine jm_iload_n (pc := 169) dM_look_169 rfl ?_
      refine jm_imul (pc := 170) dM_look_170 ?_
      refine jm_iload_n (pc := 171) dM_look_171 rfl ?_
      refine jm_iadd (pc := 172) dM_look_172 ?_
      rw [e60b]
      refine jm_iald (pc := 173) dM_look_173 rfl (by decide) rfl (fun _ => rfl) ?hin ?_
      case hin =>
        exact vp_in_nI (N := 15000) (by omega) (by decide)
      rw [nI_clamp (by omega), c1]
      refine jm_icmp_le (pc := 174) (tgt := 189) dM_look_174 (by decide) (fun h174 => ?_) (fun h174 => ?_)
      · try rw [nI_clamp (by omega)]
        refine jm_aload_n (pc := 189) dM_look_189 rfl ?_
        refine jm_getq (pc := 190) lM_52 dM_look_190 rfl rfl (hm 20 rfl) ?_
        refine jm_bipush (pc := 193) (v := 60) dM_look_193 (by decide) ?_
        refine jm_iload_n (pc := 195) dM_look_195 rfl ?_
        refine jm_imul (pc := 196) dM_look_196 ?_
        refine jm_iload_n (pc := 197) dM_look_197 rfl ?_
        refine jm_iadd (pc := 198) dM_look_198 ?_
        rw [e60b]
        refine jm_iald (pc := 199) dM_look_199 rfl (by decide) rfl (fun _ => rfl) ?hin ?_
        case hin =>
          exact vp_in_nI (N := 15000) (by omega) (by decide)
        rw [nI_clamp (by omega)]
        first | rw [c1] | rw [show (sL st 27 0 i (O ||| b1 k)).1 26 0 (60 * i + k) = nI (c i k) from c1]
        refine jm_if_le (pc := 200) (tgt := 215) dM_look_200 (by decide) (fun h200 => ?_) (fun h200 => ?_)
        · try rw [nI_clamp (by omega)]
          refine jm_iinc (pc := 215) dM_look_215 rfl (by decide) ?_
          refine jm_goto (pc := 218) (tgt := 151) dM_look_218 (by decide) ?_
          rw [show nI k + Int32.ofInt 1 = nI (k + 1) from ni1 k]
          have eO' : acF (fun x => c i x < c 0 x) (n + 1) k O = acF (fun x => c i x < c 0 x) n (k + 1) (if c i k < c 0 k then O ||| b1 k else O) := rfl
          have eI' : acF (fun x => 0 < c i x) (n + 1) k I = acF (fun x => 0 < c i x) n (k + 1) (if 0 < c i k then I ||| b1 k else I) := rfl
          rw [eO', eI'] at kk
          have y1 : nI (c 0 k) ≤ nI (c i k) → ¬ c i k < c 0 k := fun z q => nI_ge q (by omega) z
          have y2 : ¬ nI (c 0 k) ≤ nI (c i k) → c i k < c 0 k := fun z => Nat.lt_of_not_le fun q => z (nI_le q (by omega))
          have y3 : nI (c i k) ≤ 0 → ¬ 0 < c i k := fun z q => nI_nle q (by omega) z
          have y4 : ¬ nI (c i k) ≤ 0 → 0 < c i k := fun z => Nat.pos_of_ne_zero fun q => z (by rw [q]; decide)
          first
            | (rw [if_neg (y1 h174), if_neg (y3 h200)] at kk
               exact ih (k + 1) _ _ _ (by omega) hm h26 hO hI kk)
            | (rw [if_pos (y2 h174), if_neg (y3 h200)] at kk
               exact ih (k + 1) _ _ _ (by omega) hm h26 sL_eq ((sL_ne (by omega)).trans hI) (fun s' y2 q => kk s' y2 ((LKc.s (Or.inl rfl)).tr q)))
            | (rw [if_neg (y1 h174), if_pos (y4 h200)] at kk
               exact ih (k + 1) _ _ _ (by omega) hm h26 ((sL_ne (by omega)).trans hO) sL_eq (fun s' y2 q => kk s' y2 ((LKc.s (Or.inr rfl)).tr q)))
            | (rw [if_pos (y2 h174), if_pos (y4 h200)] at kk
               exact ih (k + 1) _ _ _ (by omega) hm h26 ((sL_ne (by omega)).trans sL_eq) sL_eq (fun s' y2 q => kk s' y2 (((LKc.s (Or.inl rfl)).tr (LKc.s (Or.inr rfl))).tr q)))
        · refine jm_aload_n (pc := 203) dM_look_203 rfl ?_
          refine jm_getq (pc := 204) lM_59 dM_look_204 rfl rfl (hm 22 rfl) ?_
          refine jm_iload_n (pc := 207) dM_look_207 rfl ?_
          first | refine jm_dup2_2 (pc := 208) dM_look_208 rfl ?_ | refine jm_dup2_11 (pc := 208) dM_look_208 rfl rfl ?_
          refine jm_lald (pc := 209) dM_look_209 rfl (by decide) rfl (fun _ => rfl) ?hin ?_
          case hin =>
            exact vp_in_nI (N := 250) (by omega) (by decide)
          rw [nI_clamp (by omega)]
          first | rw [hI] | rw [show (sL st 27 0 i (O ||| b1 k)).2.1 28 0 i = I from (sL_ne (by omega)).trans hI]
          refine jm_lconst (pc := 210) (v := 1) dM_look_210 (by decide) ?_
          refine jm_iload_n (pc := 211) dM_look_211 rfl ?_
          refine jm_lshl (pc := 212) dM_look_212 ?_
          rw [show (1 : Int64) <<< ((nI k).toInt64 &&& 63) = b1 k from rfl]
          refine jm_lor (pc := 213) dM_look_213 ?_
          refine jm_last (pc := 214) dM_look_214 rfl (by decide) rfl (fun _ => rfl) ?hin ?_
          case hin =>
            exact vp_in_nI (N := 250) (by omega) (by decide)
          try rw [nI_clamp (by omega)]
          refine jm_iinc (pc := 215) dM_look_215 rfl (by decide) ?_
          refine jm_goto (pc := 218) (tgt := 151) dM_look_218 (by decide) ?_
          rw [show nI k + Int32.ofInt 1 = nI (k + 1) from ni1 k]
          have eO' : acF (fun x => c i x < c 0 x) (n + 1) k O = acF (fun x => c i x < c 0 x) n (k + 1) (if c i k < c 0 k then O ||| b1 k else O) := rfl
          have eI' : acF (fun x => 0 < c i x) (n + 1) k I = acF (fun x => 0 < c i x) n (k + 1) (if 0 < c i k then I ||| b1 k else I) := rfl
          rw [eO', eI'] at kk
          have y1 : nI (c 0 k) ≤ nI (c i k) → ¬ c i k < c 0 k := fun z q => nI_ge q (by omega) z
          have y2 : ¬ nI (c 0 k) ≤ nI (c i k) → c i k < c 0 k := fun z => Nat.lt_of_not_le fun q => z (nI_le q (by omega))
          have y3 : nI (c i k) ≤ 0 → ¬ 0 < c i k := fun z q => nI_nle q (by omega) z
          have y4 : ¬ nI (c i k) ≤ 0 → 0 < c i k := fun z => Nat.pos_of_ne_zero fun q => z (by rw [q]; decide)
          first
            | (rw [if_neg (y1 h174), if_neg (y3 h200)] at kk
               exact ih (k + 1) _ _ _ (by omega) hm h26 hO hI kk)
            | (rw [if_pos (y2 h174), if_neg (y3 h200)] at kk
               exact ih (k + 1) _ _ _ (by omega) hm h26 sL_eq ((sL_ne (by omega)).trans hI) (fun s' y2 q => kk s' y2 ((LKc.s (Or.inl rfl)).tr q)))
            | (rw [if_neg (y1 h174), if_pos (y4 h200)] at kk
               exact ih (k + 1) _ _ _ (by omega) hm h26 ((sL_ne (by omega)).trans hO) sL_eq (fun s' y2 q => kk s' y2 ((LKc.s (Or.inr rfl)).tr q)))
            | (rw [if_pos (y2 h174), if_pos (y4 h200)] at kk
               exact ih (k + 1) _ _ _ (by omega) hm h26 ((sL_ne (by omega)).trans sL_eq) sL_eq (fun s' y2 q => kk s' y2 (((LKc.s (Or.inl rfl)).tr (LKc.s (Or.inr rfl))).tr q)))
      · refine jm_aload_n (pc := 177) dM_look_177 rfl ?_
        refine jm_getq (pc := 178) lM_55 dM_look_178 rfl rfl (hm 21 rfl) ?_
        refine jm_iload_n (pc := 181) dM_look_181 rfl ?_
        first | refine jm_dup2_2 (pc := 182) dM_look_182 rfl ?_ | refine jm_dup2_11 (pc := 182) dM_look_182 rfl rfl ?_
        refine jm_lald (pc := 183) dM_look_183 rfl (by decide) rfl (fun _ => rfl) ?hin ?_
        case hin =>
          exact vp_in_nI (N := 250) (by omega) (by decide)
        rw [nI_clamp (by omega), hO]
        refine jm_lconst (pc := 184) (v := 1) dM_look_184 (by decide) ?_
        refine jm_iload_n (pc := 185) dM_look_185 rfl ?_
        refine jm_lshl (pc := 186) dM_look_186 ?_
        rw [show (1 : Int64) <<< ((nI k).toInt64 &&& 63) = b1 k from rfl]
        refine jm_lor (pc := 187) dM_look_187 ?_
        refine jm_last (pc := 188) dM_look_188 rfl (by decide) rfl (fun _ => rfl) ?hin ?_
        case hin =>
          exact vp_in_nI (N := 250) (by omega) (by decide)
        try rw [nI_clamp (by omega)]
        refine jm_aload_n (pc := 189) dM_look_189 rfl ?_
        refine jm_getq (pc := 190) lM_52 dM_look_190 rfl rfl (hm 20 rfl) ?_
        refine jm_bipush (pc := 193) (v := 60) dM_look_193 (by decide) ?_
        refine jm_iload_n (pc := 195) dM_look_195 rfl ?_
        refine jm_imul (pc := 196) dM_look_196 ?_
        refine jm_iload_n (pc := 197) dM_look_197 rfl ?_
        refine jm_iadd (pc := 198) dM_look_198 ?_
        rw [e60b]
        refine jm_iald (pc := 199) dM_look_199 rfl (by decide) rfl (fun _ => rfl) ?hin ?_
        case hin =>
          exact vp_in_nI (N := 15000) (by omega) (by decide)
        rw [nI_clamp (by omega)]
        first | rw [c1] | rw [show (sL st 27 0 i (O ||| b1 k)).1 26 0 (60 * i + k) = nI (c i k) from c1]
        refine jm_if_le (pc := 200) (tgt := 215) dM_look_200 (by decide) (fun h200 => ?_) (fun h200 => ?_)
        · try rw [nI_clamp (by omega)]
          refine jm_iinc (pc := 215) dM_look_215 rfl (by decide) ?_
          refine jm_goto (pc := 218) (tgt := 151) dM_look_218 (by decide) ?_
          rw [show nI k + Int32.ofInt 1 = nI (k + 1) from ni1 k]
          have eO' : acF (fun x => c i x < c 0 x) (n + 1) k O = acF (fun x => c i x < c 0 x) n (k + 1) (if c i k < c 0 k then O ||| b1 k else O) := rfl
          have eI' : acF (fun x => 0 < c i x) (n + 1) k I = acF (fun x => 0 < c i x) n (k + 1) (if 0 < c i k then I ||| b1 k else I) := rfl
          rw [eO', eI'] at kk
          have y1 : nI (c 0 k) ≤ nI (c i k) → ¬ c i k < c 0 k := fun z q => nI_ge q (by omega) z
          have y2 : ¬ nI (c 0 k) ≤ nI (c i k) → c i k < c 0 k := fun z => Nat.lt_of_not_le fun q => z (nI_le q (by omega))
          have y3 : nI (c i k) ≤ 0 → ¬ 0 < c i k := fun z q => nI_nle q (by omega) z
          have y4 : ¬ nI (c i k) ≤ 0 → 0 < c i k := fun z => Nat.pos_of_ne_zero fun q => z (by rw [q]; decide)
          first
            | (rw [if_neg (y1 h174), if_neg (y3 h200)] at kk
               exact ih (k + 1) _ _ _ (by omega) hm h26 hO hI kk)
            | (rw [if_pos (y2 h174), if_neg (y3 h200)] at kk
               exact ih (k + 1) _ _ _ (by omega) hm h26 sL_eq ((sL_ne (by omega)).trans hI) (fun s' y2 q => kk s' y2 ((LKc.s (Or.inl rfl)).tr q)))
            | (rw [if_neg (y1 h174), if_pos (y4 h200)] at kk
               exact ih (k + 1) _ _ _ (by omega) hm h26 ((sL_ne (by omega)).trans hO) sL_eq (fun s' y2 q => kk s' y2 ((LKc.s (Or.inr rfl)).tr q)))
            | (rw [if_pos (y2 h174), if_pos (y4 h200)] at kk
               exact ih (k + 1) _ _ _ (by omega) hm h26 ((sL_ne (by omega)).trans sL_eq) sL_eq (fun s' y2 q => kk s' y2 (((LKc.s (Or.inl rfl)).tr (LKc.s (Or.inr rfl))).tr q)))
        · refine jm_aload_n (pc := 203) dM_look_203 rfl ?_
          refine jm_getq (pc := 204) lM_59 dM_look_204 rfl rfl (hm 22 rfl) ?_
          refine jm_iload_n (pc := 207) dM_look_207 rfl ?_
          first | refine jm_dup2_2 (pc := 208) dM_look_208 rfl ?_ | refine jm_dup2_11 (pc := 208) dM_look_208 rfl rfl ?_
          refine jm_lald (pc := 209) dM_look_209 rfl (by decide) rfl (fun _ => rfl) ?hin ?_
          case hin =>
            exact vp_in_nI (N := 250) (by omega) (by decide)
          rw [nI_clamp (by omega)]
          first | rw [hI] | rw [show (sL st 27 0 i (O ||| b1 k)).2.1 28 0 i = I from (sL_ne (by omega)).trans hI]
          refine jm_lconst (pc := 210) (v := 1) dM_look_210 (by decide) ?_
          refine jm_iload_n (pc := 211) dM_look_211 rfl ?_
          refine jm_lshl (pc := 212) dM_look_212 ?_
          rw [show (1 : Int64) <<< ((nI k).toInt64 &&& 63) = b1 k from rfl]
          refine jm_lor (pc := 213) dM_look_213 ?_
          refine jm_last (pc := 214) dM_look_214 rfl (by decide) rfl (fun _ => rfl) ?hin ?_
          case hin =>
            exact vp_in_nI (N := 250) (by omega) (by decide)
          try rw [nI_clamp (by omega)]
          refine jm_iinc (pc := 215) dM_look_215 rfl (by decide) ?_
          refine jm_goto (pc := 218) (tgt := 151) dM_look_218 (by decide) ?_
          rw [show nI k + Int32.ofInt 1 = nI (k + 1) from ni1 k]
          have eO' : acF (fun x => c i x < c 0 x) (n + 1) k O = acF (fun x => c i x < c 0 x) n (k + 1) (if c i k < c 0 k then O ||| b1 k else O) := rfl
          have eI' : acF (fun x => 0 < c i x) (n + 1) k I = acF (fun x => 0 < c i x) n (k + 1) (if 0 < c i k then I ||| b1 k else I) := rfl
          rw [eO', eI'] at kk
          have y1 : nI (c 0 k) ≤ nI (c i k) → ¬ c i k < c 0 k := fun z q => nI_ge q (by omega) z
          have y2 : ¬ nI (c 0 k) ≤ nI (c i k) → c i k < c 0 k := fun z => Nat.lt_of_not_le fun q => z (nI_le q (by omega))
          have y3 : nI (c i k) ≤ 0 → ¬ 0 < c i k := fun z q => nI_nle q (by omega) z
          have y4 : ¬ nI (c i k) ≤ 0 → 0 < c i k := fun z => Nat.pos_of_ne_zero fun q => z (by rw [q]; decide)
          first
            | (rw [if_neg (y1 h174), if_neg (y3 h200)] at kk
               exact ih (k + 1) _ _ _ (by omega) hm h26 hO hI kk)
            | (rw [if_pos (y2 h174), if_neg (y3 h200)] at kk
               exact ih (k + 1) _ _ _ (by omega) hm h26 sL_eq ((sL_ne (by omega)).trans hI) (fun s' y2 q => kk s' y2 ((LKc.s (Or.inl rfl)).tr q)))
            | (rw [if_neg (y1 h174), if_pos (y4 h200)] at kk
               exact ih (k + 1) _ _ _ (by omega) hm h26 ((sL_ne (by omega)).trans hO) sL_eq (fun s' y2 q => kk s' y2 ((LKc.s (Or.inr rfl)).tr q)))
            | (rw [if_pos (y2 h174), if_pos (y4 h200)] at kk
               exact ih (k + 1) _ _ _ (by omega) hm h26 ((sL_ne (by omega)).trans sL_eq) sL_eq (fun s' y2 q => kk s' y2 (((LKc.s (Or.inl rfl)).tr (LKc.s (Or.inr rfl))).tr q)))
set_option maxRecDepth 100000 in
set_option maxHeartbeats 4000000 in
theorem lp_look_C {c : Nat → Nat → Nat} (hT : TR E) (hX : TX E) (hC : CT E (eN E) c) (hO : ∀ i, i < eN E → ∀ v, v < 64 → (gB (eI E i) v ↔ inV E i v) ∧ (gB (eO E i) v ↔ gB w v ∨ outV E i v)) (hv60 : ∀ m, m < eN E → ∀ j, j < eW E m → eV E m j < 60) : ∀ (n k : Nat) (st : aS) (z2 z3 z4 z5 : Option aV), k + n = eN E → mF st → st.1 5 0 5 = nI (eN E) → st.2.1 5 0 19 = w → (∀ i, i < eN E → ∀ x, x < 60 → st.1 26 0 (60 * i + x) = nI (c i x)) → MS l D mM_look d 0 0 (fun v s' => v = none ∧ s'.1 = st.1 ∧ s'.2.2 = st.2.2 ∧ (∀ a b c, ¬ (a = 27 ∨ a = 28) → s'.2.1 a b c = st.2.1 a b c) ∧ ∀ i, i < eN E → (i < k → st.2.1 27 0 i = eO E i ∧ st.2.1 28 0 i = eI E i) → s'.2.1 27 0 i = eO E i ∧ s'.2.1 28 0 i = eI E i) 0 0 124 [some (vR (some (5, 0))), some (vI (nI k)), z2, z3, z4, z5] [] st := by
  have h250 := hT.1
  intro n
  induction n with
  | zero =>
    intro k st z2 z3 z4 z5 hk hm h5 hw h26
    obtain rfl : k = eN E := by omega
    refine jm_iload_n (pc := 124) dM_look_124 rfl ?_
    refine jm_aload_n (pc := 125) dM_look_125 rfl ?_
    refine jm_geti (pc := 126) lM_118 dM_look_126 rfl (fun _ => rfl) ?_
    rw [h5]
    refine jm_icmp_ge (pc := 129) (tgt := 227) dM_look_129 (by decide) (fun h129 => ?_) (fun h129 => ?_)
    · refine jm_vret (pc := 227) dM_look_227 rfl ⟨Nat.le_refl _, Nat.le_refl _⟩ ?_
      exact ⟨rfl, rfl, rfl, fun _ _ _ _ => rfl, fun i hi h => h hi⟩
    · exact absurd (nI_le (Nat.le_refl _) (by omega)) h129
  | succ n ih =>
    intro k st z2 z3 z4 z5 hk hm h5 hw h26
    have hkN : k < eN E := by omega
    refine jm_iload_n (pc := 124) dM_look_124 rfl ?_
    refine jm_aload_n (pc := 125) dM_look_125 rfl ?_
    refine jm_geti (pc := 126) lM_118 dM_look_126 rfl (fun _ => rfl) ?_
    rw [h5]
    refine jm_icmp_ge (pc := 129) (tgt := 227) dM_look_129 (by decide) (fun h129 => ?_) (fun h129 => ?_)
    · exact absurd h129 (nI_ge (by omega) (by omega))
    · refine jm_aload_n (pc := 132) dM_look_132 rfl ?_
      refine jm_getq (pc := 133) lM_55 dM_look_133 rfl rfl (hm 21 rfl) ?_
      refine jm_iload_n (pc := 136) dM_look_136 rfl ?_
      refine jm_aload_n (pc := 137) dM_look_137 rfl ?_
      refine jm_getl (pc := 138) lM_128 dM_look_138 rfl (fun _ => rfl) ?_
      rw [hw]
      refine jm_last (pc := 141) dM_look_141 rfl (by decide) rfl (fun _ => rfl) ?hin ?_
      case hin =>
        exact vp_in_nI (N := 250) (by omega) (by decide)
      rw [nI_clamp (by omega)]
      refine jm_aload_n (pc := 142) dM_look_142 rfl ?_
      refine jm_getq (pc := 143) lM_59 dM_look_143 rfl rfl (hm 22 rfl) ?_
      refine jm_iload_n (pc := 146) dM_look_146 rfl ?_
      refine jm_lconst (pc := 147) (v := 0) dM_look_147 (by decide) ?_
      refine jm_last (pc := 148) dM_look_148 rfl (by decide) rfl (fun _ => rfl) ?hin ?_
      case hin =>
        exact vp_in_nI (N := 250) (by omega) (by decide)
      rw [nI_clamp (by omega)]
      refine jm_iconst (pc := 149) (v := 0) dM_look_149 (by decide) ?_
      refine jm_istore_n (pc := 150) dM_look_150 (by decide) ?_
      refine lp_look_y (N := eN E) (c := c) hkN h250 (fun i hi x hx => Nat.le_trans (hC i hi x hx).1 h250) 60 0 w 0 _ rfl hm h26 ((sL_ne (by omega)).trans sL_eq) sL_eq (fun s' y2 hL e27 e28 => ?_)
      have gO : s'.2.1 27 0 k = eO E k := by
        rw [e27]
        refine i64_ext (fun v hv => ?_)
        have h1 := acF_iff (P := fun x => c k x < c 0 x) 60 0 w v (by omega)
        have h2 := (hO k hkN v hv).2
        have h3 : gB (acF (fun x => c k x < c 0 x) 60 0 w) v ↔ gB (eO E k) v := by
          rw [h1, h2]
          refine or_congr Iff.rfl ⟨fun q => ?_, fun q => ?_⟩
          · obtain ⟨m, hm1, hm2, hm3⟩ := ((hC k hkN v (by omega)).2.2.2).mp q.2.2
            exact ⟨m, hm1, hm2, hm3⟩
          · obtain ⟨m, hm1, hm2, j, hj, e⟩ := q
            have h60 := hv60 m hm1 j hj
            exact ⟨Nat.zero_le v, by omega, ((hC k hkN v (by omega)).2.2.2).mpr ⟨m, hm1, hm2, j, hj, e⟩⟩
        unfold gB at h3
        exact Bool.eq_iff_iff.mpr h3
      have gI : s'.2.1 28 0 k = eI E k := by
        rw [e28]
        refine i64_ext (fun v hv => ?_)
        have h1 := acF_iff (P := fun x => 0 < c k x) 60 0 0 v (by omega)
        have h2 := (hO k hkN v hv).1
        have h3 : gB (acF (fun x => 0 < c k x) 60 0 0) v ↔ gB (eI E k) v := by
          rw [h1, h2]
          constructor
          · rintro (q | q)
            · unfold gB at q; rw [i64_0] at q; cases q
            · obtain ⟨m, hm1, hm2, hm3⟩ := ((hC k hkN v (by omega)).2.1).mp q.2.2
              exact ⟨m, hm1, hm2, hm3⟩
          · rintro ⟨m, hm1, hm2, j, hj, e⟩
            have h60 := hv60 m hm1 j hj
            exact Or.inr ⟨Nat.zero_le v, by omega, ((hC k hkN v (by omega)).2.1).mpr ⟨m, hm1, hm2, j, hj, e⟩⟩
        unfold gB at h3
        exact Bool.eq_iff_iff.mpr h3
      have hm2 : mF s' := fun j hj => (congrArg (fun z => z.1 5 0 j) hL.2.1).trans (hm j hj)
      have hm := hm2
      refine jm_iinc (pc := 221) dM_look_221 rfl (by decide) ?_
      refine jm_goto (pc := 224) (tgt := 124) dM_look_224 (by decide) ?_
      rw [show nI k + Int32.ofInt 1 = nI (k + 1) from ni1 k]
      refine MS.mono (ih (k + 1) s' _ _ _ _ (by omega) hm2 ((congrArg (fun z => z 5 0 5) hL.1).trans h5) ((hL.2.2 5 0 19 (by omega)).trans ((sL_ne (by omega)).trans ((sL_ne (by omega)).trans hw))) (fun i hi x hx => (congrArg (fun z => z 26 0 (60 * i + x)) hL.1).trans (h26 i hi x hx))) (fun v s9 h => ⟨h.1, h.2.1.trans hL.1, h.2.2.1.trans hL.2.1, fun a b c q => (h.2.2.2.1 a b c q).trans ((hL.2.2 a b c (by omega)).trans ((sL_ne (by omega)).trans (sL_ne (by omega)))), fun i hi hq => h.2.2.2.2 i hi (fun hik => ?_)⟩)
      by_cases e : i = k
      · subst e; exact ⟨gO, gI⟩
      · have hq2 := hq (by omega)
        exact ⟨(hL.2.2 27 0 i (by omega)).trans ((sL_ne (by omega)).trans ((sL_ne (by omega)).trans hq2.1)), (hL.2.2 28 0 i (by omega)).trans ((sL_ne (by omega)).trans ((sL_ne (by omega)).trans hq2.2))⟩
set_option maxRecDepth 100000 in
set_option maxHeartbeats 4000000 in
theorem c_M_look  (hM : MG E rm rv g w od sk st) (hT : TR E) (hX : TX E) (hO : ∀ i, i < eN E → ∀ v, v < 64 → (gB (eI E i) v ↔ inV E i v) ∧ (gB (eO E i) v ↔ gB w v ∨ outV E i v)) (hd : 1 ≤ d) : MC l D mM_look d 0 0 [vR (some (5, 0))] st (fun v s' => v = none ∧ LKQ E st s') := by
  refine jm_start (ls0 := [some (vR (some (5, 0))), none, none, none, none, none]) (by decide) (Nat.le_of_ble_eq_true rfl) rfl ?_
  have hM0 := hM
  have h250 := hT.1
  obtain ⟨hm, hN, hP, m1_, m2_, m3_, m4_, m5_, m6_, m7_⟩ := hM
  have hv60 : ∀ m, m < eN E → ∀ j, j < eW E m → eV E m j < 60 := fun m hm j hj => ((hN m hm).2.2.2.2.2.2.2.1.2.2.2 j hj).2
  refine jm_iconst (pc := 0) (v := 0) dM_look_0 (by decide) ?_
  refine jm_istore_n (pc := 1) dM_look_1 (by decide) ?_
  refine lp_look_A h250 (60 * eN E) 0 st (by omega) hm m1_ (fun s1 e2 e1 e0 => ?_)
  have hM1 : MG E rm rv g w od sk s1 := hM0.lk (by rw [e2]) (fun a b c q => e1 a b c (by omega)) (fun a b c q => by rw [e2])
  refine jm_iconst (pc := 26) (v := 0) dM_look_26 (by decide) ?_
  refine jm_istore_n (pc := 27) dM_look_27 (by decide) ?_
  refine lp_look_B hT hX hd (eN E) 0 (fun _ _ => 0) s1 _ _ _ _ (by omega) hM1 CT_0 (fun i hi x hx => e0 _ (fun q => absurd q (by omega)) (by omega)) (fun s2 c y2 y3 y4 y5 hM2 g2 g1 hC h26 => ?_)
  refine jm_iconst (pc := 122) (v := 0) dM_look_122 (by decide) ?_
  refine jm_istore_n (pc := 123) dM_look_123 (by decide) ?_
  have hM3 := hM2
  obtain ⟨hm', hN', hP', m1', m2', m3', m4', m5', m6', m7'⟩ := hM2
  exact MS.mono (lp_look_C hT hX hC hO hv60 (eN E) 0 s2 _ _ _ _ (by omega) hm' m1' m5' h26) (fun v s9 h => ⟨h.1, h.2.2.1.trans (by rw [g2, e2]), fun a b c q => (congrArg (fun z => z a b c) h.2.1).trans ((g1 a b c q).trans (e1 a b c q)), fun a b c q => (h.2.2.2.1 a b c q).trans (by rw [g2, e2]), fun i hi => h.2.2.2.2 i hi (fun q => absurd q (by omega))⟩)
end CN4
