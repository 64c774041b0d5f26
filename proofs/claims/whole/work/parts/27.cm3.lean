section CM3
variable {l : Launch} {D : mD} {d : Nat} {st : aS} {E : EE}
set_option maxRecDepth 100000 in
set_option maxHeartbeats 4000000 in
theorem li_M_call {i w p m : Nat} {vr : Nat → Nat} {o : Int32} {S : Int64} {Q : Option aV → aS → Prop} (hm : mF st) (hv : mV st i w vr) (hd : 1 ≤ d) (hgo : ∀ (x7 : Int32) (x8 : Option aV), ((x7 = 1 ∧ allF o vr S w) ∨ (x7 = 0 ∧ ¬ allF o vr S w)) → MS l D mM_call d 0 0 Q 0 0 103 [some (vR (some (5, 0))), some (vI (nI i)), some (vL S), none, some (vI (nI p)), some (vI (nI m)), some (vI o), some (vI x7), x8] [] st) : ∀ (n k : Nat) (x7 x : Int32), x = nI k → k ≤ w → w - k < n → ((x7 = 1 ∧ allF o vr S k) ∨ (x7 = 0 ∧ ¬ allF o vr S k)) → MS l D mM_call d 0 0 Q 0 0 43 [some (vR (some (5, 0))), some (vI (nI i)), some (vL S), none, some (vI (nI p)), some (vI (nI m)), some (vI o), some (vI x7), some (vI x)] [] st := by
  intro n
  induction n with
  | zero =>
    intro k x7 x hx hk hn
    omega
  | succ n ih =>
    intro k x7 x hx hk hn h7
    have h250 := hv.2.2.1
    have hw7 := hv.2.1
    refine jm_iload (pc := 43) dM_call_43 rfl ?_
    refine jm_aload_n (pc := 45) dM_call_45 rfl ?_
    refine jm_getq (pc := 46) lM_43 dM_call_46 rfl rfl (hm 14 rfl) ?_
    refine jm_iload_n (pc := 49) dM_call_49 rfl ?_
    refine jm_iald (pc := 50) dM_call_50 rfl (by decide) rfl (fun _ => rfl) ?hin ?_
    case hin =>
      exact vp_in_nI (N := 250) (by omega) (by decide)
    rw [nI_clamp (by omega), hv.1]
    refine jm_icmp_ge (pc := 51) (tgt := 103) dM_call_51 (by decide) (fun h51 => ?_) (fun h51 => ?_)
    · have e : k = w := by
        rcases Nat.lt_or_ge k w with q | q
        · exact absurd (by rw [hx] at h51; exact h51) (nI_ge q (by omega))
        · omega
      subst e
      exact hgo _ _ h7
    · have hkw : k < w := Nat.lt_of_not_le fun q => h51 (by rw [hx]; exact nI_le q (by omega))
      subst hx
      have hva := hv.2.2.2 k hkw
      refine jm_iload (pc := 54) dM_call_54 rfl ?_
      refine jm_if_eq (pc := 56) (tgt := 94) dM_call_56 (by decide) (fun h56 => ?_) (fun h56 => ?_)
      · refine jm_iconst (pc := 94) (v := 0) dM_call_94 (by decide) ?_
        refine jm_istore (pc := 95) dM_call_95 (by decide) ?_
        refine jm_iinc (pc := 97) dM_call_97 rfl (by decide) ?_
        refine jm_goto (pc := 100) (tgt := 43) dM_call_100 (by decide) ?_
        refine ih (k + 1) _ _ (ni1 k) (by omega) (by omega) ?_
        rw [allF_succ]
        first
          | exact Or.inr ⟨rfl, fun q => by rcases h7 with z | z; exact absurd (z.1.symm.trans h56) (by decide); exact z.2 q.1⟩
          | exact Or.inl ⟨rfl, (by rcases h7 with z | z; exact z.2; exact absurd z.1 h56), Or.inl ((oB_iff (by omega)).mp h67)⟩
          | exact Or.inl ⟨rfl, (by rcases h7 with z | z; exact z.2; exact absurd z.1 h56), Or.inr (show S.toBitVec.getLsbD (vr k) = true from jb_ne0 h87)⟩
          | exact Or.inr ⟨rfl, fun q => by rcases q.2 with z | z; exact h67 ((oB_iff (by omega)).mpr z); exact jb_eq0 h87 (show S.toBitVec.getLsbD (vr k) = true from z)⟩
      · refine jm_iload (pc := 59) dM_call_59 rfl ?_
        refine jm_iload (pc := 61) dM_call_61 rfl ?_
        refine jm_ishr (pc := 63) dM_call_63 ?_
        refine jm_iconst (pc := 64) (v := 1) dM_call_64 (by decide) ?_
        refine jm_iand (pc := 65) dM_call_65 ?_
        refine jm_iconst (pc := 66) (v := 1) dM_call_66 (by decide) ?_
        refine jm_icmp_eq (pc := 67) (tgt := 90) dM_call_67 (by decide) (fun h67 => ?_) (fun h67 => ?_)
        · refine jm_iconst (pc := 90) (v := 1) dM_call_90 (by decide) ?_
          refine jm_goto (pc := 91) (tgt := 95) dM_call_91 (by decide) ?_
          refine jm_istore (pc := 95) dM_call_95 (by decide) ?_
          refine jm_iinc (pc := 97) dM_call_97 rfl (by decide) ?_
          refine jm_goto (pc := 100) (tgt := 43) dM_call_100 (by decide) ?_
          refine ih (k + 1) _ _ (ni1 k) (by omega) (by omega) ?_
          rw [allF_succ]
          first
            | exact Or.inr ⟨rfl, fun q => by rcases h7 with z | z; exact absurd (z.1.symm.trans h56) (by decide); exact z.2 q.1⟩
            | exact Or.inl ⟨rfl, (by rcases h7 with z | z; exact z.2; exact absurd z.1 h56), Or.inl ((oB_iff (by omega)).mp h67)⟩
            | exact Or.inl ⟨rfl, (by rcases h7 with z | z; exact z.2; exact absurd z.1 h56), Or.inr (show S.toBitVec.getLsbD (vr k) = true from jb_ne0 h87)⟩
            | exact Or.inr ⟨rfl, fun q => by rcases q.2 with z | z; exact h67 ((oB_iff (by omega)).mpr z); exact jb_eq0 h87 (show S.toBitVec.getLsbD (vr k) = true from z)⟩
        · refine jm_aload_n (pc := 70) dM_call_70 rfl ?_
          refine jm_lload_n (pc := 71) dM_call_71 rfl ?_
          refine jm_aload_n (pc := 72) dM_call_72 rfl ?_
          refine jm_getq (pc := 73) lM_46 dM_call_73 rfl rfl (hm 15 rfl) ?_
          refine jm_bipush (pc := 76) (v := 7) dM_call_76 (by decide) ?_
          refine jm_iload_n (pc := 78) dM_call_78 rfl ?_
          refine jm_imul (pc := 79) dM_call_79 ?_
          refine jm_iload (pc := 80) dM_call_80 rfl ?_
          refine jm_iadd (pc := 82) dM_call_82 ?_
          rw [e7]
          refine jm_iald (pc := 83) dM_call_83 rfl (by decide) rfl (fun _ => rfl) ?hin ?_
          case hin =>
            exact vp_in_nI (N := 1750) (by omega) (by decide)
          rw [nI_clamp (by omega), hva.1]
          refine jm_callV (pc := 84) (c_M_isIn (d := d - 1) _ hva.2) fM_isIn vM_isIn cM_163 dM_call_84 rfl rfl rfl rfl (by omega) ⟨Nat.le_refl _, Nat.le_refl _⟩ rfl (Nat.le_of_ble_eq_true rfl) (fun v s2 hq => ?_)
          obtain ⟨rfl, rfl⟩ := hq
          refine jm_if_eq (pc := 87) (tgt := 94) dM_call_87 (by decide) (fun h87 => ?_) (fun h87 => ?_)
          · refine jm_iconst (pc := 94) (v := 0) dM_call_94 (by decide) ?_
            refine jm_istore (pc := 95) dM_call_95 (by decide) ?_
            refine jm_iinc (pc := 97) dM_call_97 rfl (by decide) ?_
            refine jm_goto (pc := 100) (tgt := 43) dM_call_100 (by decide) ?_
            refine ih (k + 1) _ _ (ni1 k) (by omega) (by omega) ?_
            rw [allF_succ]
            first
              | exact Or.inr ⟨rfl, fun q => by rcases h7 with z | z; exact absurd (z.1.symm.trans h56) (by decide); exact z.2 q.1⟩
              | exact Or.inl ⟨rfl, (by rcases h7 with z | z; exact z.2; exact absurd z.1 h56), Or.inl ((oB_iff (by omega)).mp h67)⟩
              | exact Or.inl ⟨rfl, (by rcases h7 with z | z; exact z.2; exact absurd z.1 h56), Or.inr (show S.toBitVec.getLsbD (vr k) = true from jb_ne0 h87)⟩
              | exact Or.inr ⟨rfl, fun q => by rcases q.2 with z | z; exact h67 ((oB_iff (by omega)).mpr z); exact jb_eq0 h87 (show S.toBitVec.getLsbD (vr k) = true from z)⟩
          · refine jm_iconst (pc := 90) (v := 1) dM_call_90 (by decide) ?_
            refine jm_goto (pc := 91) (tgt := 95) dM_call_91 (by decide) ?_
            refine jm_istore (pc := 95) dM_call_95 (by decide) ?_
            refine jm_iinc (pc := 97) dM_call_97 rfl (by decide) ?_
            refine jm_goto (pc := 100) (tgt := 43) dM_call_100 (by decide) ?_
            refine ih (k + 1) _ _ (ni1 k) (by omega) (by omega) ?_
            rw [allF_succ]
            first
              | exact Or.inr ⟨rfl, fun q => by rcases h7 with z | z; exact absurd (z.1.symm.trans h56) (by decide); exact z.2 q.1⟩
              | exact Or.inl ⟨rfl, (by rcases h7 with z | z; exact z.2; exact absurd z.1 h56), Or.inl ((oB_iff (by omega)).mp h67)⟩
              | exact Or.inl ⟨rfl, (by rcases h7 with z | z; exact z.2; exact absurd z.1 h56), Or.inr (show S.toBitVec.getLsbD (vr k) = true from jb_ne0 h87)⟩
              | exact Or.inr ⟨rfl, fun q => by rcases q.2 with z | z; exact h67 ((oB_iff (by omega)).mpr z); exact jb_eq0 h87 (show S.toBitVec.getLsbD (vr k) = true from z)⟩
set_option maxRecDepth 100000 in
set_option maxHeartbeats 4000000 in
theorem lp_M_call {i w p md : Nat} {vr : Nat → Nat} {ou : Nat → Int32} {S : Int64} (hm : mF st) (hv : mV st i w vr) (hs : st.1 15 0 i = nI 12) (hof : st.1 22 0 i = nI p) (hp : p < 60) (hmd : st.1 13 0 p = nI md) (hm4 : md ≤ 4) (hou : ∀ m, m < md → st.1 14 0 (4 * p + m) = ou m) (hd : 2 ≤ d) : ∀ (n m : Nat) (x5 : Int32) (x6 x7 x8 : Option aV), x5 = nI m → m ≤ md → md - m < n → (callR (fun m => insS (ou m) w vr) (rowS w vr 0) S (md - m) m) = (callR (fun m => insS (ou m) w vr) (rowS w vr 0) S (md) 0) → MS l D mM_call d 0 0 (caM st i w vr md ou S (callR (fun m => insS (ou m) w vr) (rowS w vr 0) S (md) 0)) 0 0 11 [some (vR (some (5, 0))), some (vI (nI i)), some (vL S), none, some (vI (nI p)), some (vI x5), x6, x7, x8] [] st := by
  intro n
  induction n with
  | zero =>
    intro m x5 x6 x7 x8 hx hk hn
    omega
  | succ n ih =>
    intro m x5 x6 x7 x8 hx hk hn hS
    have h250 := hv.2.2.1
    have hw7 := hv.2.1
    have h60 : ∀ j, j < w → vr j < 60 := fun j hj => (hv.2.2.2 j hj).2
    refine jm_iload (pc := 11) dM_call_11 rfl ?_
    refine jm_aload_n (pc := 13) dM_call_13 rfl ?_
    refine jm_getq (pc := 14) lM_13 dM_call_14 rfl rfl (hm 3 rfl) ?_
    refine jm_iload (pc := 17) dM_call_17 rfl ?_
    refine jm_iald (pc := 19) dM_call_19 rfl (by decide) rfl (fun _ => rfl) ?hin ?_
    case hin =>
      exact vp_in_nI (N := 60) (by omega) (by decide)
    rw [nI_clamp (by omega), hmd]
    refine jm_icmp_ge (pc := 20) (tgt := 141) dM_call_20 (by decide) (fun h20 => ?_) (fun h20 => ?_)
    · refine jm_vret (pc := 141) dM_call_141 rfl ⟨Nat.le_refl _, Nat.le_refl _⟩ ?_
      have hkw : ¬ m < md := fun q => nI_ge q (by omega) (by rw [hx] at h20; exact h20)
      rw [show md - m = 0 by omega] at hS
      rw [← hS]
      exact ⟨rfl, rfl⟩
    · have hkw : m < md := Nat.lt_of_not_le fun q => h20 (by rw [hx]; exact nI_le q (by omega))
      subst hx
      rw [show md - m = (md - (m + 1)) + 1 by omega] at hS
      refine jm_aload_n (pc := 23) dM_call_23 rfl ?_
      refine jm_getq (pc := 24) lM_16 dM_call_24 rfl rfl (hm 4 rfl) ?_
      refine jm_iconst (pc := 27) (v := 4) dM_call_27 (by decide) ?_
      refine jm_iload (pc := 28) dM_call_28 rfl ?_
      refine jm_imul (pc := 30) dM_call_30 ?_
      refine jm_iload (pc := 31) dM_call_31 rfl ?_
      refine jm_iadd (pc := 33) dM_call_33 ?_
      rw [e4]
      refine jm_iald (pc := 34) dM_call_34 rfl (by decide) rfl (fun _ => rfl) ?hin ?_
      case hin =>
        exact vp_in_nI (N := 240) (by omega) (by decide)
      rw [nI_clamp (by omega), hou m hkw]
      refine jm_istore (pc := 35) dM_call_35 (by decide) ?_
      refine jm_iconst (pc := 37) (v := 1) dM_call_37 (by decide) ?_
      refine jm_istore (pc := 38) dM_call_38 (by decide) ?_
      refine jm_iconst (pc := 40) (v := 0) dM_call_40 (by decide) ?_
      refine jm_istore (pc := 41) dM_call_41 (by decide) ?_
      refine li_M_call (o := ou m) hm hv (by omega) (fun x7 x8 h7 => ?_) (w + 1) 0 _ _ rfl (by omega) (by omega) (Or.inl ⟨rfl, fun j hj => by omega⟩)
      refine jm_iload (pc := 103) dM_call_103 rfl ?_
      refine jm_if_ne (pc := 105) (tgt := 111) dM_call_105 (by decide) (fun h105 => ?_) (fun h105 => ?_)
      · refine jm_aload_n (pc := 111) dM_call_111 rfl ?_
        refine jm_iload_n (pc := 112) dM_call_112 rfl ?_
        refine jm_iload (pc := 113) dM_call_113 rfl ?_
        refine jm_lload_n (pc := 115) dM_call_115 rfl ?_
        refine jm_aload_n (pc := 116) dM_call_116 rfl ?_
        refine jm_iload_n (pc := 117) dM_call_117 rfl ?_
        refine jm_iconst (pc := 118) (v := 0) dM_call_118 (by decide) ?_
        refine jm_callV (pc := 119) (c_M_rowOf (d := d - 1) (fr := 0) hm hv (by omega)) fM_rowOf vM_rowOf cM_159 dM_call_119 rfl rfl rfl rfl (by omega) ⟨Nat.le_refl _, Nat.le_refl _⟩ rfl (Nat.le_of_ble_eq_true rfl) (fun v s2 hq => ?_)
        obtain ⟨rfl, rfl⟩ := hq
        refine jm_lor (pc := 122) dM_call_122 ?_
        refine jm_callV (pc := 123) (c_M_comes (d := d - 1) _ _ hm (by omega)) fM_comes vM_comes cM_167 dM_call_123 rfl rfl rfl rfl (by omega) ⟨Nat.le_refl _, Nat.le_refl _⟩ rfl (Nat.le_of_ble_eq_true rfl) (fun v s2 hq => ?_)
        obtain ⟨rfl, rfl⟩ := hq
        refine jm_aload_n (pc := 126) dM_call_126 rfl ?_
        refine jm_iload_n (pc := 127) dM_call_127 rfl ?_
        refine jm_iload (pc := 128) dM_call_128 rfl ?_
        refine jm_lload_n (pc := 130) dM_call_130 rfl ?_
        refine jm_callV (pc := 131) (c_M_compare (d := d - 1) (st := cm st i (nI m) (S ||| rowS w vr 0)) (s := 12) hm hv.cm ((cm_I (by omega)).trans hs) (by decide) (by omega)) fM_compare vM_compare cM_179 dM_call_131 rfl rfl rfl rfl (by omega) ⟨Nat.le_refl _, Nat.le_refl _⟩ rfl (Nat.le_of_ble_eq_true rfl) (fun v s2 hq => ?_)
        obtain ⟨rfl, rfl⟩ := hq
        refine jm_vret (pc := 134) dM_call_134 rfl ⟨Nat.le_refl _, Nat.le_refl _⟩ ?_
        have hz : insS (ou m) w vr &&& nt S = 0 := (insS_iff (by omega) h60).mpr (by
          rcases h7 with z | z
          · exact z.2
          · exact absurd z.1 h105)
        rw [← hS]
        refine ⟨rfl, ?_⟩
        rw [show callR (fun m => insS (ou m) w vr) (rowS w vr 0) S (md - (m + 1) + 1) m = some (nI m, rowS w vr 0) from if_pos hz]
        refine ⟨m, hkw, rfl, ?_⟩
        rw [cm_I (by omega)]
        rfl
      · refine jm_goto (pc := 108) (tgt := 135) dM_call_108 (by decide) ?_
        refine jm_iinc (pc := 135) dM_call_135 rfl (by decide) ?_
        refine jm_goto (pc := 138) (tgt := 11) dM_call_138 (by decide) ?_
        have hz : ¬ insS (ou m) w vr &&& nt S = 0 := fun q => by
          rcases h7 with z | z
          · exact absurd (z.1.symm.trans h105) (by decide)
          · exact z.2 ((insS_iff (by omega) h60).mp q)
        refine ih (m + 1) _ _ _ _ (ni1 m) (by omega) (by omega) ?_
        rw [← hS]
        exact (if_neg hz).symm
set_option maxRecDepth 100000 in
set_option maxHeartbeats 4000000 in
theorem c_M_call {i w p md : Nat} {vr : Nat → Nat} {ou : Nat → Int32} {S : Int64} (hm : mF st) (hv : mV st i w vr) (hs : st.1 15 0 i = nI 12) (hof : st.1 22 0 i = nI p) (hp : p < 60) (hmd : st.1 13 0 p = nI md) (hm4 : md ≤ 4) (hou : ∀ m, m < md → st.1 14 0 (4 * p + m) = ou m) (hd : 2 ≤ d) : MC l D mM_call d 0 0 [vR (some (5, 0)), vI (nI i), vL S] st (caM st i w vr md ou S (callR (fun m => insS (ou m) w vr) (rowS w vr 0) S (md) 0)) := by
  refine jm_start (ls0 := [some (vR (some (5, 0))), some (vI (nI i)), some (vL S), none, none, none, none, none, none]) (by decide) (Nat.le_of_ble_eq_true rfl) rfl ?_
  have h250 := hv.2.2.1
  refine jm_aload_n (pc := 0) dM_call_0 rfl ?_
  refine jm_getq (pc := 1) lM_40 dM_call_1 rfl rfl (hm 13 rfl) ?_
  refine jm_iload_n (pc := 4) dM_call_4 rfl ?_
  refine jm_iald (pc := 5) dM_call_5 rfl (by decide) rfl (fun _ => rfl) ?hin ?_
  case hin =>
    exact vp_in_nI (N := 250) (by omega) (by decide)
  rw [nI_clamp (by omega), hof]
  refine jm_istore (pc := 6) dM_call_6 (by decide) ?_
  refine jm_iconst (pc := 8) (v := 0) dM_call_8 (by decide) ?_
  refine jm_istore (pc := 9) dM_call_9 (by decide) ?_
  exact lp_M_call hm hv hs hof hp hmd hm4 hou hd (md + 1) 0 _ _ _ _ rfl (by omega) (by omega) rfl
end CM3
