section CM5
variable {l : Launch} {D : mD} {d : Nat} {st : aS} {E : EE}
set_option maxRecDepth 100000 in
set_option maxHeartbeats 4000000 in
theorem c_M_tried {i t F : Nat} {S : Int64} (hT : TM E st) (hi : i < eN E) (hF : st.1 5 0 38 = nI F) (hF40 : F < 40) (htr : st.1 5 0 39 = nI t) (ht : t ≤ 20000) (hd : 4 ≤ d) : MC l D mM_tried d 0 0 [vR (some (5, 0)), vI (nI i), vL S] st (tQ E i S t F st) := by
  refine jm_start (ls0 := [some (vR (some (5, 0))), some (vI (nI i)), some (vL S), none]) (by decide) (Nat.le_of_ble_eq_true rfl) rfl ?_
  have hi250 : i < 250 := Nat.lt_of_lt_of_le hi hT.1.1
  have hm := hT.2.2.1
  refine jm_aload_n (pc := 0) dM_tried_0 rfl ?_
  refine jm_geti (pc := 1) lM_186 dM_tried_1 rfl (fun _ => rfl) ?_
  refine jm_sipush (pc := 4) (v := 20000) dM_tried_4 (by decide) ?_
  refine jm_icmp_ne (pc := 7) (tgt := 12) dM_tried_7 (by decide) (fun h7 => ?_) (fun h7 => ?_)
  · have ht1 : t + 1 ≤ 20000 := by
      rcases Nat.lt_or_ge t 20000 with q | q
      · exact q
      · exact absurd (by rw [htr, show t = 20000 by omega]; rfl) h7
    have e0 : st.1 5 0 39 + 1 = nI (t + 1) := by rw [htr]; exact nI_1 t
    refine jm_aload_n (pc := 12) dM_tried_12 rfl ?_
    refine jm_dup (pc := 13) dM_tried_13 rfl ?_
    refine jm_geti (pc := 14) lM_186 dM_tried_14 rfl (fun _ => rfl) ?_
    refine jm_iconst (pc := 17) (v := 1) dM_tried_17 (by decide) ?_
    refine jm_iadd (pc := 18) dM_tried_18 ?_
    refine jm_puti (pc := 19) pM_tried_186 dM_tried_19 rfl rfl ?_
    refine jm_aload_n (pc := 22) dM_tried_22 rfl ?_
    refine jm_getq (pc := 23) lM_62 dM_tried_23 rfl rfl (hm 23 rfl) ?_
    refine jm_iload_n (pc := 26) dM_tried_26 rfl ?_
    refine jm_lload_n (pc := 27) dM_tried_27 rfl ?_
    refine jm_last (pc := 28) dM_tried_28 rfl (by decide) rfl (fun _ => rfl) ?hin ?_
    case hin =>
      exact vp_in_nI (N := 250) (by omega) (by decide)
    refine jm_aload_n (pc := 29) dM_tried_29 rfl ?_
    refine jm_getq (pc := 30) lM_68 dM_tried_30 rfl rfl (hm 25 rfl) ?_
    refine jm_iload_n (pc := 33) dM_tried_33 rfl ?_
    refine jm_iconst (pc := 34) (v := 0) dM_tried_34 (by decide) ?_
    refine jm_zast (pc := 35) dM_tried_35 rfl (by decide) rfl (fun _ => rfl) ?hin (by first | exact Or.inl rfl | exact Or.inr rfl | assumption) ?_
    case hin =>
      exact vp_in_nI (N := 250) (by omega) (by decide)
    refine jm_aload_n (pc := 36) dM_tried_36 rfl ?_
    refine jm_getq (pc := 37) lM_84 dM_tried_37 rfl rfl (hm 30 rfl) ?_
    refine jm_iload_n (pc := 40) dM_tried_40 rfl ?_
    refine jm_iconst (pc := 41) (v := -1) dM_tried_41 (by decide) ?_
    refine jm_iast (pc := 42) dM_tried_42 rfl (by decide) rfl (fun _ => rfl) ?hin ?_
    case hin =>
      exact vp_in_nI (N := 250) (by omega) (by decide)
    rw [nI_clamp (by omega), e0]
    generalize hs1 : sI (sI (sL (sI st 5 0 39 (nI (t + 1))) 29 0 i S) 31 0 i 0) 36 0 i (-1) = s1
    have h0 : MT E i F st s1 := by
      rw [← hs1]
      exact (((MT.pT (Or.inr rfl)).tr (MT.pL (Or.inl rfl) subP_self)).tr (MT.pI (by omega) subP_self (by omega))).tr (MT.pI (by omega) subP_self (by omega))
    have hT1 := hT.mv h0.1
    have hm := hT1.2.2.1
    have hA : s1.2.1 29 0 i = S := by rw [← hs1]; exact sL_eq
    have h31 : s1.1 31 0 i = 0 := by rw [← hs1]; exact (sI_ne (by omega)).trans sI_eq
    have h36 : s1.1 36 0 i = -1 := by rw [← hs1]; exact sI_eq
    have htr1 : s1.1 5 0 39 = nI (t + 1) := by rw [← hs1]; exact (sI_ne (by omega)).trans ((sI_ne (by omega)).trans (show (sI st 5 0 39 (nI (t + 1))).1 5 0 39 = _ from sI_eq))
    have hF1 : s1.1 5 0 38 = nI F := by rw [← hs1]; exact (sI_ne (by omega)).trans ((sI_ne (by omega)).trans (show (sI st 5 0 39 (nI (t + 1))).1 5 0 38 = _ from (sI_ne (by omega)).trans hF))
    have hsr := (hT1.2.2.2.2 i hi).1
    refine jm_aload_n (pc := 43) dM_tried_43 rfl ?_
    refine jm_getq (pc := 44) lM_19 dM_tried_44 rfl rfl (hm 6 rfl) ?_
    refine jm_iload_n (pc := 47) dM_tried_47 rfl ?_
    refine jm_iald (pc := 48) dM_tried_48 rfl (by decide) rfl (fun _ => rfl) ?hin ?_
    case hin =>
      exact vp_in_nI (N := 250) (by omega) (by decide)
    rw [nI_clamp (by omega), hsr]
    refine jm_iconst (pc := 49) (v := 3) dM_tried_49 (by decide) ?_
    refine jm_icmp_le (pc := 50) (tgt := 60) dM_tried_50 (by decide) (fun h50 => ?_) (fun h50 => ?_)
    · have h3 : eS E i ≤ 3 := by
        rcases Nat.lt_or_ge 3 (eS E i) with q | q
        · exact absurd h50 (nI_ge q (by have := (hT.1.2.2 i hi).1; omega))
        · exact q
      refine jm_aload_n (pc := 60) dM_tried_60 rfl ?_
      refine jm_getq (pc := 61) lM_87 dM_tried_61 rfl rfl (hm 31 rfl) ?_
      refine jm_aload_n (pc := 64) dM_tried_64 rfl ?_
      refine jm_geti (pc := 65) lM_193 dM_tried_65 rfl (fun _ => rfl) ?_
      rw [hF1]
      refine jm_iload_n (pc := 68) dM_tried_68 rfl ?_
      refine jm_iast (pc := 69) dM_tried_69 rfl (by decide) rfl (fun _ => rfl) ?hin ?_
      case hin =>
        exact vp_in_nI (N := 40) (by omega) (by decide)
      rw [nI_clamp (by omega)]
      refine jm_aload_n (pc := 70) dM_tried_70 rfl ?_
      refine jm_getq (pc := 71) lM_90 dM_tried_71 rfl rfl (hm 32 rfl) ?_
      refine jm_aload_n (pc := 74) dM_tried_74 rfl ?_
      refine jm_geti (pc := 75) lM_193 dM_tried_75 rfl (fun _ => rfl) ?_
      rw [show (sI s1 37 0 F (nI i)).1 5 0 38 = nI F from (sI_ne (by omega)).trans hF1]
      refine jm_iconst (pc := 78) (v := 0) dM_tried_78 (by decide) ?_
      refine jm_iast (pc := 79) dM_tried_79 rfl (by decide) rfl (fun _ => rfl) ?hin ?_
      case hin =>
        exact vp_in_nI (N := 40) (by omega) (by decide)
      rw [nI_clamp (by omega)]
      refine jm_aload_n (pc := 80) dM_tried_80 rfl ?_
      refine jm_dup (pc := 81) dM_tried_81 rfl ?_
      refine jm_geti (pc := 82) lM_193 dM_tried_82 rfl (fun _ => rfl) ?_
      rw [show (sI (sI s1 37 0 F (nI i)) 38 0 F 0).1 5 0 38 = nI F from (sI_ne (by omega)).trans ((sI_ne (by omega)).trans hF1)]
      refine jm_iconst (pc := 85) (v := 1) dM_tried_85 (by decide) ?_
      refine jm_iadd (pc := 86) dM_tried_86 ?_
      refine jm_puti (pc := 87) pM_tried_193 dM_tried_87 rfl rfl ?_
      refine jm_iconst (pc := 90) (v := 1) dM_tried_90 (by decide) ?_
      refine jm_zret (pc := 91) dM_tried_91 rfl (by first | exact Or.inl rfl | exact Or.inr rfl | assumption) ⟨Nat.le_refl _, Nat.le_refl _⟩ ?_
      rw [show nI F + 1 = nI (F + 1) from nI_1 F]
      refine Or.inr ⟨ht1, rfl, Or.inr ⟨h3, ((h0.tr (MT.fI (by omega) (Nat.le_refl F))).tr (MT.fI (by omega) (Nat.le_refl F))).tr (MT.pT (Or.inl rfl)), sI_eq, ?_, ?_, ?_, hA, ?_, ?_⟩⟩
      · rw [sI_ne (by omega), sI_ne (by omega), sI_ne (by omega)]; exact htr1
      · rw [sI_ne (by omega), sI_ne (by omega), sI_eq]
      · rw [sI_ne (by omega), sI_eq]
      · rw [sI_ne (by omega), sI_ne (by omega), sI_ne (by omega)]; exact h31
      · rw [sI_ne (by omega), sI_ne (by omega), sI_ne (by omega)]; exact h36
    · have h3 : 3 < eS E i := Nat.lt_of_not_le fun q => h50 (nI_le (b := 3) q (by decide))
      refine jm_aload_n (pc := 53) dM_tried_53 rfl ?_
      refine jm_iload_n (pc := 54) dM_tried_54 rfl ?_
      refine jm_callV (pc := 55) (c_M_atom (d := d - 1) hT1 hi (by omega) hA (by omega)) fM_atom vM_atom cM_189 dM_tried_55 rfl rfl rfl rfl (by omega) ⟨Nat.le_refl _, Nat.le_refl _⟩ rfl (Nat.le_of_ble_eq_true rfl) (fun v s2 hq => ?_)
      obtain rfl := hq.1
      refine jm_iconst (pc := 58) (v := 1) dM_tried_58 (by decide) ?_
      refine jm_zret (pc := 59) dM_tried_59 rfl (by first | exact Or.inl rfl | exact Or.inr rfl | assumption) ⟨Nat.le_refl _, Nat.le_refl _⟩ ?_
      exact Or.inr ⟨ht1, rfl, Or.inl ⟨h3, tQ_atom h3 h0 hF1 ht1 htr1 hA hq⟩⟩
  · refine jm_iconst (pc := 10) (v := 0) dM_tried_10 (by decide) ?_
    refine jm_zret (pc := 11) dM_tried_11 rfl (by first | exact Or.inl rfl | exact Or.inr rfl | assumption) ⟨Nat.le_refl _, Nat.le_refl _⟩ ?_
    refine Or.inl ⟨?_, rfl, rfl⟩
    rw [htr] at h7
    exact (nI_eq (by omega) (by decide)).mp (show nI t = nI 20000 from h7)
end CM5
