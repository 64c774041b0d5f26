section CCan
variable {l : Launch} {D : mD} {d : Nat} {st : aS} {E : EE}
theorem cQ_pre {i f t : Nat} {S : Int64} {s1 s' : aS} {v : Option aV} (tf : TF E i st s1) (ho : s1.1 3 0 3 = st.1 3 0 3) (h : cQ E i S f t s1 v s') : cQ E i S f t st v s' := by
  obtain ⟨a, b⟩ := h
  refine ⟨tf.tr a, ?_⟩
  rcases b with ⟨b1, b2⟩ | b
  · exact Or.inl ⟨⟨b1.1, b1.2.1, b1.2.2.trans ho⟩, b2⟩
  · exact Or.inr b
theorem aP_cQ {i f t : Nat} {S : Int64} {s1 s' : aS} {v : Option aV} (h3 : 3 < eS E i) (hA : s1.2.1 0 i 13 = S) (h16 : s1.1 0 i 16 = nI i) (htr : s1.1 3 0 2 = nI (t + 1)) (ht : t + 1 ≤ 20000) (h : aP s1 i (eA E i S) v s') : cQ E i S (f + 1) t s1 v s' := by
  have e1 : tryF E (f + 1) i S = (match eA E i S with | some z => .inl (S ||| z.2) | none => .inr i, 1) := by
    conv => lhs; unfold tryF
    rw [if_neg (by omega), if_neg (by omega), if_neg (by omega), if_neg (by omega)]
    rfl
  have e2 : finF E (f + 1) i S = [(i, S, [])] := by
    conv => lhs; unfold finF
    rw [if_neg (by omega), if_neg (by omega), if_neg (by omega), if_neg (by omega)]
  unfold cQ rQ
  rw [e1, e2]
  cases hr : eA E i S with
  | none =>
    rw [hr] at h
    obtain ⟨rfl, rfl⟩ := h
    exact ⟨TF.rf, Or.inl ⟨⟨ht, htr, rfl⟩, rfl, h16⟩⟩
  | some q =>
    rw [hr] at h
    obtain ⟨rfl, rfl⟩ := h
    have a13 : (stt s1 i q.1 q.2).2.1 0 i 13 = S := (sL_ne (by omega)).trans hA
    refine ⟨(TF.pI subP_self (Or.inl rfl)).tr (TF.pL subP_self (Or.inr rfl)), Or.inl ⟨⟨ht, show (sI s1 0 i 15 q.1).1 3 0 2 = nI (t + 1) from (sI_ne (by omega)).trans htr, show (sI s1 0 i 15 q.1).1 3 0 3 = _ from sI_ne (by omega)⟩, rfl, ?_, a13, ?_⟩⟩
    · show (sL (sI s1 0 i 15 q.1) 0 i 14 (s1.2.1 0 i 13 ||| q.2)).2.1 0 i 14 = _
      rw [sL_eq, hA]
    · refine gd.cons a13 (fun _ => ⟨q.1, q.2, hr, show (sI s1 0 i 15 q.1).1 0 i 15 = _ from sI_eq⟩) (fun z => ?_) (fun _ h => by cases h)
      have z2 : eS E i = 0 := z
      omega
theorem sL_i0 {st : aS} {i : Nat} {x : Int32} {S : Int64} : (sL (sL (sI st 3 0 2 x) 0 i 13 S) 0 i 14 S).1 0 i 0 = st.1 0 i 0 := show (sI st 3 0 2 x).1 0 i 0 = _ from sI_ne (by omega)
set_option maxRecDepth 100000 in
set_option maxHeartbeats 4000000 in
theorem c_R_canDo {i f t : Nat} {S : Int64} (hC : CD l D E f (d - 1 - 1 - 1)) (hT : TC E st) (hi : i < eN E) (hdp : eD E i + (f + 1) = 21) (htr : st.1 3 0 2 = nI t) (ht : t ≤ 20000) (hd : 5 ≤ d) : MC l D mR_canDo d 0 0 [vR (some (3, 0)), vR (some (0, i)), vL S] st (cQ E i S (f + 1) t st) := by
  refine jm_start (ls0 := [some (vR (some (3, 0))), some (vR (some (0, i))), some (vL S), none]) (by decide) (Nat.le_of_ble_eq_true rfl) rfl ?_
  refine jm_aload_n (pc := 0) dR_canDo_0 rfl ?_
  refine jm_geti (pc := 1) lR_19 dR_canDo_1 rfl (fun _ => rfl) ?_
  refine jm_sipush (pc := 4) (v := 20000) dR_canDo_4 (by decide) ?_
  refine jm_icmp_lt (pc := 7) (tgt := 17) dR_canDo_7 (by decide) (fun h7 => ?_) (fun h7 => ?_)
  · have ht1 : t + 1 ≤ 20000 := by
      rcases Nat.lt_or_ge t 20000 with q | q
      · exact q
      · rw [htr, show t = 20000 by omega] at h7
        exact absurd h7 (by decide)
    have e0 : st.1 3 0 2 + 1 = nI (t + 1) := by rw [htr]; exact nI_1 t
    refine jm_aload_n (pc := 17) dR_canDo_17 rfl ?_
    refine jm_dup (pc := 18) dR_canDo_18 rfl ?_
    refine jm_geti (pc := 19) lR_19 dR_canDo_19 rfl (fun _ => rfl) ?_
    refine jm_iconst (pc := 22) (v := 1) dR_canDo_22 (by decide) ?_
    refine jm_iadd (pc := 23) dR_canDo_23 ?_
    refine jm_puti (pc := 24) pR_canDo_19 dR_canDo_24 rfl rfl ?_
    refine jm_aload_n (pc := 27) dR_canDo_27 rfl ?_
    refine jm_lload_n (pc := 28) dR_canDo_28 rfl ?_
    refine jm_putl (pc := 29) pR_canDo_31 dR_canDo_29 rfl rfl ?_
    refine jm_aload_n (pc := 32) dR_canDo_32 rfl ?_
    refine jm_lload_n (pc := 33) dR_canDo_33 rfl ?_
    refine jm_putl (pc := 34) pR_canDo_36 dR_canDo_34 rfl rfl ?_
    refine jm_aload_n (pc := 37) dR_canDo_37 rfl ?_
    refine jm_aload_n (pc := 38) dR_canDo_38 rfl ?_
    refine jm_geti (pc := 39) lR_39 dR_canDo_39 rfl (fun _ => rfl) ?_
    refine jm_puti (pc := 42) pR_canDo_42 dR_canDo_42 rfl rfl ?_
    rw [(sL_i0 : (sL (sL (sI st 3 0 2 (st.1 3 0 2 + 1)) 0 i 13 S) 0 i 14 S).1 0 i 0 = st.1 0 i 0), (hT.2.2.2 i hi).1, e0]
    generalize hs1 : sI (sL (sL (sI st 3 0 2 (nI (t + 1))) 0 i 13 S) 0 i 14 S) 0 i 16 (nI i) = s1
    have tf : TF E i st s1 := by
      rw [← hs1]
      exact (((TF.pT (Or.inl rfl)).tr (TF.pL subP_self (Or.inl rfl))).tr (TF.pL subP_self (Or.inr rfl))).tr (TF.pI subP_self (Or.inr (Or.inl rfl)))
    have hT1 := hT.mv tf.1
    have hA : s1.2.1 0 i 13 = S := by rw [← hs1]; exact (sL_ne (by omega)).trans sL_eq
    have hB : s1.2.1 0 i 14 = S := by rw [← hs1]; exact sL_eq
    have h16 : s1.1 0 i 16 = nI i := by rw [← hs1]; exact sI_eq
    have htr1 : s1.1 3 0 2 = nI (t + 1) := by rw [← hs1]; exact (sI_ne (by omega)).trans (show (sI st 3 0 2 (nI (t + 1))).1 3 0 2 = _ from sI_eq)
    have ho : s1.1 3 0 3 = st.1 3 0 3 := by rw [← hs1]; exact (sI_ne (by omega)).trans (show (sI st 3 0 2 (nI (t + 1))).1 3 0 3 = _ from sI_ne (by omega))
    have hsr := (hT1.2.2.2 i hi).2.1
    have hC2 : CD l D E f (d - 1 - 1 - 1) := hC
    refine jm_aload_n (pc := 45) dR_canDo_45 rfl ?_
    refine jm_geti (pc := 46) lR_45 dR_canDo_46 rfl (fun _ => rfl) ?_
    rw [hsr]
    rcases (show eS E i = 0 ∨ eS E i = 1 ∨ eS E i = 2 ∨ eS E i = 3 ∨ eS E i = 4 ∨ eS E i = 5 ∨ eS E i = 6 ∨ eS E i = 7 ∨ eS E i = 8 ∨ eS E i = 9 ∨ eS E i = 10 ∨ eS E i = 11 ∨ eS E i = 12 by have := (hT.tr.2.2 i hi).1; omega) with hv | hv | hv | hv | hv | hv | hv | hv | hv | hv | hv | hv | hv
    · rw [hv]
      refine jm_tableIn (pc := 49) (tgt := 80) (off := 31) dR_canDo_49 (by decide) (by decide) rfl (by decide) ?_
      refine jm_aload_n (pc := 80) dR_canDo_80 rfl ?_
      refine jm_aload_n (pc := 81) dR_canDo_81 rfl ?_
      refine jm_callV (pc := 82) (c_R_canDoRow (d := d - 1) hC2 hT1 hi hv (by omega) hA hB htr1 ht1 (by omega)) fR_canDoRow vR_canDoRow cR_48 dR_canDo_82 rfl rfl rfl rfl (by omega) ⟨Nat.le_refl _, Nat.le_refl _⟩ rfl (Nat.le_of_ble_eq_true rfl) (fun v s2 hq => ?_)
      obtain ⟨b, rfl, hb⟩ := cQ_v hq
      refine jm_zret (pc := 85) dR_canDo_85 rfl (hb) ⟨Nat.le_refl _, Nat.le_refl _⟩ ?_
      exact cQ_pre tf ho hq
    · rw [hv]
      refine jm_tableIn (pc := 49) (tgt := 86) (off := 37) dR_canDo_49 (by decide) (by decide) rfl (by decide) ?_
      refine jm_aload_n (pc := 86) dR_canDo_86 rfl ?_
      refine jm_aload_n (pc := 87) dR_canDo_87 rfl ?_
      refine jm_callV (pc := 88) (c_R_canDoChoice (d := d - 1) hC2 hT1 hi hv (by omega) hA hB h16 htr1 ht1 (by omega)) fR_canDoChoice vR_canDoChoice cR_52 dR_canDo_88 rfl rfl rfl rfl (by omega) ⟨Nat.le_refl _, Nat.le_refl _⟩ rfl (Nat.le_of_ble_eq_true rfl) (fun v s2 hq => ?_)
      obtain ⟨b, rfl, hb⟩ := cQ_v hq
      refine jm_zret (pc := 91) dR_canDo_91 rfl (hb) ⟨Nat.le_refl _, Nat.le_refl _⟩ ?_
      exact cQ_pre tf ho hq
    · rw [hv]
      refine jm_tableIn (pc := 49) (tgt := 92) (off := 43) dR_canDo_49 (by decide) (by decide) rfl (by decide) ?_
      refine jm_aload_n (pc := 92) dR_canDo_92 rfl ?_
      refine jm_aload_n (pc := 93) dR_canDo_93 rfl ?_
      refine jm_callV (pc := 94) (c_R_canDoNot (d := d - 1) hC2 hT1 hi hv (by omega) hA hB h16 htr1 ht1 (by omega)) fR_canDoNot vR_canDoNot cR_55 dR_canDo_94 rfl rfl rfl rfl (by omega) ⟨Nat.le_refl _, Nat.le_refl _⟩ rfl (Nat.le_of_ble_eq_true rfl) (fun v s2 hq => ?_)
      obtain ⟨b, rfl, hb⟩ := cQ_v hq
      refine jm_zret (pc := 97) dR_canDo_97 rfl (hb) ⟨Nat.le_refl _, Nat.le_refl _⟩ ?_
      exact cQ_pre tf ho hq
    · rw [hv]
      refine jm_tableIn (pc := 49) (tgt := 98) (off := 49) dR_canDo_49 (by decide) (by decide) rfl (by decide) ?_
      refine jm_aload_n (pc := 98) dR_canDo_98 rfl ?_
      refine jm_aload_n (pc := 99) dR_canDo_99 rfl ?_
      refine jm_callV (pc := 100) (c_R_canDoTest (d := d - 1) hC2 hT1 hi hv (by omega) hA hB h16 htr1 ht1 (by omega)) fR_canDoTest vR_canDoTest cR_58 dR_canDo_100 rfl rfl rfl rfl (by omega) ⟨Nat.le_refl _, Nat.le_refl _⟩ rfl (Nat.le_of_ble_eq_true rfl) (fun v s2 hq => ?_)
      obtain ⟨b, rfl, hb⟩ := cQ_v hq
      refine jm_zret (pc := 103) dR_canDo_103 rfl (hb) ⟨Nat.le_refl _, Nat.le_refl _⟩ ?_
      exact cQ_pre tf ho hq
    · rw [hv]
      refine jm_tableOut (pc := 49) (tgt := 104) dR_canDo_49 (by decide) (by decide) ?_
      refine jm_aload_n (pc := 104) dR_canDo_104 rfl ?_
      refine jm_aload_n (pc := 105) dR_canDo_105 rfl ?_
      refine jm_callV (pc := 106) (c_R_canDoAtom (d := d - 1) (s := eS E i) (p := eQ E i) (hT1.2.2.2 i hi).2.2.2.2.2.2.2.1 hT1.2.1 hT1.2.2.1 hsr (by omega) (hT.tr.2.2 i hi).2.2.2.2.1 (hT.tr.2.2 i hi).2.2.2.2.2.1 (fun q => ⟨(hT1.2.2.2 i hi).2.2.2.2.2.2.2.2 q, (hT.tr.2.2 i hi).2.2.2.2.2.2.1 q⟩) ((hT1.2.2.2 i hi).2.2.2.2.2.1.trans ((hT.tr.2.2 i hi).2.2.2.2.2.2.2 (by omega))) (by omega)) fR_canDoAtom vR_canDoAtom cR_61 dR_canDo_106 rfl rfl rfl rfl (by omega) ⟨Nat.le_refl _, Nat.le_refl _⟩ rfl (Nat.le_of_ble_eq_true rfl) (fun v s2 hq => ?_)
      obtain ⟨b, rfl, hb⟩ := aP_v hq
      refine jm_zret (pc := 109) dR_canDo_109 rfl (hb) ⟨Nat.le_refl _, Nat.le_refl _⟩ ?_
      exact cQ_pre tf ho (aP_cQ (by omega) hA h16 htr1 ht1 (by unfold eA; rw [← hA]; exact hq))
    · rw [hv]
      refine jm_tableOut (pc := 49) (tgt := 104) dR_canDo_49 (by decide) (by decide) ?_
      refine jm_aload_n (pc := 104) dR_canDo_104 rfl ?_
      refine jm_aload_n (pc := 105) dR_canDo_105 rfl ?_
      refine jm_callV (pc := 106) (c_R_canDoAtom (d := d - 1) (s := eS E i) (p := eQ E i) (hT1.2.2.2 i hi).2.2.2.2.2.2.2.1 hT1.2.1 hT1.2.2.1 hsr (by omega) (hT.tr.2.2 i hi).2.2.2.2.1 (hT.tr.2.2 i hi).2.2.2.2.2.1 (fun q => ⟨(hT1.2.2.2 i hi).2.2.2.2.2.2.2.2 q, (hT.tr.2.2 i hi).2.2.2.2.2.2.1 q⟩) ((hT1.2.2.2 i hi).2.2.2.2.2.1.trans ((hT.tr.2.2 i hi).2.2.2.2.2.2.2 (by omega))) (by omega)) fR_canDoAtom vR_canDoAtom cR_61 dR_canDo_106 rfl rfl rfl rfl (by omega) ⟨Nat.le_refl _, Nat.le_refl _⟩ rfl (Nat.le_of_ble_eq_true rfl) (fun v s2 hq => ?_)
      obtain ⟨b, rfl, hb⟩ := aP_v hq
      refine jm_zret (pc := 109) dR_canDo_109 rfl (hb) ⟨Nat.le_refl _, Nat.le_refl _⟩ ?_
      exact cQ_pre tf ho (aP_cQ (by omega) hA h16 htr1 ht1 (by unfold eA; rw [← hA]; exact hq))
    · rw [hv]
      refine jm_tableOut (pc := 49) (tgt := 104) dR_canDo_49 (by decide) (by decide) ?_
      refine jm_aload_n (pc := 104) dR_canDo_104 rfl ?_
      refine jm_aload_n (pc := 105) dR_canDo_105 rfl ?_
      refine jm_callV (pc := 106) (c_R_canDoAtom (d := d - 1) (s := eS E i) (p := eQ E i) (hT1.2.2.2 i hi).2.2.2.2.2.2.2.1 hT1.2.1 hT1.2.2.1 hsr (by omega) (hT.tr.2.2 i hi).2.2.2.2.1 (hT.tr.2.2 i hi).2.2.2.2.2.1 (fun q => ⟨(hT1.2.2.2 i hi).2.2.2.2.2.2.2.2 q, (hT.tr.2.2 i hi).2.2.2.2.2.2.1 q⟩) ((hT1.2.2.2 i hi).2.2.2.2.2.1.trans ((hT.tr.2.2 i hi).2.2.2.2.2.2.2 (by omega))) (by omega)) fR_canDoAtom vR_canDoAtom cR_61 dR_canDo_106 rfl rfl rfl rfl (by omega) ⟨Nat.le_refl _, Nat.le_refl _⟩ rfl (Nat.le_of_ble_eq_true rfl) (fun v s2 hq => ?_)
      obtain ⟨b, rfl, hb⟩ := aP_v hq
      refine jm_zret (pc := 109) dR_canDo_109 rfl (hb) ⟨Nat.le_refl _, Nat.le_refl _⟩ ?_
      exact cQ_pre tf ho (aP_cQ (by omega) hA h16 htr1 ht1 (by unfold eA; rw [← hA]; exact hq))
    · rw [hv]
      refine jm_tableOut (pc := 49) (tgt := 104) dR_canDo_49 (by decide) (by decide) ?_
      refine jm_aload_n (pc := 104) dR_canDo_104 rfl ?_
      refine jm_aload_n (pc := 105) dR_canDo_105 rfl ?_
      refine jm_callV (pc := 106) (c_R_canDoAtom (d := d - 1) (s := eS E i) (p := eQ E i) (hT1.2.2.2 i hi).2.2.2.2.2.2.2.1 hT1.2.1 hT1.2.2.1 hsr (by omega) (hT.tr.2.2 i hi).2.2.2.2.1 (hT.tr.2.2 i hi).2.2.2.2.2.1 (fun q => ⟨(hT1.2.2.2 i hi).2.2.2.2.2.2.2.2 q, (hT.tr.2.2 i hi).2.2.2.2.2.2.1 q⟩) ((hT1.2.2.2 i hi).2.2.2.2.2.1.trans ((hT.tr.2.2 i hi).2.2.2.2.2.2.2 (by omega))) (by omega)) fR_canDoAtom vR_canDoAtom cR_61 dR_canDo_106 rfl rfl rfl rfl (by omega) ⟨Nat.le_refl _, Nat.le_refl _⟩ rfl (Nat.le_of_ble_eq_true rfl) (fun v s2 hq => ?_)
      obtain ⟨b, rfl, hb⟩ := aP_v hq
      refine jm_zret (pc := 109) dR_canDo_109 rfl (hb) ⟨Nat.le_refl _, Nat.le_refl _⟩ ?_
      exact cQ_pre tf ho (aP_cQ (by omega) hA h16 htr1 ht1 (by unfold eA; rw [← hA]; exact hq))
    · rw [hv]
      refine jm_tableOut (pc := 49) (tgt := 104) dR_canDo_49 (by decide) (by decide) ?_
      refine jm_aload_n (pc := 104) dR_canDo_104 rfl ?_
      refine jm_aload_n (pc := 105) dR_canDo_105 rfl ?_
      refine jm_callV (pc := 106) (c_R_canDoAtom (d := d - 1) (s := eS E i) (p := eQ E i) (hT1.2.2.2 i hi).2.2.2.2.2.2.2.1 hT1.2.1 hT1.2.2.1 hsr (by omega) (hT.tr.2.2 i hi).2.2.2.2.1 (hT.tr.2.2 i hi).2.2.2.2.2.1 (fun q => ⟨(hT1.2.2.2 i hi).2.2.2.2.2.2.2.2 q, (hT.tr.2.2 i hi).2.2.2.2.2.2.1 q⟩) ((hT1.2.2.2 i hi).2.2.2.2.2.1.trans ((hT.tr.2.2 i hi).2.2.2.2.2.2.2 (by omega))) (by omega)) fR_canDoAtom vR_canDoAtom cR_61 dR_canDo_106 rfl rfl rfl rfl (by omega) ⟨Nat.le_refl _, Nat.le_refl _⟩ rfl (Nat.le_of_ble_eq_true rfl) (fun v s2 hq => ?_)
      obtain ⟨b, rfl, hb⟩ := aP_v hq
      refine jm_zret (pc := 109) dR_canDo_109 rfl (hb) ⟨Nat.le_refl _, Nat.le_refl _⟩ ?_
      exact cQ_pre tf ho (aP_cQ (by omega) hA h16 htr1 ht1 (by unfold eA; rw [← hA]; exact hq))
    · rw [hv]
      refine jm_tableOut (pc := 49) (tgt := 104) dR_canDo_49 (by decide) (by decide) ?_
      refine jm_aload_n (pc := 104) dR_canDo_104 rfl ?_
      refine jm_aload_n (pc := 105) dR_canDo_105 rfl ?_
      refine jm_callV (pc := 106) (c_R_canDoAtom (d := d - 1) (s := eS E i) (p := eQ E i) (hT1.2.2.2 i hi).2.2.2.2.2.2.2.1 hT1.2.1 hT1.2.2.1 hsr (by omega) (hT.tr.2.2 i hi).2.2.2.2.1 (hT.tr.2.2 i hi).2.2.2.2.2.1 (fun q => ⟨(hT1.2.2.2 i hi).2.2.2.2.2.2.2.2 q, (hT.tr.2.2 i hi).2.2.2.2.2.2.1 q⟩) ((hT1.2.2.2 i hi).2.2.2.2.2.1.trans ((hT.tr.2.2 i hi).2.2.2.2.2.2.2 (by omega))) (by omega)) fR_canDoAtom vR_canDoAtom cR_61 dR_canDo_106 rfl rfl rfl rfl (by omega) ⟨Nat.le_refl _, Nat.le_refl _⟩ rfl (Nat.le_of_ble_eq_true rfl) (fun v s2 hq => ?_)
      obtain ⟨b, rfl, hb⟩ := aP_v hq
      refine jm_zret (pc := 109) dR_canDo_109 rfl (hb) ⟨Nat.le_refl _, Nat.le_refl _⟩ ?_
      exact cQ_pre tf ho (aP_cQ (by omega) hA h16 htr1 ht1 (by unfold eA; rw [← hA]; exact hq))
    · rw [hv]
      refine jm_tableOut (pc := 49) (tgt := 104) dR_canDo_49 (by decide) (by decide) ?_
      refine jm_aload_n (pc := 104) dR_canDo_104 rfl ?_
      refine jm_aload_n (pc := 105) dR_canDo_105 rfl ?_
      refine jm_callV (pc := 106) (c_R_canDoAtom (d := d - 1) (s := eS E i) (p := eQ E i) (hT1.2.2.2 i hi).2.2.2.2.2.2.2.1 hT1.2.1 hT1.2.2.1 hsr (by omega) (hT.tr.2.2 i hi).2.2.2.2.1 (hT.tr.2.2 i hi).2.2.2.2.2.1 (fun q => ⟨(hT1.2.2.2 i hi).2.2.2.2.2.2.2.2 q, (hT.tr.2.2 i hi).2.2.2.2.2.2.1 q⟩) ((hT1.2.2.2 i hi).2.2.2.2.2.1.trans ((hT.tr.2.2 i hi).2.2.2.2.2.2.2 (by omega))) (by omega)) fR_canDoAtom vR_canDoAtom cR_61 dR_canDo_106 rfl rfl rfl rfl (by omega) ⟨Nat.le_refl _, Nat.le_refl _⟩ rfl (Nat.le_of_ble_eq_true rfl) (fun v s2 hq => ?_)
      obtain ⟨b, rfl, hb⟩ := aP_v hq
      refine jm_zret (pc := 109) dR_canDo_109 rfl (hb) ⟨Nat.le_refl _, Nat.le_refl _⟩ ?_
      exact cQ_pre tf ho (aP_cQ (by omega) hA h16 htr1 ht1 (by unfold eA; rw [← hA]; exact hq))
    · rw [hv]
      refine jm_tableOut (pc := 49) (tgt := 104) dR_canDo_49 (by decide) (by decide) ?_
      refine jm_aload_n (pc := 104) dR_canDo_104 rfl ?_
      refine jm_aload_n (pc := 105) dR_canDo_105 rfl ?_
      refine jm_callV (pc := 106) (c_R_canDoAtom (d := d - 1) (s := eS E i) (p := eQ E i) (hT1.2.2.2 i hi).2.2.2.2.2.2.2.1 hT1.2.1 hT1.2.2.1 hsr (by omega) (hT.tr.2.2 i hi).2.2.2.2.1 (hT.tr.2.2 i hi).2.2.2.2.2.1 (fun q => ⟨(hT1.2.2.2 i hi).2.2.2.2.2.2.2.2 q, (hT.tr.2.2 i hi).2.2.2.2.2.2.1 q⟩) ((hT1.2.2.2 i hi).2.2.2.2.2.1.trans ((hT.tr.2.2 i hi).2.2.2.2.2.2.2 (by omega))) (by omega)) fR_canDoAtom vR_canDoAtom cR_61 dR_canDo_106 rfl rfl rfl rfl (by omega) ⟨Nat.le_refl _, Nat.le_refl _⟩ rfl (Nat.le_of_ble_eq_true rfl) (fun v s2 hq => ?_)
      obtain ⟨b, rfl, hb⟩ := aP_v hq
      refine jm_zret (pc := 109) dR_canDo_109 rfl (hb) ⟨Nat.le_refl _, Nat.le_refl _⟩ ?_
      exact cQ_pre tf ho (aP_cQ (by omega) hA h16 htr1 ht1 (by unfold eA; rw [← hA]; exact hq))
    · rw [hv]
      refine jm_tableOut (pc := 49) (tgt := 104) dR_canDo_49 (by decide) (by decide) ?_
      refine jm_aload_n (pc := 104) dR_canDo_104 rfl ?_
      refine jm_aload_n (pc := 105) dR_canDo_105 rfl ?_
      refine jm_callV (pc := 106) (c_R_canDoAtom (d := d - 1) (s := eS E i) (p := eQ E i) (hT1.2.2.2 i hi).2.2.2.2.2.2.2.1 hT1.2.1 hT1.2.2.1 hsr (by omega) (hT.tr.2.2 i hi).2.2.2.2.1 (hT.tr.2.2 i hi).2.2.2.2.2.1 (fun q => ⟨(hT1.2.2.2 i hi).2.2.2.2.2.2.2.2 q, (hT.tr.2.2 i hi).2.2.2.2.2.2.1 q⟩) ((hT1.2.2.2 i hi).2.2.2.2.2.1.trans ((hT.tr.2.2 i hi).2.2.2.2.2.2.2 (by omega))) (by omega)) fR_canDoAtom vR_canDoAtom cR_61 dR_canDo_106 rfl rfl rfl rfl (by omega) ⟨Nat.le_refl _, Nat.le_refl _⟩ rfl (Nat.le_of_ble_eq_true rfl) (fun v s2 hq => ?_)
      obtain ⟨b, rfl, hb⟩ := aP_v hq
      refine jm_zret (pc := 109) dR_canDo_109 rfl (hb) ⟨Nat.le_refl _, Nat.le_refl _⟩ ?_
      exact cQ_pre tf ho (aP_cQ (by omega) hA h16 htr1 ht1 (by unfold eA; rw [← hA]; exact hq))
  · refine jm_aload_n (pc := 10) dR_canDo_10 rfl ?_
    refine jm_iconst (pc := 11) (v := 1) dR_canDo_11 (by decide) ?_
    refine jm_putz (pc := 12) pR_canDo_23 dR_canDo_12 rfl rfl (by first | exact Or.inl rfl | exact Or.inr rfl | assumption) ?_
    refine jm_iconst (pc := 15) (v := 0) dR_canDo_15 (by decide) ?_
    refine jm_zret (pc := 16) dR_canDo_16 rfl (by first | exact Or.inl rfl | exact Or.inr rfl | assumption) ⟨Nat.le_refl _, Nat.le_refl _⟩ ?_
    have e2 : t = 20000 := by
      rcases Nat.lt_or_ge t 20000 with q | q
      · exact absurd (by rw [htr]; exact nI_lt (b := 20000) q (by decide)) h7
      · omega
    refine ⟨TF.pT (Or.inr rfl), Or.inr ⟨?_, (sI_ne (by omega)).trans (by rw [htr, e2]), sI_eq, rfl⟩⟩
    have := tryF_pos E (f + 1) i S
    omega
/-- canDo, for every node of every tree -/
theorem c_canDo : ∀ (f d : Nat), 3 * f + 5 ≤ d → CD l D E f d
  | 0, d, _ => fun st i S t hT hi hdp _ _ => by
    have := (hT.tr.2.2 i hi).2.1
    omega
  | f + 1, d, hd => fun st i S t hT hi hdp htr ht => c_R_canDo (c_canDo f (d - 1 - 1 - 1) (by omega)) hT hi hdp htr ht (by omega)
end CCan
