section CM6
variable {l : Launch} {D : mD} {d : Nat} {st : aS} {E : EE}
set_option maxRecDepth 100000 in
set_option maxHeartbeats 4000000 in
theorem c_M_not_0 {n F t : Nat} (hT : TM E st) (hn : n < eN E) (hF40 : F + 1 < 40) (hF : st.1 5 0 38 = nI (F + 1)) (hk : eK E n = []) (hd : 1 ≤ d) : MC l D mM_not d 0 0 [vR (some (5, 0)), vI (nI F), vI (nI n)] st (fun v s' => s' = ends st F n 0 0 ∧ v = some (vI 1)) := by
  refine jm_start (ls0 := [some (vR (some (5, 0))), some (vI (nI F)), some (vI (nI n)), none]) (by decide) (Nat.le_of_ble_eq_true rfl) rfl ?_
  have hn250 : n < 250 := Nat.lt_of_lt_of_le hn hT.1.1
  have hm := hT.2.2.1
  obtain ⟨b1_, b2_, b3_, b4_, b5_, b6_, b7_, b8_⟩ := hT.2.2.2.2 n hn
  have ef : st.1 19 0 n = -1 := by rw [b3_, hk]; rfl
  refine jm_aload_n (pc := 0) dM_not_0 rfl ?_
  refine jm_getq (pc := 1) lM_31 dM_not_1 rfl rfl (hm 10 rfl) ?_
  refine jm_iload_n (pc := 4) dM_not_4 rfl ?_
  refine jm_iald (pc := 5) dM_not_5 rfl (by decide) rfl (fun _ => rfl) ?hin ?_
  case hin =>
    exact vp_in_nI (N := 250) (by omega) (by decide)
  rw [nI_clamp (by omega), ef]
  refine jm_istore_n (pc := 6) dM_not_6 (by decide) ?_
  refine jm_iload_n (pc := 7) dM_not_7 rfl ?_
  refine jm_iconst (pc := 8) (v := -1) dM_not_8 (by decide) ?_
  refine jm_icmp_ne (pc := 9) (tgt := 21) dM_not_9 (by decide) (fun h9 => ?_) (fun h9 => ?_)
  · exact absurd rfl h9
  · refine jm_aload_n (pc := 12) dM_not_12 rfl ?_
    refine jm_iload_n (pc := 13) dM_not_13 rfl ?_
    refine jm_iconst (pc := 14) (v := 0) dM_not_14 (by decide) ?_
    refine jm_lconst (pc := 15) (v := 0) dM_not_15 (by decide) ?_
    refine jm_callV (pc := 16) (c_M_ended (d := d - 1) _ _ hm (by omega) hF (by first | exact Or.inl rfl | exact Or.inr rfl)) fM_ended vM_ended cM_211 dM_not_16 rfl rfl rfl rfl (by omega) ⟨Nat.le_refl _, Nat.le_refl _⟩ rfl (Nat.le_of_ble_eq_true rfl) (fun v s2 hq => ?_)
    obtain ⟨rfl, rfl⟩ := hq
    refine jm_iconst (pc := 19) (v := 1) dM_not_19 (by decide) ?_
    refine jm_zret (pc := 20) dM_not_20 rfl (by first | exact Or.inl rfl | exact Or.inr rfl | assumption) ⟨Nat.le_refl _, Nat.le_refl _⟩ ?_
    exact ⟨rfl, rfl⟩
set_option maxRecDepth 100000 in
set_option maxHeartbeats 4000000 in
theorem c_M_not_1 {n p F t : Nat} {r : List Nat} {S : Int64} (hT : TM E st) (hn : n < eN E) (hF40 : F + 1 < 40) (hF : st.1 5 0 38 = nI (F + 1)) (hk : eK E n = p :: r) (hs : st.1 38 0 F = 0) (hA : st.2.1 29 0 n = S) (htr : st.1 5 0 39 = nI t) (ht : t ≤ 20000) (hd : 5 ≤ d) : MC l D mM_not d 0 0 [vR (some (5, 0)), vI (nI F), vI (nI n)] st (tQ E p S t (F + 1) (sI st 38 0 F 1)) := by
  refine jm_start (ls0 := [some (vR (some (5, 0))), some (vI (nI F)), some (vI (nI n)), none]) (by decide) (Nat.le_of_ble_eq_true rfl) rfl ?_
  have hn250 : n < 250 := Nat.lt_of_lt_of_le hn hT.1.1
  have hm := hT.2.2.1
  obtain ⟨b1_, b2_, b3_, b4_, b5_, b6_, b7_, b8_⟩ := hT.2.2.2.2 n hn
  have hpk : p ∈ eK E n := by rw [hk]; exact List.mem_cons_self
  have hp := (hT.1.kid hn hpk).1
  have hp250 : p < 250 := Nat.lt_of_lt_of_le hp hT.1.1
  have ef : st.1 19 0 n = nI p := by rw [b3_, hk]; rfl
  refine jm_aload_n (pc := 0) dM_not_0 rfl ?_
  refine jm_getq (pc := 1) lM_31 dM_not_1 rfl rfl (hm 10 rfl) ?_
  refine jm_iload_n (pc := 4) dM_not_4 rfl ?_
  refine jm_iald (pc := 5) dM_not_5 rfl (by decide) rfl (fun _ => rfl) ?hin ?_
  case hin =>
    exact vp_in_nI (N := 250) (by omega) (by decide)
  rw [nI_clamp (by omega), ef]
  refine jm_istore_n (pc := 6) dM_not_6 (by decide) ?_
  refine jm_iload_n (pc := 7) dM_not_7 rfl ?_
  refine jm_iconst (pc := 8) (v := -1) dM_not_8 (by decide) ?_
  refine jm_icmp_ne (pc := 9) (tgt := 21) dM_not_9 (by decide) (fun h9 => ?_) (fun h9 => ?_)
  · refine jm_aload_n (pc := 21) dM_not_21 rfl ?_
    refine jm_getq (pc := 22) lM_90 dM_not_22 rfl rfl (hm 32 rfl) ?_
    refine jm_iload_n (pc := 25) dM_not_25 rfl ?_
    refine jm_iald (pc := 26) dM_not_26 rfl (by decide) rfl (fun _ => rfl) ?hin ?_
    case hin =>
      exact vp_in_nI (N := 40) (by omega) (by decide)
    rw [nI_clamp (by omega), hs]
    refine jm_if_ne (pc := 27) (tgt := 49) dM_not_27 (by decide) (fun h27 => ?_) (fun h27 => ?_)
    · exact absurd rfl h27
    · refine jm_aload_n (pc := 30) dM_not_30 rfl ?_
      refine jm_getq (pc := 31) lM_90 dM_not_31 rfl rfl (hm 32 rfl) ?_
      refine jm_iload_n (pc := 34) dM_not_34 rfl ?_
      refine jm_iconst (pc := 35) (v := 1) dM_not_35 (by decide) ?_
      refine jm_iast (pc := 36) dM_not_36 rfl (by decide) rfl (fun _ => rfl) ?hin ?_
      case hin =>
        exact vp_in_nI (N := 40) (by omega) (by decide)
      rw [nI_clamp (by omega)]
      refine jm_aload_n (pc := 37) dM_not_37 rfl ?_
      refine jm_iload_n (pc := 38) dM_not_38 rfl ?_
      refine jm_aload_n (pc := 39) dM_not_39 rfl ?_
      refine jm_getq (pc := 40) lM_62 dM_not_40 rfl rfl (hm 23 rfl) ?_
      refine jm_iload_n (pc := 43) dM_not_43 rfl ?_
      refine jm_lald (pc := 44) dM_not_44 rfl (by decide) rfl (fun _ => rfl) ?hin ?_
      case hin =>
        exact vp_in_nI (N := 250) (by omega) (by decide)
      rw [nI_clamp (by omega), show (sI st 38 0 F 1).2.1 29 0 n = S from hA]
      refine jm_callV (pc := 45) (c_M_tried (d := d - 1) (st := sI st 38 0 F 1) (hT.mv (MT.fI (E := E) (i := n) (F := F) (by omega) (Nat.le_refl F)).1) hp ((sI_ne (by omega)).trans hF) (by omega) ((sI_ne (by omega)).trans htr) ht (by omega)) fM_tried vM_tried cM_207 dM_not_45 rfl rfl rfl rfl (by omega) ⟨Nat.le_refl _, Nat.le_refl _⟩ rfl (Nat.le_of_ble_eq_true rfl) (fun v s2 hq => ?_)
      obtain ⟨b, rfl, hb⟩ := tQ_v hq
      refine jm_zret (pc := 48) dM_not_48 rfl (hb) ⟨Nat.le_refl _, Nat.le_refl _⟩ ?_
      exact hq
  · exact absurd h9 (fun q => nI_pos (n := p) (by omega) (by rw [q]; decide))
set_option maxRecDepth 100000 in
set_option maxHeartbeats 4000000 in
theorem c_M_not_2 {n p F t : Nat} {r : List Nat} {S B : Int64} {b : Int32} (hT : TM E st) (hn : n < eN E) (hF40 : F + 1 < 40) (hF : st.1 5 0 38 = nI (F + 1)) (hk : eK E n = p :: r) (hs : st.1 38 0 F = 1) (hA : st.2.1 29 0 n = S) (hb : st.1 31 0 p = b) (hB : st.2.1 30 0 p = B) (hd : 1 ≤ d) : MC l D mM_not d 0 0 [vR (some (5, 0)), vI (nI F), vI (nI n)] st (fun v s' => v = some (vI 1) ∧ ((b = 0 ∧ s' = ends (sI st 36 0 n (nI p)) F n 0 S) ∨ (¬ b = 0 ∧ s' = ends st F n (jb ((B &&& nt S) &&& eO E n = 0)) S))) := by
  refine jm_start (ls0 := [some (vR (some (5, 0))), some (vI (nI F)), some (vI (nI n)), none]) (by decide) (Nat.le_of_ble_eq_true rfl) rfl ?_
  have hn250 : n < 250 := Nat.lt_of_lt_of_le hn hT.1.1
  have hm := hT.2.2.1
  obtain ⟨b1_, b2_, b3_, b4_, b5_, b6_, b7_, b8_⟩ := hT.2.2.2.2 n hn
  have hpk : p ∈ eK E n := by rw [hk]; exact List.mem_cons_self
  have hp := (hT.1.kid hn hpk).1
  have hp250 : p < 250 := Nat.lt_of_lt_of_le hp hT.1.1
  have ef : st.1 19 0 n = nI p := by rw [b3_, hk]; rfl
  refine jm_aload_n (pc := 0) dM_not_0 rfl ?_
  refine jm_getq (pc := 1) lM_31 dM_not_1 rfl rfl (hm 10 rfl) ?_
  refine jm_iload_n (pc := 4) dM_not_4 rfl ?_
  refine jm_iald (pc := 5) dM_not_5 rfl (by decide) rfl (fun _ => rfl) ?hin ?_
  case hin =>
    exact vp_in_nI (N := 250) (by omega) (by decide)
  rw [nI_clamp (by omega), ef]
  refine jm_istore_n (pc := 6) dM_not_6 (by decide) ?_
  refine jm_iload_n (pc := 7) dM_not_7 rfl ?_
  refine jm_iconst (pc := 8) (v := -1) dM_not_8 (by decide) ?_
  refine jm_icmp_ne (pc := 9) (tgt := 21) dM_not_9 (by decide) (fun h9 => ?_) (fun h9 => ?_)
  · refine jm_aload_n (pc := 21) dM_not_21 rfl ?_
    refine jm_getq (pc := 22) lM_90 dM_not_22 rfl rfl (hm 32 rfl) ?_
    refine jm_iload_n (pc := 25) dM_not_25 rfl ?_
    refine jm_iald (pc := 26) dM_not_26 rfl (by decide) rfl (fun _ => rfl) ?hin ?_
    case hin =>
      exact vp_in_nI (N := 40) (by omega) (by decide)
    rw [nI_clamp (by omega), hs]
    refine jm_if_ne (pc := 27) (tgt := 49) dM_not_27 (by decide) (fun h27 => ?_) (fun h27 => ?_)
    · refine jm_aload_n (pc := 49) dM_not_49 rfl ?_
      refine jm_getq (pc := 50) lM_68 dM_not_50 rfl rfl (hm 25 rfl) ?_
      refine jm_iload_n (pc := 53) dM_not_53 rfl ?_
      refine jm_zald (pc := 54) dM_not_54 rfl (by decide) rfl (fun _ => rfl) ?hin ?_
      case hin =>
        exact vp_in_nI (N := 250) (by omega) (by decide)
      rw [nI_clamp (by omega), hb]
      refine jm_if_ne (pc := 55) (tgt := 65) dM_not_55 (by decide) (fun h55 => ?_) (fun h55 => ?_)
      · try rw [nI_clamp (by omega)]
        refine jm_aload_n (pc := 65) dM_not_65 rfl ?_
        refine jm_iload_n (pc := 66) dM_not_66 rfl ?_
        refine jm_aload_n (pc := 67) dM_not_67 rfl ?_
        refine jm_getq (pc := 68) lM_68 dM_not_68 rfl rfl (hm 25 rfl) ?_
        refine jm_iload_n (pc := 71) dM_not_71 rfl ?_
        refine jm_zald (pc := 72) dM_not_72 rfl (by decide) rfl (fun _ => rfl) ?hin ?_
        case hin =>
          exact vp_in_nI (N := 250) (by omega) (by decide)
        rw [nI_clamp (by omega)]
        first | rw [hb] | rw [show (sI st 36 0 n (nI p)).1 31 0 p = b from (sI_ne (by omega)).trans hb]
        refine jm_if_eq (pc := 73) (tgt := 109) dM_not_73 (by decide) (fun h73 => ?_) (fun h73 => ?_)
        · refine jm_iconst (pc := 109) (v := 0) dM_not_109 (by decide) ?_
          refine jm_aload_n (pc := 110) dM_not_110 rfl ?_
          refine jm_getq (pc := 111) lM_62 dM_not_111 rfl rfl (hm 23 rfl) ?_
          refine jm_iload_n (pc := 114) dM_not_114 rfl ?_
          refine jm_lald (pc := 115) dM_not_115 rfl (by decide) rfl (fun _ => rfl) ?hin ?_
          case hin =>
            exact vp_in_nI (N := 250) (by omega) (by decide)
          rw [nI_clamp (by omega)]
          first | rw [hA] | rw [show (sI st 36 0 n (nI p)).2.1 29 0 n = S from hA]
          refine jm_callV (pc := 116) (c_M_ended (d := d - 1) _ _ hm (by omega) (by first | exact hF | exact (sI_ne (by omega)).trans hF) (by first | exact Or.inl rfl | exact Or.inr rfl)) fM_ended vM_ended cM_211 dM_not_116 rfl rfl rfl rfl (by omega) ⟨Nat.le_refl _, Nat.le_refl _⟩ rfl (Nat.le_of_ble_eq_true rfl) (fun v s2 hq => ?_)
          obtain ⟨rfl, rfl⟩ := hq
          refine jm_iconst (pc := 119) (v := 1) dM_not_119 (by decide) ?_
          refine jm_zret (pc := 120) dM_not_120 rfl (by first | exact Or.inl rfl | exact Or.inr rfl | assumption) ⟨Nat.le_refl _, Nat.le_refl _⟩ ?_
          refine ⟨rfl, ?_⟩
          first
            | exact absurd h73 h55
            | exact absurd h55 h73
            | exact Or.inl ⟨h55, rfl⟩
            | exact Or.inl ⟨Classical.not_not.mp h55, rfl⟩
            | exact Or.inr ⟨h55, by rw [jb_t (p := (B &&& nt S) &&& eO E n = 0) (lg0.mp h102)]; rfl⟩
            | exact Or.inr ⟨h55, by rw [jb_f (p := (B &&& nt S) &&& eO E n = 0) (fun q => h102 (lg0.mpr q))]; rfl⟩
        · refine jm_aload_n (pc := 76) dM_not_76 rfl ?_
          refine jm_getq (pc := 77) lM_65 dM_not_77 rfl rfl (hm 24 rfl) ?_
          refine jm_iload_n (pc := 80) dM_not_80 rfl ?_
          refine jm_lald (pc := 81) dM_not_81 rfl (by decide) rfl (fun _ => rfl) ?hin ?_
          case hin =>
            exact vp_in_nI (N := 250) (by omega) (by decide)
          rw [nI_clamp (by omega)]
          first | rw [hB] | rw [show (sI st 36 0 n (nI p)).2.1 30 0 p = B from hB]
          refine jm_aload_n (pc := 82) dM_not_82 rfl ?_
          refine jm_getq (pc := 83) lM_62 dM_not_83 rfl rfl (hm 23 rfl) ?_
          refine jm_iload_n (pc := 86) dM_not_86 rfl ?_
          refine jm_lald (pc := 87) dM_not_87 rfl (by decide) rfl (fun _ => rfl) ?hin ?_
          case hin =>
            exact vp_in_nI (N := 250) (by omega) (by decide)
          rw [nI_clamp (by omega)]
          first | rw [hA] | rw [show (sI st 36 0 n (nI p)).2.1 29 0 n = S from hA]
          refine jm_ldc2 (pc := 88) dM_not_88 klM_215 ?_
          refine jm_lxor (pc := 91) dM_not_91 ?_
          refine jm_land (pc := 92) dM_not_92 ?_
          refine jm_aload_n (pc := 93) dM_not_93 rfl ?_
          refine jm_getq (pc := 94) lM_55 dM_not_94 rfl rfl (hm 21 rfl) ?_
          refine jm_iload_n (pc := 97) dM_not_97 rfl ?_
          refine jm_lald (pc := 98) dM_not_98 rfl (by decide) rfl (fun _ => rfl) ?hin ?_
          case hin =>
            exact vp_in_nI (N := 250) (by omega) (by decide)
          rw [nI_clamp (by omega)]
          first | rw [b7_] | rw [show (sI st 36 0 n (nI p)).2.1 27 0 n = eO E n from b7_]
          refine jm_land (pc := 99) dM_not_99 ?_
          refine jm_lconst (pc := 100) (v := 0) dM_not_100 (by decide) ?_
          refine jm_lcmp (pc := 101) dM_not_101 ?_
          refine jm_if_ne (pc := 102) (tgt := 109) dM_not_102 (by decide) (fun h102 => ?_) (fun h102 => ?_)
          · refine jm_iconst (pc := 109) (v := 0) dM_not_109 (by decide) ?_
            refine jm_aload_n (pc := 110) dM_not_110 rfl ?_
            refine jm_getq (pc := 111) lM_62 dM_not_111 rfl rfl (hm 23 rfl) ?_
            refine jm_iload_n (pc := 114) dM_not_114 rfl ?_
            refine jm_lald (pc := 115) dM_not_115 rfl (by decide) rfl (fun _ => rfl) ?hin ?_
            case hin =>
              exact vp_in_nI (N := 250) (by omega) (by decide)
            rw [nI_clamp (by omega)]
            first | rw [hA] | rw [show (sI st 36 0 n (nI p)).2.1 29 0 n = S from hA]
            refine jm_callV (pc := 116) (c_M_ended (d := d - 1) _ _ hm (by omega) (by first | exact hF | exact (sI_ne (by omega)).trans hF) (by first | exact Or.inl rfl | exact Or.inr rfl)) fM_ended vM_ended cM_211 dM_not_116 rfl rfl rfl rfl (by omega) ⟨Nat.le_refl _, Nat.le_refl _⟩ rfl (Nat.le_of_ble_eq_true rfl) (fun v s2 hq => ?_)
            obtain ⟨rfl, rfl⟩ := hq
            refine jm_iconst (pc := 119) (v := 1) dM_not_119 (by decide) ?_
            refine jm_zret (pc := 120) dM_not_120 rfl (by first | exact Or.inl rfl | exact Or.inr rfl | assumption) ⟨Nat.le_refl _, Nat.le_refl _⟩ ?_
            refine ⟨rfl, ?_⟩
            first
              | exact absurd h73 h55
              | exact absurd h55 h73
              | exact Or.inl ⟨h55, rfl⟩
              | exact Or.inl ⟨Classical.not_not.mp h55, rfl⟩
              | exact Or.inr ⟨h55, by rw [jb_t (p := (B &&& nt S) &&& eO E n = 0) (lg0.mp h102)]; rfl⟩
              | exact Or.inr ⟨h55, by rw [jb_f (p := (B &&& nt S) &&& eO E n = 0) (fun q => h102 (lg0.mpr q))]; rfl⟩
          · refine jm_iconst (pc := 105) (v := 1) dM_not_105 (by decide) ?_
            refine jm_goto (pc := 106) (tgt := 110) dM_not_106 (by decide) ?_
            refine jm_aload_n (pc := 110) dM_not_110 rfl ?_
            refine jm_getq (pc := 111) lM_62 dM_not_111 rfl rfl (hm 23 rfl) ?_
            refine jm_iload_n (pc := 114) dM_not_114 rfl ?_
            refine jm_lald (pc := 115) dM_not_115 rfl (by decide) rfl (fun _ => rfl) ?hin ?_
            case hin =>
              exact vp_in_nI (N := 250) (by omega) (by decide)
            rw [nI_clamp (by omega)]
            first | rw [hA] | rw [show (sI st 36 0 n (nI p)).2.1 29 0 n = S from hA]
            refine jm_callV (pc := 116) (c_M_ended (d := d - 1) _ _ hm (by omega) (by first | exact hF | exact (sI_ne (by omega)).trans hF) (by first | exact Or.inl rfl | exact Or.inr rfl)) fM_ended vM_ended cM_211 dM_not_116 rfl rfl rfl rfl (by omega) ⟨Nat.le_refl _, Nat.le_refl _⟩ rfl (Nat.le_of_ble_eq_true rfl) (fun v s2 hq => ?_)
            obtain ⟨rfl, rfl⟩ := hq
            refine jm_iconst (pc := 119) (v := 1) dM_not_119 (by decide) ?_
            refine jm_zret (pc := 120) dM_not_120 rfl (by first | exact Or.inl rfl | exact Or.inr rfl | assumption) ⟨Nat.le_refl _, Nat.le_refl _⟩ ?_
            refine ⟨rfl, ?_⟩
            first
              | exact absurd h73 h55
              | exact absurd h55 h73
              | exact Or.inl ⟨h55, rfl⟩
              | exact Or.inl ⟨Classical.not_not.mp h55, rfl⟩
              | exact Or.inr ⟨h55, by rw [jb_t (p := (B &&& nt S) &&& eO E n = 0) (lg0.mp h102)]; rfl⟩
              | exact Or.inr ⟨h55, by rw [jb_f (p := (B &&& nt S) &&& eO E n = 0) (fun q => h102 (lg0.mpr q))]; rfl⟩
      · refine jm_aload_n (pc := 58) dM_not_58 rfl ?_
        refine jm_getq (pc := 59) lM_84 dM_not_59 rfl rfl (hm 30 rfl) ?_
        refine jm_iload_n (pc := 62) dM_not_62 rfl ?_
        refine jm_iload_n (pc := 63) dM_not_63 rfl ?_
        refine jm_iast (pc := 64) dM_not_64 rfl (by decide) rfl (fun _ => rfl) ?hin ?_
        case hin =>
          exact vp_in_nI (N := 250) (by omega) (by decide)
        try rw [nI_clamp (by omega)]
        refine jm_aload_n (pc := 65) dM_not_65 rfl ?_
        refine jm_iload_n (pc := 66) dM_not_66 rfl ?_
        refine jm_aload_n (pc := 67) dM_not_67 rfl ?_
        refine jm_getq (pc := 68) lM_68 dM_not_68 rfl rfl (hm 25 rfl) ?_
        refine jm_iload_n (pc := 71) dM_not_71 rfl ?_
        refine jm_zald (pc := 72) dM_not_72 rfl (by decide) rfl (fun _ => rfl) ?hin ?_
        case hin =>
          exact vp_in_nI (N := 250) (by omega) (by decide)
        rw [nI_clamp (by omega)]
        first | rw [hb] | rw [show (sI st 36 0 n (nI p)).1 31 0 p = b from (sI_ne (by omega)).trans hb]
        refine jm_if_eq (pc := 73) (tgt := 109) dM_not_73 (by decide) (fun h73 => ?_) (fun h73 => ?_)
        · refine jm_iconst (pc := 109) (v := 0) dM_not_109 (by decide) ?_
          refine jm_aload_n (pc := 110) dM_not_110 rfl ?_
          refine jm_getq (pc := 111) lM_62 dM_not_111 rfl rfl (hm 23 rfl) ?_
          refine jm_iload_n (pc := 114) dM_not_114 rfl ?_
          refine jm_lald (pc := 115) dM_not_115 rfl (by decide) rfl (fun _ => rfl) ?hin ?_
          case hin =>
            exact vp_in_nI (N := 250) (by omega) (by decide)
          rw [nI_clamp (by omega)]
          first | rw [hA] | rw [show (sI st 36 0 n (nI p)).2.1 29 0 n = S from hA]
          refine jm_callV (pc := 116) (c_M_ended (d := d - 1) _ _ hm (by omega) (by first | exact hF | exact (sI_ne (by omega)).trans hF) (by first | exact Or.inl rfl | exact Or.inr rfl)) fM_ended vM_ended cM_211 dM_not_116 rfl rfl rfl rfl (by omega) ⟨Nat.le_refl _, Nat.le_refl _⟩ rfl (Nat.le_of_ble_eq_true rfl) (fun v s2 hq => ?_)
          obtain ⟨rfl, rfl⟩ := hq
          refine jm_iconst (pc := 119) (v := 1) dM_not_119 (by decide) ?_
          refine jm_zret (pc := 120) dM_not_120 rfl (by first | exact Or.inl rfl | exact Or.inr rfl | assumption) ⟨Nat.le_refl _, Nat.le_refl _⟩ ?_
          refine ⟨rfl, ?_⟩
          first
            | exact absurd h73 h55
            | exact absurd h55 h73
            | exact Or.inl ⟨h55, rfl⟩
            | exact Or.inl ⟨Classical.not_not.mp h55, rfl⟩
            | exact Or.inr ⟨h55, by rw [jb_t (p := (B &&& nt S) &&& eO E n = 0) (lg0.mp h102)]; rfl⟩
            | exact Or.inr ⟨h55, by rw [jb_f (p := (B &&& nt S) &&& eO E n = 0) (fun q => h102 (lg0.mpr q))]; rfl⟩
        · refine jm_aload_n (pc := 76) dM_not_76 rfl ?_
          refine jm_getq (pc := 77) lM_65 dM_not_77 rfl rfl (hm 24 rfl) ?_
          refine jm_iload_n (pc := 80) dM_not_80 rfl ?_
          refine jm_lald (pc := 81) dM_not_81 rfl (by decide) rfl (fun _ => rfl) ?hin ?_
          case hin =>
            exact vp_in_nI (N := 250) (by omega) (by decide)
          rw [nI_clamp (by omega)]
          first | rw [hB] | rw [show (sI st 36 0 n (nI p)).2.1 30 0 p = B from hB]
          refine jm_aload_n (pc := 82) dM_not_82 rfl ?_
          refine jm_getq (pc := 83) lM_62 dM_not_83 rfl rfl (hm 23 rfl) ?_
          refine jm_iload_n (pc := 86) dM_not_86 rfl ?_
          refine jm_lald (pc := 87) dM_not_87 rfl (by decide) rfl (fun _ => rfl) ?hin ?_
          case hin =>
            exact vp_in_nI (N := 250) (by omega) (by decide)
          rw [nI_clamp (by omega)]
          first | rw [hA] | rw [show (sI st 36 0 n (nI p)).2.1 29 0 n = S from hA]
          refine jm_ldc2 (pc := 88) dM_not_88 klM_215 ?_
          refine jm_lxor (pc := 91) dM_not_91 ?_
          refine jm_land (pc := 92) dM_not_92 ?_
          refine jm_aload_n (pc := 93) dM_not_93 rfl ?_
          refine jm_getq (pc := 94) lM_55 dM_not_94 rfl rfl (hm 21 rfl) ?_
          refine jm_iload_n (pc := 97) dM_not_97 rfl ?_
          refine jm_lald (pc := 98) dM_not_98 rfl (by decide) rfl (fun _ => rfl) ?hin ?_
          case hin =>
            exact vp_in_nI (N := 250) (by omega) (by decide)
          rw [nI_clamp (by omega)]
          first | rw [b7_] | rw [show (sI st 36 0 n (nI p)).2.1 27 0 n = eO E n from b7_]
          refine jm_land (pc := 99) dM_not_99 ?_
          refine jm_lconst (pc := 100) (v := 0) dM_not_100 (by decide) ?_
          refine jm_lcmp (pc := 101) dM_not_101 ?_
          refine jm_if_ne (pc := 102) (tgt := 109) dM_not_102 (by decide) (fun h102 => ?_) (fun h102 => ?_)
          · refine jm_iconst (pc := 109) (v := 0) dM_not_109 (by decide) ?_
            refine jm_aload_n (pc := 110) dM_not_110 rfl ?_
            refine jm_getq (pc := 111) lM_62 dM_not_111 rfl rfl (hm 23 rfl) ?_
            refine jm_iload_n (pc := 114) dM_not_114 rfl ?_
            refine jm_lald (pc := 115) dM_not_115 rfl (by decide) rfl (fun _ => rfl) ?hin ?_
            case hin =>
              exact vp_in_nI (N := 250) (by omega) (by decide)
            rw [nI_clamp (by omega)]
            first | rw [hA] | rw [show (sI st 36 0 n (nI p)).2.1 29 0 n = S from hA]
            refine jm_callV (pc := 116) (c_M_ended (d := d - 1) _ _ hm (by omega) (by first | exact hF | exact (sI_ne (by omega)).trans hF) (by first | exact Or.inl rfl | exact Or.inr rfl)) fM_ended vM_ended cM_211 dM_not_116 rfl rfl rfl rfl (by omega) ⟨Nat.le_refl _, Nat.le_refl _⟩ rfl (Nat.le_of_ble_eq_true rfl) (fun v s2 hq => ?_)
            obtain ⟨rfl, rfl⟩ := hq
            refine jm_iconst (pc := 119) (v := 1) dM_not_119 (by decide) ?_
            refine jm_zret (pc := 120) dM_not_120 rfl (by first | exact Or.inl rfl | exact Or.inr rfl | assumption) ⟨Nat.le_refl _, Nat.le_refl _⟩ ?_
            refine ⟨rfl, ?_⟩
            first
              | exact absurd h73 h55
              | exact absurd h55 h73
              | exact Or.inl ⟨h55, rfl⟩
              | exact Or.inl ⟨Classical.not_not.mp h55, rfl⟩
              | exact Or.inr ⟨h55, by rw [jb_t (p := (B &&& nt S) &&& eO E n = 0) (lg0.mp h102)]; rfl⟩
              | exact Or.inr ⟨h55, by rw [jb_f (p := (B &&& nt S) &&& eO E n = 0) (fun q => h102 (lg0.mpr q))]; rfl⟩
          · refine jm_iconst (pc := 105) (v := 1) dM_not_105 (by decide) ?_
            refine jm_goto (pc := 106) (tgt := 110) dM_not_106 (by decide) ?_
            refine jm_aload_n (pc := 110) dM_not_110 rfl ?_
            refine jm_getq (pc := 111) lM_62 dM_not_111 rfl rfl (hm 23 rfl) ?_
            refine jm_iload_n (pc := 114) dM_not_114 rfl ?_
            refine jm_lald (pc := 115) dM_not_115 rfl (by decide) rfl (fun _ => rfl) ?hin ?_
            case hin =>
              exact vp_in_nI (N := 250) (by omega) (by decide)
            rw [nI_clamp (by omega)]
            first | rw [hA] | rw [show (sI st 36 0 n (nI p)).2.1 29 0 n = S from hA]
            refine jm_callV (pc := 116) (c_M_ended (d := d - 1) _ _ hm (by omega) (by first | exact hF | exact (sI_ne (by omega)).trans hF) (by first | exact Or.inl rfl | exact Or.inr rfl)) fM_ended vM_ended cM_211 dM_not_116 rfl rfl rfl rfl (by omega) ⟨Nat.le_refl _, Nat.le_refl _⟩ rfl (Nat.le_of_ble_eq_true rfl) (fun v s2 hq => ?_)
            obtain ⟨rfl, rfl⟩ := hq
            refine jm_iconst (pc := 119) (v := 1) dM_not_119 (by decide) ?_
            refine jm_zret (pc := 120) dM_not_120 rfl (by first | exact Or.inl rfl | exact Or.inr rfl | assumption) ⟨Nat.le_refl _, Nat.le_refl _⟩ ?_
            refine ⟨rfl, ?_⟩
            first
              | exact absurd h73 h55
              | exact absurd h55 h73
              | exact Or.inl ⟨h55, rfl⟩
              | exact Or.inl ⟨Classical.not_not.mp h55, rfl⟩
              | exact Or.inr ⟨h55, by rw [jb_t (p := (B &&& nt S) &&& eO E n = 0) (lg0.mp h102)]; rfl⟩
              | exact Or.inr ⟨h55, by rw [jb_f (p := (B &&& nt S) &&& eO E n = 0) (fun q => h102 (lg0.mpr q))]; rfl⟩
    · exact absurd h27 (by decide)
  · exact absurd h9 (fun q => nI_pos (n := p) (by omega) (by rw [q]; decide))
end CM6
