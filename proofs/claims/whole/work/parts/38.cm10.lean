section CM10
variable {l : Launch} {D : mD} {d : Nat} {st : aS} {E : EE}
set_option maxRecDepth 100000 in
set_option maxHeartbeats 4000000 in
theorem c_M_test_few {n F : Nat} (hT : TM E st) (hn : n < eN E) (hF40 : F + 1 < 40) (hF : st.1 5 0 38 = nI (F + 1)) (hl : (eK E n).length < 3) (hd : 1 ≤ d) : MC l D mM_test d 0 0 [vR (some (5, 0)), vI (nI F), vI (nI n)] st (fun v s' => s' = ends st F n 0 0 ∧ v = some (vI 1)) := by
  refine jm_start (ls0 := [some (vR (some (5, 0))), some (vI (nI F)), some (vI (nI n)), none, none, none, none, none, none, none]) (by decide) (Nat.le_of_ble_eq_true rfl) rfl ?_
  have hn250 : n < 250 := Nat.lt_of_lt_of_le hn hT.1.1
  have hm := hT.2.2.1
  obtain ⟨b1_, b2_, b3_, b4_, b5_, b6_, b7_, b8_⟩ := hT.2.2.2.2 n hn
  refine jm_aload_n (pc := 0) dM_test_0 rfl ?_
  refine jm_getq (pc := 1) lM_28 dM_test_1 rfl rfl (hm 9 rfl) ?_
  refine jm_iload_n (pc := 4) dM_test_4 rfl ?_
  refine jm_iald (pc := 5) dM_test_5 rfl (by decide) rfl (fun _ => rfl) ?hin ?_
  case hin =>
    exact vp_in_nI (N := 250) (by omega) (by decide)
  rw [nI_clamp (by omega), b2_]
  refine jm_iconst (pc := 6) (v := 3) dM_test_6 (by decide) ?_
  refine jm_icmp_ge (pc := 7) (tgt := 19) dM_test_7 (by decide) (fun h7 => ?_) (fun h7 => ?_)
  · exact absurd h7 (nI_ge hl (by decide))
  · refine jm_aload_n (pc := 10) dM_test_10 rfl ?_
    refine jm_iload_n (pc := 11) dM_test_11 rfl ?_
    refine jm_iconst (pc := 12) (v := 0) dM_test_12 (by decide) ?_
    refine jm_lconst (pc := 13) (v := 0) dM_test_13 (by decide) ?_
    refine jm_callV (pc := 14) (c_M_ended (d := d - 1) _ _ hm (by omega) hF (by first | exact Or.inl rfl | exact Or.inr rfl)) fM_ended vM_ended cM_211 dM_test_14 rfl rfl rfl rfl (by omega) ⟨Nat.le_refl _, Nat.le_refl _⟩ rfl (Nat.le_of_ble_eq_true rfl) (fun v s2 hq => ?_)
    obtain ⟨rfl, rfl⟩ := hq
    refine jm_iconst (pc := 17) (v := 1) dM_test_17 (by decide) ?_
    refine jm_zret (pc := 18) dM_test_18 rfl (by first | exact Or.inl rfl | exact Or.inr rfl | assumption) ⟨Nat.le_refl _, Nat.le_refl _⟩ ?_
    exact ⟨rfl, rfl⟩
set_option maxRecDepth 100000 in
set_option maxHeartbeats 4000000 in
theorem ct_test_f {n F a b c : Nat} {r : List Nat} {q : Nat} (hT : TM E st) (hn : n < eN E) (hF40 : F + 1 < 40) (hF : st.1 5 0 38 = nI (F + 1)) (hk : eK E n = a :: b :: c :: r) (hq : q < 250) (hd : 1 ≤ d) : MS l D mM_test d 0 0 (fun v s' => v = some (vI 1) ∧ s' = ends (sI st 36 0 n (nI q)) F n 0 0) 0 0 110 [some (vR (some (5, 0))), some (vI (nI F)), some (vI (nI n)), some (vI (nI a)), some (vI (nI b)), some (vI (nI c)), some (vI (nI q)), none, none, none] [vI 1] st := by
  have hn250 : n < 250 := Nat.lt_of_lt_of_le hn hT.1.1
  have hm := hT.2.2.1
  obtain ⟨b1_, b2_, b3_, b4_, b5_, b6_, b7_, b8_⟩ := hT.2.2.2.2 n hn
  have ha := hT.1.kid hn (show a ∈ eK E n by rw [hk]; simp)
  have hb := hT.1.kid hn (show b ∈ eK E n by rw [hk]; simp)
  have hc := hT.1.kid hn (show c ∈ eK E n by rw [hk]; simp)
  have ha250 : a < 250 := Nat.lt_of_lt_of_le ha.1 hT.1.1
  have hb250 : b < 250 := Nat.lt_of_lt_of_le hb.1 hT.1.1
  have hc250 : c < 250 := Nat.lt_of_lt_of_le hc.1 hT.1.1
  have ea : st.1 19 0 n = nI a := by rw [b3_, hk]; rfl
  have eb : st.1 21 0 a = nI b := by rw [b4_ 0 a (by rw [hk]; rfl), hk]; rfl
  have ec : st.1 21 0 b = nI c := by rw [b4_ 1 b (by rw [hk]; rfl), hk]; rfl
  have hl3 : 3 ≤ (eK E n).length := by rw [hk]; simp
  have hlen := eK_len hT.1 hn
  refine jm_istore (pc := 110) dM_test_110 (by decide) ?_
  refine jm_iload (pc := 112) dM_test_112 rfl ?_
  refine jm_if_eq (pc := 114) (tgt := 125) dM_test_114 (by decide) (fun h114 => ?_) (fun h114 => ?_)
  · exact absurd h114 (by decide)
  · refine jm_aload_n (pc := 117) dM_test_117 rfl ?_
    refine jm_getq (pc := 118) lM_84 dM_test_118 rfl rfl (hm 30 rfl) ?_
    refine jm_iload_n (pc := 121) dM_test_121 rfl ?_
    refine jm_iload (pc := 122) dM_test_122 rfl ?_
    refine jm_iast (pc := 124) dM_test_124 rfl (by decide) rfl (fun _ => rfl) ?hin ?_
    case hin =>
      exact vp_in_nI (N := 250) (by omega) (by decide)
    rw [nI_clamp (by omega)]
    refine jm_iload (pc := 125) dM_test_125 rfl ?_
    refine jm_if_ne (pc := 127) (tgt := 177) dM_test_127 (by decide) (fun h127 => ?_) (fun h127 => ?_)
    · refine jm_aload_n (pc := 177) dM_test_177 rfl ?_
      refine jm_iload_n (pc := 178) dM_test_178 rfl ?_
      refine jm_iconst (pc := 179) (v := 0) dM_test_179 (by decide) ?_
      refine jm_lconst (pc := 180) (v := 0) dM_test_180 (by decide) ?_
      refine jm_callV (pc := 181) (c_M_ended (d := d - 1) _ _ hm (by omega) ((sI_ne (by omega)).trans hF) (by first | exact Or.inl rfl | exact Or.inr rfl)) fM_ended vM_ended cM_211 dM_test_181 rfl rfl rfl rfl (by omega) ⟨Nat.le_refl _, Nat.le_refl _⟩ rfl (Nat.le_of_ble_eq_true rfl) (fun v s2 hq => ?_)
      obtain ⟨rfl, rfl⟩ := hq
      refine jm_iconst (pc := 184) (v := 1) dM_test_184 (by decide) ?_
      refine jm_zret (pc := 185) dM_test_185 rfl (by first | exact Or.inl rfl | exact Or.inr rfl | assumption) ⟨Nat.le_refl _, Nat.le_refl _⟩ ?_
      exact ⟨rfl, rfl⟩
    · exact absurd h127 (by decide)
set_option maxRecDepth 100000 in
set_option maxHeartbeats 4000000 in
theorem ct_test_0 {n F a b c : Nat} {r : List Nat} {t : Nat} {S : Int64} (hT : TM E st) (hn : n < eN E) (hF40 : F + 1 < 40) (hF : st.1 5 0 38 = nI (F + 1)) (hk : eK E n = a :: b :: c :: r) (hA : st.2.1 29 0 n = S) (htr : st.1 5 0 39 = nI t) (ht : t ≤ 20000) (hd : 5 ≤ d) (hs : st.1 38 0 F = 0) : MS l D mM_test d 0 0 (tQ E a S t (F + 1) (sI st 38 0 F 1)) 0 0 110 [some (vR (some (5, 0))), some (vI (nI F)), some (vI (nI n)), some (vI (nI a)), some (vI (nI b)), some (vI (nI c)), some (vI (-1)), none, none, none] [vI 0] st := by
  have hn250 : n < 250 := Nat.lt_of_lt_of_le hn hT.1.1
  have hm := hT.2.2.1
  obtain ⟨b1_, b2_, b3_, b4_, b5_, b6_, b7_, b8_⟩ := hT.2.2.2.2 n hn
  have ha := hT.1.kid hn (show a ∈ eK E n by rw [hk]; simp)
  have hb := hT.1.kid hn (show b ∈ eK E n by rw [hk]; simp)
  have hc := hT.1.kid hn (show c ∈ eK E n by rw [hk]; simp)
  have ha250 : a < 250 := Nat.lt_of_lt_of_le ha.1 hT.1.1
  have hb250 : b < 250 := Nat.lt_of_lt_of_le hb.1 hT.1.1
  have hc250 : c < 250 := Nat.lt_of_lt_of_le hc.1 hT.1.1
  have ea : st.1 19 0 n = nI a := by rw [b3_, hk]; rfl
  have eb : st.1 21 0 a = nI b := by rw [b4_ 0 a (by rw [hk]; rfl), hk]; rfl
  have ec : st.1 21 0 b = nI c := by rw [b4_ 1 b (by rw [hk]; rfl), hk]; rfl
  have hl3 : 3 ≤ (eK E n).length := by rw [hk]; simp
  have hlen := eK_len hT.1 hn
  refine jm_istore (pc := 110) dM_test_110 (by decide) ?_
  refine jm_iload (pc := 112) dM_test_112 rfl ?_
  refine jm_if_eq (pc := 114) (tgt := 125) dM_test_114 (by decide) (fun h114 => ?_) (fun h114 => ?_)
  · refine jm_iload (pc := 125) dM_test_125 rfl ?_
    refine jm_if_ne (pc := 127) (tgt := 177) dM_test_127 (by decide) (fun h127 => ?_) (fun h127 => ?_)
    · exact absurd rfl h127
    · refine jm_aload_n (pc := 130) dM_test_130 rfl ?_
      refine jm_getq (pc := 131) lM_90 dM_test_131 rfl rfl (hm 32 rfl) ?_
      refine jm_iload_n (pc := 134) dM_test_134 rfl ?_
      refine jm_iald (pc := 135) dM_test_135 rfl (by decide) rfl (fun _ => rfl) ?hin ?_
      case hin =>
        exact vp_in_nI (N := 40) (by omega) (by decide)
      rw [nI_clamp (by omega), hs]
      refine jm_iconst (pc := 136) (v := 1) dM_test_136 (by decide) ?_
      refine jm_icmp_ne (pc := 137) (tgt := 186) dM_test_137 (by decide) (fun h137 => ?_) (fun h137 => ?_)
      · refine jm_aload_n (pc := 186) dM_test_186 rfl ?_
        refine jm_getq (pc := 187) lM_90 dM_test_187 rfl rfl (hm 32 rfl) ?_
        refine jm_iload_n (pc := 190) dM_test_190 rfl ?_
        first | refine jm_dup2_2 (pc := 191) dM_test_191 rfl ?_ | refine jm_dup2_11 (pc := 191) dM_test_191 rfl rfl ?_
        refine jm_iald (pc := 192) dM_test_192 rfl (by decide) rfl (fun _ => rfl) ?hin ?_
        case hin =>
          exact vp_in_nI (N := 40) (by omega) (by decide)
        rw [nI_clamp (by omega), hs]
        refine jm_iconst (pc := 193) (v := 1) dM_test_193 (by decide) ?_
        refine jm_iadd (pc := 194) dM_test_194 ?_
        refine jm_iast (pc := 195) dM_test_195 rfl (by decide) rfl (fun _ => rfl) ?hin ?_
        case hin =>
          exact vp_in_nI (N := 40) (by omega) (by decide)
        rw [nI_clamp (by omega), show (0 : Int32) + 1 = 1 from by decide]
        refine jm_aload_n (pc := 196) dM_test_196 rfl ?_
        refine jm_getq (pc := 197) lM_90 dM_test_197 rfl rfl (hm 32 rfl) ?_
        refine jm_iload_n (pc := 200) dM_test_200 rfl ?_
        refine jm_iald (pc := 201) dM_test_201 rfl (by decide) rfl (fun _ => rfl) ?hin ?_
        case hin =>
          exact vp_in_nI (N := 40) (by omega) (by decide)
        rw [nI_clamp (by omega), show (sI st 38 0 F 1).1 38 0 F = 1 from sI_eq]
        refine jm_iconst (pc := 202) (v := 1) dM_test_202 (by decide) ?_
        refine jm_icmp_ne (pc := 203) (tgt := 218) dM_test_203 (by decide) (fun h203 => ?_) (fun h203 => ?_)
        · exact absurd rfl h203
        · refine jm_aload_n (pc := 206) dM_test_206 rfl ?_
          refine jm_iload_n (pc := 207) dM_test_207 rfl ?_
          refine jm_aload_n (pc := 208) dM_test_208 rfl ?_
          refine jm_getq (pc := 209) lM_62 dM_test_209 rfl rfl (hm 23 rfl) ?_
          refine jm_iload_n (pc := 212) dM_test_212 rfl ?_
          refine jm_lald (pc := 213) dM_test_213 rfl (by decide) rfl (fun _ => rfl) ?hin ?_
          case hin =>
            exact vp_in_nI (N := 250) (by omega) (by decide)
          rw [nI_clamp (by omega), show (sI st 38 0 F 1).2.1 29 0 n = S from hA]
          refine jm_callV (pc := 214) (c_M_tried (d := d - 1) (st := sI st 38 0 F 1) (hT.mv (MT.fI (E := E) (i := n) (F := F) (by omega) (Nat.le_refl F)).1) ha.1 ((sI_ne (by omega)).trans hF) (by omega) ((sI_ne (by omega)).trans htr) ht (by omega)) fM_tried vM_tried cM_207 dM_test_214 rfl rfl rfl rfl (by omega) ⟨Nat.le_refl _, Nat.le_refl _⟩ rfl (Nat.le_of_ble_eq_true rfl) (fun v s2 hq => ?_)
          obtain ⟨b9, rfl, hb9⟩ := tQ_v hq
          refine jm_zret (pc := 217) dM_test_217 rfl (hb9) ⟨Nat.le_refl _, Nat.le_refl _⟩ ?_
          exact hq
      · exact absurd h137 (by decide)
  · exact absurd rfl h114
set_option maxRecDepth 100000 in
set_option maxHeartbeats 4000000 in
theorem ct_test_1 {n F a b c : Nat} {r : List Nat} {t : Nat} {S A : Int64} (hT : TM E st) (hn : n < eN E) (hF40 : F + 1 < 40) (hF : st.1 5 0 38 = nI (F + 1)) (hk : eK E n = a :: b :: c :: r) (hA : st.2.1 29 0 n = S) (htr : st.1 5 0 39 = nI t) (ht : t ≤ 20000) (hd : 5 ≤ d) (hs : st.1 38 0 F = 1) (hB : st.2.1 30 0 a = A) : MS l D mM_test d 0 0 (fun v s' => ((A &&& nt S) &&& (eO E n ||| eI E c) = 0 ∧ tQ E b A t (F + 1) (sI st 38 0 F 2) v s') ∨ (¬ (A &&& nt S) &&& (eO E n ||| eI E c) = 0 ∧ v = some (vI 1) ∧ s' = ends st F n 0 0)) 0 0 110 [some (vR (some (5, 0))), some (vI (nI F)), some (vI (nI n)), some (vI (nI a)), some (vI (nI b)), some (vI (nI c)), some (vI (nI a)), none, none, none] [vI 0] st := by
  have hn250 : n < 250 := Nat.lt_of_lt_of_le hn hT.1.1
  have hm := hT.2.2.1
  obtain ⟨b1_, b2_, b3_, b4_, b5_, b6_, b7_, b8_⟩ := hT.2.2.2.2 n hn
  have ha := hT.1.kid hn (show a ∈ eK E n by rw [hk]; simp)
  have hb := hT.1.kid hn (show b ∈ eK E n by rw [hk]; simp)
  have hc := hT.1.kid hn (show c ∈ eK E n by rw [hk]; simp)
  have ha250 : a < 250 := Nat.lt_of_lt_of_le ha.1 hT.1.1
  have hb250 : b < 250 := Nat.lt_of_lt_of_le hb.1 hT.1.1
  have hc250 : c < 250 := Nat.lt_of_lt_of_le hc.1 hT.1.1
  have ea : st.1 19 0 n = nI a := by rw [b3_, hk]; rfl
  have eb : st.1 21 0 a = nI b := by rw [b4_ 0 a (by rw [hk]; rfl), hk]; rfl
  have ec : st.1 21 0 b = nI c := by rw [b4_ 1 b (by rw [hk]; rfl), hk]; rfl
  have hl3 : 3 ≤ (eK E n).length := by rw [hk]; simp
  have hlen := eK_len hT.1 hn
  refine jm_istore (pc := 110) dM_test_110 (by decide) ?_
  refine jm_iload (pc := 112) dM_test_112 rfl ?_
  refine jm_if_eq (pc := 114) (tgt := 125) dM_test_114 (by decide) (fun h114 => ?_) (fun h114 => ?_)
  · refine jm_iload (pc := 125) dM_test_125 rfl ?_
    refine jm_if_ne (pc := 127) (tgt := 177) dM_test_127 (by decide) (fun h127 => ?_) (fun h127 => ?_)
    · exact absurd rfl h127
    · refine jm_aload_n (pc := 130) dM_test_130 rfl ?_
      refine jm_getq (pc := 131) lM_90 dM_test_131 rfl rfl (hm 32 rfl) ?_
      refine jm_iload_n (pc := 134) dM_test_134 rfl ?_
      refine jm_iald (pc := 135) dM_test_135 rfl (by decide) rfl (fun _ => rfl) ?hin ?_
      case hin =>
        exact vp_in_nI (N := 40) (by omega) (by decide)
      rw [nI_clamp (by omega), hs]
      refine jm_iconst (pc := 136) (v := 1) dM_test_136 (by decide) ?_
      refine jm_icmp_ne (pc := 137) (tgt := 186) dM_test_137 (by decide) (fun h137 => ?_) (fun h137 => ?_)
      · exact absurd rfl h137
      · refine jm_aload_n (pc := 140) dM_test_140 rfl ?_
        refine jm_getq (pc := 141) lM_65 dM_test_141 rfl rfl (hm 24 rfl) ?_
        refine jm_iload_n (pc := 144) dM_test_144 rfl ?_
        refine jm_lald (pc := 145) dM_test_145 rfl (by decide) rfl (fun _ => rfl) ?hin ?_
        case hin =>
          exact vp_in_nI (N := 250) (by omega) (by decide)
        rw [nI_clamp (by omega), hB]
        refine jm_aload_n (pc := 146) dM_test_146 rfl ?_
        refine jm_getq (pc := 147) lM_62 dM_test_147 rfl rfl (hm 23 rfl) ?_
        refine jm_iload_n (pc := 150) dM_test_150 rfl ?_
        refine jm_lald (pc := 151) dM_test_151 rfl (by decide) rfl (fun _ => rfl) ?hin ?_
        case hin =>
          exact vp_in_nI (N := 250) (by omega) (by decide)
        rw [nI_clamp (by omega), hA]
        refine jm_ldc2 (pc := 152) dM_test_152 klM_215 ?_
        refine jm_lxor (pc := 155) dM_test_155 ?_
        refine jm_land (pc := 156) dM_test_156 ?_
        refine jm_aload_n (pc := 157) dM_test_157 rfl ?_
        refine jm_getq (pc := 158) lM_55 dM_test_158 rfl rfl (hm 21 rfl) ?_
        refine jm_iload_n (pc := 161) dM_test_161 rfl ?_
        refine jm_lald (pc := 162) dM_test_162 rfl (by decide) rfl (fun _ => rfl) ?hin ?_
        case hin =>
          exact vp_in_nI (N := 250) (by omega) (by decide)
        rw [nI_clamp (by omega), b7_]
        refine jm_aload_n (pc := 163) dM_test_163 rfl ?_
        refine jm_getq (pc := 164) lM_59 dM_test_164 rfl rfl (hm 22 rfl) ?_
        refine jm_iload (pc := 167) dM_test_167 rfl ?_
        refine jm_lald (pc := 169) dM_test_169 rfl (by decide) rfl (fun _ => rfl) ?hin ?_
        case hin =>
          exact vp_in_nI (N := 250) (by omega) (by decide)
        rw [nI_clamp (by omega), (hT.2.2.2.2 c hc.1).2.2.2.2.2.2.2]
        refine jm_lor (pc := 170) dM_test_170 ?_
        refine jm_land (pc := 171) dM_test_171 ?_
        refine jm_lconst (pc := 172) (v := 0) dM_test_172 (by decide) ?_
        refine jm_lcmp (pc := 173) dM_test_173 ?_
        refine jm_if_eq (pc := 174) (tgt := 186) dM_test_174 (by decide) (fun h174 => ?_) (fun h174 => ?_)
        · refine jm_aload_n (pc := 186) dM_test_186 rfl ?_
          refine jm_getq (pc := 187) lM_90 dM_test_187 rfl rfl (hm 32 rfl) ?_
          refine jm_iload_n (pc := 190) dM_test_190 rfl ?_
          first | refine jm_dup2_2 (pc := 191) dM_test_191 rfl ?_ | refine jm_dup2_11 (pc := 191) dM_test_191 rfl rfl ?_
          refine jm_iald (pc := 192) dM_test_192 rfl (by decide) rfl (fun _ => rfl) ?hin ?_
          case hin =>
            exact vp_in_nI (N := 40) (by omega) (by decide)
          rw [nI_clamp (by omega), hs]
          refine jm_iconst (pc := 193) (v := 1) dM_test_193 (by decide) ?_
          refine jm_iadd (pc := 194) dM_test_194 ?_
          refine jm_iast (pc := 195) dM_test_195 rfl (by decide) rfl (fun _ => rfl) ?hin ?_
          case hin =>
            exact vp_in_nI (N := 40) (by omega) (by decide)
          rw [nI_clamp (by omega), show (1 : Int32) + 1 = 2 from by decide]
          refine jm_aload_n (pc := 196) dM_test_196 rfl ?_
          refine jm_getq (pc := 197) lM_90 dM_test_197 rfl rfl (hm 32 rfl) ?_
          refine jm_iload_n (pc := 200) dM_test_200 rfl ?_
          refine jm_iald (pc := 201) dM_test_201 rfl (by decide) rfl (fun _ => rfl) ?hin ?_
          case hin =>
            exact vp_in_nI (N := 40) (by omega) (by decide)
          rw [nI_clamp (by omega), show (sI st 38 0 F 2).1 38 0 F = 2 from sI_eq]
          refine jm_iconst (pc := 202) (v := 1) dM_test_202 (by decide) ?_
          refine jm_icmp_ne (pc := 203) (tgt := 218) dM_test_203 (by decide) (fun h203 => ?_) (fun h203 => ?_)
          · refine jm_aload_n (pc := 218) dM_test_218 rfl ?_
            refine jm_getq (pc := 219) lM_90 dM_test_219 rfl rfl (hm 32 rfl) ?_
            refine jm_iload_n (pc := 222) dM_test_222 rfl ?_
            refine jm_iald (pc := 223) dM_test_223 rfl (by decide) rfl (fun _ => rfl) ?hin ?_
            case hin =>
              exact vp_in_nI (N := 40) (by omega) (by decide)
            rw [nI_clamp (by omega), show (sI st 38 0 F 2).1 38 0 F = 2 from sI_eq]
            refine jm_iconst (pc := 224) (v := 2) dM_test_224 (by decide) ?_
            refine jm_icmp_ne (pc := 225) (tgt := 241) dM_test_225 (by decide) (fun h225 => ?_) (fun h225 => ?_)
            · exact absurd rfl h225
            · refine jm_aload_n (pc := 228) dM_test_228 rfl ?_
              refine jm_iload (pc := 229) dM_test_229 rfl ?_
              refine jm_aload_n (pc := 231) dM_test_231 rfl ?_
              refine jm_getq (pc := 232) lM_65 dM_test_232 rfl rfl (hm 24 rfl) ?_
              refine jm_iload_n (pc := 235) dM_test_235 rfl ?_
              refine jm_lald (pc := 236) dM_test_236 rfl (by decide) rfl (fun _ => rfl) ?hin ?_
              case hin =>
                exact vp_in_nI (N := 250) (by omega) (by decide)
              rw [nI_clamp (by omega), show (sI st 38 0 F 2).2.1 30 0 a = A from hB]
              refine jm_callV (pc := 237) (c_M_tried (d := d - 1) (st := sI st 38 0 F 2) (hT.mv (MT.fI (E := E) (i := n) (F := F) (by omega) (Nat.le_refl F)).1) hb.1 ((sI_ne (by omega)).trans hF) (by omega) ((sI_ne (by omega)).trans htr) ht (by omega)) fM_tried vM_tried cM_207 dM_test_237 rfl rfl rfl rfl (by omega) ⟨Nat.le_refl _, Nat.le_refl _⟩ rfl (Nat.le_of_ble_eq_true rfl) (fun v s2 hq => ?_)
              obtain ⟨b9, rfl, hb9⟩ := tQ_v hq
              refine jm_zret (pc := 240) dM_test_240 rfl (hb9) ⟨Nat.le_refl _, Nat.le_refl _⟩ ?_
              exact Or.inl ⟨lg0.mp h174, hq⟩
          · exact absurd h203 (by decide)
        · refine jm_aload_n (pc := 177) dM_test_177 rfl ?_
          refine jm_iload_n (pc := 178) dM_test_178 rfl ?_
          refine jm_iconst (pc := 179) (v := 0) dM_test_179 (by decide) ?_
          refine jm_lconst (pc := 180) (v := 0) dM_test_180 (by decide) ?_
          refine jm_callV (pc := 181) (c_M_ended (d := d - 1) _ _ hm (by omega) hF (by first | exact Or.inl rfl | exact Or.inr rfl)) fM_ended vM_ended cM_211 dM_test_181 rfl rfl rfl rfl (by omega) ⟨Nat.le_refl _, Nat.le_refl _⟩ rfl (Nat.le_of_ble_eq_true rfl) (fun v s2 hq => ?_)
          obtain ⟨rfl, rfl⟩ := hq
          refine jm_iconst (pc := 184) (v := 1) dM_test_184 (by decide) ?_
          refine jm_zret (pc := 185) dM_test_185 rfl (by first | exact Or.inl rfl | exact Or.inr rfl | assumption) ⟨Nat.le_refl _, Nat.le_refl _⟩ ?_
          exact Or.inr ⟨fun q => h174 (lg0.mpr q), rfl, rfl⟩
  · exact absurd rfl h114
set_option maxRecDepth 100000 in
set_option maxHeartbeats 4000000 in
theorem ct_test_2 {n F a b c : Nat} {r : List Nat} {t : Nat} {S : Int64} (hT : TM E st) (hn : n < eN E) (hF40 : F + 1 < 40) (hF : st.1 5 0 38 = nI (F + 1)) (hk : eK E n = a :: b :: c :: r) (hA : st.2.1 29 0 n = S) (htr : st.1 5 0 39 = nI t) (ht : t ≤ 20000) (hd : 5 ≤ d) (hs : st.1 38 0 F = 2) : MS l D mM_test d 0 0 (tQ E c S t (F + 1) (sI st 38 0 F 3)) 0 0 110 [some (vR (some (5, 0))), some (vI (nI F)), some (vI (nI n)), some (vI (nI a)), some (vI (nI b)), some (vI (nI c)), some (vI (nI b)), none, none, none] [vI 0] st := by
  have hn250 : n < 250 := Nat.lt_of_lt_of_le hn hT.1.1
  have hm := hT.2.2.1
  obtain ⟨b1_, b2_, b3_, b4_, b5_, b6_, b7_, b8_⟩ := hT.2.2.2.2 n hn
  have ha := hT.1.kid hn (show a ∈ eK E n by rw [hk]; simp)
  have hb := hT.1.kid hn (show b ∈ eK E n by rw [hk]; simp)
  have hc := hT.1.kid hn (show c ∈ eK E n by rw [hk]; simp)
  have ha250 : a < 250 := Nat.lt_of_lt_of_le ha.1 hT.1.1
  have hb250 : b < 250 := Nat.lt_of_lt_of_le hb.1 hT.1.1
  have hc250 : c < 250 := Nat.lt_of_lt_of_le hc.1 hT.1.1
  have ea : st.1 19 0 n = nI a := by rw [b3_, hk]; rfl
  have eb : st.1 21 0 a = nI b := by rw [b4_ 0 a (by rw [hk]; rfl), hk]; rfl
  have ec : st.1 21 0 b = nI c := by rw [b4_ 1 b (by rw [hk]; rfl), hk]; rfl
  have hl3 : 3 ≤ (eK E n).length := by rw [hk]; simp
  have hlen := eK_len hT.1 hn
  refine jm_istore (pc := 110) dM_test_110 (by decide) ?_
  refine jm_iload (pc := 112) dM_test_112 rfl ?_
  refine jm_if_eq (pc := 114) (tgt := 125) dM_test_114 (by decide) (fun h114 => ?_) (fun h114 => ?_)
  · refine jm_iload (pc := 125) dM_test_125 rfl ?_
    refine jm_if_ne (pc := 127) (tgt := 177) dM_test_127 (by decide) (fun h127 => ?_) (fun h127 => ?_)
    · exact absurd rfl h127
    · refine jm_aload_n (pc := 130) dM_test_130 rfl ?_
      refine jm_getq (pc := 131) lM_90 dM_test_131 rfl rfl (hm 32 rfl) ?_
      refine jm_iload_n (pc := 134) dM_test_134 rfl ?_
      refine jm_iald (pc := 135) dM_test_135 rfl (by decide) rfl (fun _ => rfl) ?hin ?_
      case hin =>
        exact vp_in_nI (N := 40) (by omega) (by decide)
      rw [nI_clamp (by omega), hs]
      refine jm_iconst (pc := 136) (v := 1) dM_test_136 (by decide) ?_
      refine jm_icmp_ne (pc := 137) (tgt := 186) dM_test_137 (by decide) (fun h137 => ?_) (fun h137 => ?_)
      · refine jm_aload_n (pc := 186) dM_test_186 rfl ?_
        refine jm_getq (pc := 187) lM_90 dM_test_187 rfl rfl (hm 32 rfl) ?_
        refine jm_iload_n (pc := 190) dM_test_190 rfl ?_
        first | refine jm_dup2_2 (pc := 191) dM_test_191 rfl ?_ | refine jm_dup2_11 (pc := 191) dM_test_191 rfl rfl ?_
        refine jm_iald (pc := 192) dM_test_192 rfl (by decide) rfl (fun _ => rfl) ?hin ?_
        case hin =>
          exact vp_in_nI (N := 40) (by omega) (by decide)
        rw [nI_clamp (by omega), hs]
        refine jm_iconst (pc := 193) (v := 1) dM_test_193 (by decide) ?_
        refine jm_iadd (pc := 194) dM_test_194 ?_
        refine jm_iast (pc := 195) dM_test_195 rfl (by decide) rfl (fun _ => rfl) ?hin ?_
        case hin =>
          exact vp_in_nI (N := 40) (by omega) (by decide)
        rw [nI_clamp (by omega), show (2 : Int32) + 1 = 3 from by decide]
        refine jm_aload_n (pc := 196) dM_test_196 rfl ?_
        refine jm_getq (pc := 197) lM_90 dM_test_197 rfl rfl (hm 32 rfl) ?_
        refine jm_iload_n (pc := 200) dM_test_200 rfl ?_
        refine jm_iald (pc := 201) dM_test_201 rfl (by decide) rfl (fun _ => rfl) ?hin ?_
        case hin =>
          exact vp_in_nI (N := 40) (by omega) (by decide)
        rw [nI_clamp (by omega), show (sI st 38 0 F 3).1 38 0 F = 3 from sI_eq]
        refine jm_iconst (pc := 202) (v := 1) dM_test_202 (by decide) ?_
        refine jm_icmp_ne (pc := 203) (tgt := 218) dM_test_203 (by decide) (fun h203 => ?_) (fun h203 => ?_)
        · refine jm_aload_n (pc := 218) dM_test_218 rfl ?_
          refine jm_getq (pc := 219) lM_90 dM_test_219 rfl rfl (hm 32 rfl) ?_
          refine jm_iload_n (pc := 222) dM_test_222 rfl ?_
          refine jm_iald (pc := 223) dM_test_223 rfl (by decide) rfl (fun _ => rfl) ?hin ?_
          case hin =>
            exact vp_in_nI (N := 40) (by omega) (by decide)
          rw [nI_clamp (by omega), show (sI st 38 0 F 3).1 38 0 F = 3 from sI_eq]
          refine jm_iconst (pc := 224) (v := 2) dM_test_224 (by decide) ?_
          refine jm_icmp_ne (pc := 225) (tgt := 241) dM_test_225 (by decide) (fun h225 => ?_) (fun h225 => ?_)
          · refine jm_aload_n (pc := 241) dM_test_241 rfl ?_
            refine jm_getq (pc := 242) lM_90 dM_test_242 rfl rfl (hm 32 rfl) ?_
            refine jm_iload_n (pc := 245) dM_test_245 rfl ?_
            refine jm_iald (pc := 246) dM_test_246 rfl (by decide) rfl (fun _ => rfl) ?hin ?_
            case hin =>
              exact vp_in_nI (N := 40) (by omega) (by decide)
            rw [nI_clamp (by omega), show (sI st 38 0 F 3).1 38 0 F = 3 from sI_eq]
            refine jm_iconst (pc := 247) (v := 3) dM_test_247 (by decide) ?_
            refine jm_icmp_ne (pc := 248) (tgt := 264) dM_test_248 (by decide) (fun h248 => ?_) (fun h248 => ?_)
            · exact absurd rfl h248
            · refine jm_aload_n (pc := 251) dM_test_251 rfl ?_
              refine jm_iload (pc := 252) dM_test_252 rfl ?_
              refine jm_aload_n (pc := 254) dM_test_254 rfl ?_
              refine jm_getq (pc := 255) lM_62 dM_test_255 rfl rfl (hm 23 rfl) ?_
              refine jm_iload_n (pc := 258) dM_test_258 rfl ?_
              refine jm_lald (pc := 259) dM_test_259 rfl (by decide) rfl (fun _ => rfl) ?hin ?_
              case hin =>
                exact vp_in_nI (N := 250) (by omega) (by decide)
              rw [nI_clamp (by omega), show (sI st 38 0 F 3).2.1 29 0 n = S from hA]
              refine jm_callV (pc := 260) (c_M_tried (d := d - 1) (st := sI st 38 0 F 3) (hT.mv (MT.fI (E := E) (i := n) (F := F) (by omega) (Nat.le_refl F)).1) hc.1 ((sI_ne (by omega)).trans hF) (by omega) ((sI_ne (by omega)).trans htr) ht (by omega)) fM_tried vM_tried cM_207 dM_test_260 rfl rfl rfl rfl (by omega) ⟨Nat.le_refl _, Nat.le_refl _⟩ rfl (Nat.le_of_ble_eq_true rfl) (fun v s2 hq => ?_)
              obtain ⟨b9, rfl, hb9⟩ := tQ_v hq
              refine jm_zret (pc := 263) dM_test_263 rfl (hb9) ⟨Nat.le_refl _, Nat.le_refl _⟩ ?_
              exact hq
          · exact absurd h225 (by decide)
        · exact absurd h203 (by decide)
      · exact absurd h137 (by decide)
  · exact absurd rfl h114
set_option maxRecDepth 100000 in
set_option maxHeartbeats 4000000 in
theorem ct_test_3 {n F a b c : Nat} {r : List Nat} {t : Nat} {S B C : Int64} (hT : TM E st) (hn : n < eN E) (hF40 : F + 1 < 40) (hF : st.1 5 0 38 = nI (F + 1)) (hk : eK E n = a :: b :: c :: r) (hA : st.2.1 29 0 n = S) (htr : st.1 5 0 39 = nI t) (ht : t ≤ 20000) (hd : 5 ≤ d) (hs : st.1 38 0 F = 3) (hB : st.2.1 30 0 b = B) (hC : st.2.1 30 0 c = C) : MS l D mM_test d 0 0 (fun v s' => v = some (vI 1) ∧ s' = ends (sI st 38 0 F 4) F n (jb (B &&& (eO E n &&& nt S) = C &&& (eO E n &&& nt S))) (S ||| (B &&& C &&& (eO E n &&& nt S)))) 0 0 110 [some (vR (some (5, 0))), some (vI (nI F)), some (vI (nI n)), some (vI (nI a)), some (vI (nI b)), some (vI (nI c)), some (vI (nI c)), none, none, none] [vI 0] st := by
  have hn250 : n < 250 := Nat.lt_of_lt_of_le hn hT.1.1
  have hm := hT.2.2.1
  obtain ⟨b1_, b2_, b3_, b4_, b5_, b6_, b7_, b8_⟩ := hT.2.2.2.2 n hn
  have ha := hT.1.kid hn (show a ∈ eK E n by rw [hk]; simp)
  have hb := hT.1.kid hn (show b ∈ eK E n by rw [hk]; simp)
  have hc := hT.1.kid hn (show c ∈ eK E n by rw [hk]; simp)
  have ha250 : a < 250 := Nat.lt_of_lt_of_le ha.1 hT.1.1
  have hb250 : b < 250 := Nat.lt_of_lt_of_le hb.1 hT.1.1
  have hc250 : c < 250 := Nat.lt_of_lt_of_le hc.1 hT.1.1
  have ea : st.1 19 0 n = nI a := by rw [b3_, hk]; rfl
  have eb : st.1 21 0 a = nI b := by rw [b4_ 0 a (by rw [hk]; rfl), hk]; rfl
  have ec : st.1 21 0 b = nI c := by rw [b4_ 1 b (by rw [hk]; rfl), hk]; rfl
  have hl3 : 3 ≤ (eK E n).length := by rw [hk]; simp
  have hlen := eK_len hT.1 hn
  refine jm_istore (pc := 110) dM_test_110 (by decide) ?_
  refine jm_iload (pc := 112) dM_test_112 rfl ?_
  refine jm_if_eq (pc := 114) (tgt := 125) dM_test_114 (by decide) (fun h114 => ?_) (fun h114 => ?_)
  · refine jm_iload (pc := 125) dM_test_125 rfl ?_
    refine jm_if_ne (pc := 127) (tgt := 177) dM_test_127 (by decide) (fun h127 => ?_) (fun h127 => ?_)
    · exact absurd rfl h127
    · refine jm_aload_n (pc := 130) dM_test_130 rfl ?_
      refine jm_getq (pc := 131) lM_90 dM_test_131 rfl rfl (hm 32 rfl) ?_
      refine jm_iload_n (pc := 134) dM_test_134 rfl ?_
      refine jm_iald (pc := 135) dM_test_135 rfl (by decide) rfl (fun _ => rfl) ?hin ?_
      case hin =>
        exact vp_in_nI (N := 40) (by omega) (by decide)
      rw [nI_clamp (by omega), hs]
      refine jm_iconst (pc := 136) (v := 1) dM_test_136 (by decide) ?_
      refine jm_icmp_ne (pc := 137) (tgt := 186) dM_test_137 (by decide) (fun h137 => ?_) (fun h137 => ?_)
      · refine jm_aload_n (pc := 186) dM_test_186 rfl ?_
        refine jm_getq (pc := 187) lM_90 dM_test_187 rfl rfl (hm 32 rfl) ?_
        refine jm_iload_n (pc := 190) dM_test_190 rfl ?_
        first | refine jm_dup2_2 (pc := 191) dM_test_191 rfl ?_ | refine jm_dup2_11 (pc := 191) dM_test_191 rfl rfl ?_
        refine jm_iald (pc := 192) dM_test_192 rfl (by decide) rfl (fun _ => rfl) ?hin ?_
        case hin =>
          exact vp_in_nI (N := 40) (by omega) (by decide)
        rw [nI_clamp (by omega), hs]
        refine jm_iconst (pc := 193) (v := 1) dM_test_193 (by decide) ?_
        refine jm_iadd (pc := 194) dM_test_194 ?_
        refine jm_iast (pc := 195) dM_test_195 rfl (by decide) rfl (fun _ => rfl) ?hin ?_
        case hin =>
          exact vp_in_nI (N := 40) (by omega) (by decide)
        rw [nI_clamp (by omega), show (3 : Int32) + 1 = 4 from by decide]
        refine jm_aload_n (pc := 196) dM_test_196 rfl ?_
        refine jm_getq (pc := 197) lM_90 dM_test_197 rfl rfl (hm 32 rfl) ?_
        refine jm_iload_n (pc := 200) dM_test_200 rfl ?_
        refine jm_iald (pc := 201) dM_test_201 rfl (by decide) rfl (fun _ => rfl) ?hin ?_
        case hin =>
          exact vp_in_nI (N := 40) (by omega) (by decide)
        rw [nI_clamp (by omega), show (sI st 38 0 F 4).1 38 0 F = 4 from sI_eq]
        refine jm_iconst (pc := 202) (v := 1) dM_test_202 (by decide) ?_
        refine jm_icmp_ne (pc := 203) (tgt := 218) dM_test_203 (by decide) (fun h203 => ?_) (fun h203 => ?_)
        · refine jm_aload_n (pc := 218) dM_test_218 rfl ?_
          refine jm_getq (pc := 219) lM_90 dM_test_219 rfl rfl (hm 32 rfl) ?_
          refine jm_iload_n (pc := 222) dM_test_222 rfl ?_
          refine jm_iald (pc := 223) dM_test_223 rfl (by decide) rfl (fun _ => rfl) ?hin ?_
          case hin =>
            exact vp_in_nI (N := 40) (by omega) (by decide)
          rw [nI_clamp (by omega), show (sI st 38 0 F 4).1 38 0 F = 4 from sI_eq]
          refine jm_iconst (pc := 224) (v := 2) dM_test_224 (by decide) ?_
          refine jm_icmp_ne (pc := 225) (tgt := 241) dM_test_225 (by decide) (fun h225 => ?_) (fun h225 => ?_)
          · refine jm_aload_n (pc := 241) dM_test_241 rfl ?_
            refine jm_getq (pc := 242) lM_90 dM_test_242 rfl rfl (hm 32 rfl) ?_
            refine jm_iload_n (pc := 245) dM_test_245 rfl ?_
            refine jm_iald (pc := 246) dM_test_246 rfl (by decide) rfl (fun _ => rfl) ?hin ?_
            case hin =>
              exact vp_in_nI (N := 40) (by omega) (by decide)
            rw [nI_clamp (by omega), show (sI st 38 0 F 4).1 38 0 F = 4 from sI_eq]
            refine jm_iconst (pc := 247) (v := 3) dM_test_247 (by decide) ?_
            refine jm_icmp_ne (pc := 248) (tgt := 264) dM_test_248 (by decide) (fun h248 => ?_) (fun h248 => ?_)
            · refine jm_aload_n (pc := 264) dM_test_264 rfl ?_
              refine jm_getq (pc := 265) lM_55 dM_test_265 rfl rfl (hm 21 rfl) ?_
              refine jm_iload_n (pc := 268) dM_test_268 rfl ?_
              refine jm_lald (pc := 269) dM_test_269 rfl (by decide) rfl (fun _ => rfl) ?hin ?_
              case hin =>
                exact vp_in_nI (N := 250) (by omega) (by decide)
              rw [nI_clamp (by omega), show (sI st 38 0 F 4).2.1 27 0 n = eO E n from b7_]
              refine jm_aload_n (pc := 270) dM_test_270 rfl ?_
              refine jm_getq (pc := 271) lM_62 dM_test_271 rfl rfl (hm 23 rfl) ?_
              refine jm_iload_n (pc := 274) dM_test_274 rfl ?_
              refine jm_lald (pc := 275) dM_test_275 rfl (by decide) rfl (fun _ => rfl) ?hin ?_
              case hin =>
                exact vp_in_nI (N := 250) (by omega) (by decide)
              rw [nI_clamp (by omega), show (sI st 38 0 F 4).2.1 29 0 n = S from hA]
              refine jm_ldc2 (pc := 276) dM_test_276 klM_215 ?_
              refine jm_lxor (pc := 279) dM_test_279 ?_
              refine jm_land (pc := 280) dM_test_280 ?_
              refine jm_lstore (pc := 281) dM_test_281 (by decide) ?_
              refine jm_aload_n (pc := 283) dM_test_283 rfl ?_
              refine jm_iload_n (pc := 284) dM_test_284 rfl ?_
              refine jm_aload_n (pc := 285) dM_test_285 rfl ?_
              refine jm_getq (pc := 286) lM_65 dM_test_286 rfl rfl (hm 24 rfl) ?_
              refine jm_iload (pc := 289) dM_test_289 rfl ?_
              refine jm_lald (pc := 291) dM_test_291 rfl (by decide) rfl (fun _ => rfl) ?hin ?_
              case hin =>
                exact vp_in_nI (N := 250) (by omega) (by decide)
              rw [nI_clamp (by omega), show (sI st 38 0 F 4).2.1 30 0 b = B from hB]
              refine jm_lload (pc := 292) dM_test_292 rfl ?_
              refine jm_land (pc := 294) dM_test_294 ?_
              refine jm_aload_n (pc := 295) dM_test_295 rfl ?_
              refine jm_getq (pc := 296) lM_65 dM_test_296 rfl rfl (hm 24 rfl) ?_
              refine jm_iload (pc := 299) dM_test_299 rfl ?_
              refine jm_lald (pc := 301) dM_test_301 rfl (by decide) rfl (fun _ => rfl) ?hin ?_
              case hin =>
                exact vp_in_nI (N := 250) (by omega) (by decide)
              rw [nI_clamp (by omega), show (sI st 38 0 F 4).2.1 30 0 c = C from hC]
              refine jm_lload (pc := 302) dM_test_302 rfl ?_
              refine jm_land (pc := 304) dM_test_304 ?_
              refine jm_lcmp (pc := 305) dM_test_305 ?_
              refine jm_if_ne (pc := 306) (tgt := 313) dM_test_306 (by decide) (fun h306 => ?_) (fun h306 => ?_)
              · refine jm_iconst (pc := 313) (v := 0) dM_test_313 (by decide) ?_
                refine jm_aload_n (pc := 314) dM_test_314 rfl ?_
                refine jm_getq (pc := 315) lM_62 dM_test_315 rfl rfl (hm 23 rfl) ?_
                refine jm_iload_n (pc := 318) dM_test_318 rfl ?_
                refine jm_lald (pc := 319) dM_test_319 rfl (by decide) rfl (fun _ => rfl) ?hin ?_
                case hin =>
                  exact vp_in_nI (N := 250) (by omega) (by decide)
                rw [nI_clamp (by omega), show (sI st 38 0 F 4).2.1 29 0 n = S from hA]
                refine jm_aload_n (pc := 320) dM_test_320 rfl ?_
                refine jm_getq (pc := 321) lM_65 dM_test_321 rfl rfl (hm 24 rfl) ?_
                refine jm_iload (pc := 324) dM_test_324 rfl ?_
                refine jm_lald (pc := 326) dM_test_326 rfl (by decide) rfl (fun _ => rfl) ?hin ?_
                case hin =>
                  exact vp_in_nI (N := 250) (by omega) (by decide)
                rw [nI_clamp (by omega), show (sI st 38 0 F 4).2.1 30 0 b = B from hB]
                refine jm_aload_n (pc := 327) dM_test_327 rfl ?_
                refine jm_getq (pc := 328) lM_65 dM_test_328 rfl rfl (hm 24 rfl) ?_
                refine jm_iload (pc := 331) dM_test_331 rfl ?_
                refine jm_lald (pc := 333) dM_test_333 rfl (by decide) rfl (fun _ => rfl) ?hin ?_
                case hin =>
                  exact vp_in_nI (N := 250) (by omega) (by decide)
                rw [nI_clamp (by omega), show (sI st 38 0 F 4).2.1 30 0 c = C from hC]
                refine jm_land (pc := 334) dM_test_334 ?_
                refine jm_lload (pc := 335) dM_test_335 rfl ?_
                refine jm_land (pc := 337) dM_test_337 ?_
                refine jm_lor (pc := 338) dM_test_338 ?_
                refine jm_callV (pc := 339) (c_M_ended (d := d - 1) _ _ hm (by omega) ((sI_ne (by omega)).trans hF) (by first | exact Or.inl rfl | exact Or.inr rfl)) fM_ended vM_ended cM_211 dM_test_339 rfl rfl rfl rfl (by omega) ⟨Nat.le_refl _, Nat.le_refl _⟩ rfl (Nat.le_of_ble_eq_true rfl) (fun v s2 hq => ?_)
                obtain ⟨rfl, rfl⟩ := hq
                refine jm_iconst (pc := 342) (v := 1) dM_test_342 (by decide) ?_
                refine jm_zret (pc := 343) dM_test_343 rfl (by first | exact Or.inl rfl | exact Or.inr rfl | assumption) ⟨Nat.le_refl _, Nat.le_refl _⟩ ?_
                refine ⟨rfl, ?_⟩
                first
                  | (rw [jb_t (p := B &&& (eO E n &&& nt S) = C &&& (eO E n &&& nt S)) (lg1.mp h306)]; rfl)
                  | (rw [jb_f (p := B &&& (eO E n &&& nt S) = C &&& (eO E n &&& nt S)) (fun w => h306 (lg1.mpr w))]; rfl)
              · refine jm_iconst (pc := 309) (v := 1) dM_test_309 (by decide) ?_
                refine jm_goto (pc := 310) (tgt := 314) dM_test_310 (by decide) ?_
                refine jm_aload_n (pc := 314) dM_test_314 rfl ?_
                refine jm_getq (pc := 315) lM_62 dM_test_315 rfl rfl (hm 23 rfl) ?_
                refine jm_iload_n (pc := 318) dM_test_318 rfl ?_
                refine jm_lald (pc := 319) dM_test_319 rfl (by decide) rfl (fun _ => rfl) ?hin ?_
                case hin =>
                  exact vp_in_nI (N := 250) (by omega) (by decide)
                rw [nI_clamp (by omega), show (sI st 38 0 F 4).2.1 29 0 n = S from hA]
                refine jm_aload_n (pc := 320) dM_test_320 rfl ?_
                refine jm_getq (pc := 321) lM_65 dM_test_321 rfl rfl (hm 24 rfl) ?_
                refine jm_iload (pc := 324) dM_test_324 rfl ?_
                refine jm_lald (pc := 326) dM_test_326 rfl (by decide) rfl (fun _ => rfl) ?hin ?_
                case hin =>
                  exact vp_in_nI (N := 250) (by omega) (by decide)
                rw [nI_clamp (by omega), show (sI st 38 0 F 4).2.1 30 0 b = B from hB]
                refine jm_aload_n (pc := 327) dM_test_327 rfl ?_
                refine jm_getq (pc := 328) lM_65 dM_test_328 rfl rfl (hm 24 rfl) ?_
                refine jm_iload (pc := 331) dM_test_331 rfl ?_
                refine jm_lald (pc := 333) dM_test_333 rfl (by decide) rfl (fun _ => rfl) ?hin ?_
                case hin =>
                  exact vp_in_nI (N := 250) (by omega) (by decide)
                rw [nI_clamp (by omega), show (sI st 38 0 F 4).2.1 30 0 c = C from hC]
                refine jm_land (pc := 334) dM_test_334 ?_
                refine jm_lload (pc := 335) dM_test_335 rfl ?_
                refine jm_land (pc := 337) dM_test_337 ?_
                refine jm_lor (pc := 338) dM_test_338 ?_
                refine jm_callV (pc := 339) (c_M_ended (d := d - 1) _ _ hm (by omega) ((sI_ne (by omega)).trans hF) (by first | exact Or.inl rfl | exact Or.inr rfl)) fM_ended vM_ended cM_211 dM_test_339 rfl rfl rfl rfl (by omega) ⟨Nat.le_refl _, Nat.le_refl _⟩ rfl (Nat.le_of_ble_eq_true rfl) (fun v s2 hq => ?_)
                obtain ⟨rfl, rfl⟩ := hq
                refine jm_iconst (pc := 342) (v := 1) dM_test_342 (by decide) ?_
                refine jm_zret (pc := 343) dM_test_343 rfl (by first | exact Or.inl rfl | exact Or.inr rfl | assumption) ⟨Nat.le_refl _, Nat.le_refl _⟩ ?_
                refine ⟨rfl, ?_⟩
                first
                  | (rw [jb_t (p := B &&& (eO E n &&& nt S) = C &&& (eO E n &&& nt S)) (lg1.mp h306)]; rfl)
                  | (rw [jb_f (p := B &&& (eO E n &&& nt S) = C &&& (eO E n &&& nt S)) (fun w => h306 (lg1.mpr w))]; rfl)
            · exact absurd h248 (by decide)
          · exact absurd h225 (by decide)
        · exact absurd h203 (by decide)
      · exact absurd h137 (by decide)
  · exact absurd rfl h114
set_option maxRecDepth 100000 in
set_option maxHeartbeats 4000000 in
theorem c_M_test_0 {n F a b c : Nat} {r : List Nat} {t : Nat} {S : Int64} (hT : TM E st) (hn : n < eN E) (hF40 : F + 1 < 40) (hF : st.1 5 0 38 = nI (F + 1)) (hk : eK E n = a :: b :: c :: r) (hA : st.2.1 29 0 n = S) (htr : st.1 5 0 39 = nI t) (ht : t ≤ 20000) (hd : 5 ≤ d) (hs : st.1 38 0 F = 0) : MC l D mM_test d 0 0 [vR (some (5, 0)), vI (nI F), vI (nI n)] st (tQ E a S t (F + 1) (sI st 38 0 F 1)) := by
  refine jm_start (ls0 := [some (vR (some (5, 0))), some (vI (nI F)), some (vI (nI n)), none, none, none, none, none, none, none]) (by decide) (Nat.le_of_ble_eq_true rfl) rfl ?_
  have hn250 : n < 250 := Nat.lt_of_lt_of_le hn hT.1.1
  have hm := hT.2.2.1
  obtain ⟨b1_, b2_, b3_, b4_, b5_, b6_, b7_, b8_⟩ := hT.2.2.2.2 n hn
  have ha := hT.1.kid hn (show a ∈ eK E n by rw [hk]; simp)
  have hb := hT.1.kid hn (show b ∈ eK E n by rw [hk]; simp)
  have hc := hT.1.kid hn (show c ∈ eK E n by rw [hk]; simp)
  have ha250 : a < 250 := Nat.lt_of_lt_of_le ha.1 hT.1.1
  have hb250 : b < 250 := Nat.lt_of_lt_of_le hb.1 hT.1.1
  have hc250 : c < 250 := Nat.lt_of_lt_of_le hc.1 hT.1.1
  have ea : st.1 19 0 n = nI a := by rw [b3_, hk]; rfl
  have eb : st.1 21 0 a = nI b := by rw [b4_ 0 a (by rw [hk]; rfl), hk]; rfl
  have ec : st.1 21 0 b = nI c := by rw [b4_ 1 b (by rw [hk]; rfl), hk]; rfl
  have hl3 : 3 ≤ (eK E n).length := by rw [hk]; simp
  have hlen := eK_len hT.1 hn
  refine jm_aload_n (pc := 0) dM_test_0 rfl ?_
  refine jm_getq (pc := 1) lM_28 dM_test_1 rfl rfl (hm 9 rfl) ?_
  refine jm_iload_n (pc := 4) dM_test_4 rfl ?_
  refine jm_iald (pc := 5) dM_test_5 rfl (by decide) rfl (fun _ => rfl) ?hin ?_
  case hin =>
    exact vp_in_nI (N := 250) (by omega) (by decide)
  rw [nI_clamp (by omega), b2_]
  refine jm_iconst (pc := 6) (v := 3) dM_test_6 (by decide) ?_
  refine jm_icmp_ge (pc := 7) (tgt := 19) dM_test_7 (by decide) (fun h7 => ?_) (fun h7 => ?_)
  · refine jm_aload_n (pc := 19) dM_test_19 rfl ?_
    refine jm_getq (pc := 20) lM_31 dM_test_20 rfl rfl (hm 10 rfl) ?_
    refine jm_iload_n (pc := 23) dM_test_23 rfl ?_
    refine jm_iald (pc := 24) dM_test_24 rfl (by decide) rfl (fun _ => rfl) ?hin ?_
    case hin =>
      exact vp_in_nI (N := 250) (by omega) (by decide)
    rw [nI_clamp (by omega), ea]
    refine jm_istore_n (pc := 25) dM_test_25 (by decide) ?_
    refine jm_aload_n (pc := 26) dM_test_26 rfl ?_
    refine jm_getq (pc := 27) lM_37 dM_test_27 rfl rfl (hm 12 rfl) ?_
    refine jm_iload_n (pc := 30) dM_test_30 rfl ?_
    refine jm_iald (pc := 31) dM_test_31 rfl (by decide) rfl (fun _ => rfl) ?hin ?_
    case hin =>
      exact vp_in_nI (N := 250) (by omega) (by decide)
    rw [nI_clamp (by omega), eb]
    refine jm_istore (pc := 32) dM_test_32 (by decide) ?_
    refine jm_aload_n (pc := 34) dM_test_34 rfl ?_
    refine jm_getq (pc := 35) lM_37 dM_test_35 rfl rfl (hm 12 rfl) ?_
    refine jm_iload (pc := 38) dM_test_38 rfl ?_
    refine jm_iald (pc := 40) dM_test_40 rfl (by decide) rfl (fun _ => rfl) ?hin ?_
    case hin =>
      exact vp_in_nI (N := 250) (by omega) (by decide)
    rw [nI_clamp (by omega), ec]
    refine jm_istore (pc := 41) dM_test_41 (by decide) ?_
    refine jm_aload_n (pc := 43) dM_test_43 rfl ?_
    refine jm_getq (pc := 44) lM_90 dM_test_44 rfl rfl (hm 32 rfl) ?_
    refine jm_iload_n (pc := 47) dM_test_47 rfl ?_
    refine jm_iald (pc := 48) dM_test_48 rfl (by decide) rfl (fun _ => rfl) ?hin ?_
    case hin =>
      exact vp_in_nI (N := 40) (by omega) (by decide)
    rw [nI_clamp (by omega), hs]
    refine jm_if_ne (pc := 49) (tgt := 56) dM_test_49 (by decide) (fun h49 => ?_) (fun h49 => ?_)
    · exact absurd rfl h49
    · refine jm_iconst (pc := 52) (v := -1) dM_test_52 (by decide) ?_
      refine jm_goto (pc := 53) (tgt := 87) dM_test_53 (by decide) ?_
      refine jm_istore (pc := 87) dM_test_87 (by decide) ?_
      refine jm_iload (pc := 89) dM_test_89 rfl ?_
      refine jm_iconst (pc := 91) (v := -1) dM_test_91 (by decide) ?_
      refine jm_icmp_eq (pc := 92) (tgt := 109) dM_test_92 (by decide) (fun h92 => ?_) (fun h92 => ?_)
      · refine jm_iconst (pc := 109) (v := 0) dM_test_109 (by decide) ?_
        exact ct_test_0 hT hn hF40 hF hk hA htr ht hd hs
      · exact absurd rfl h92
  · exact absurd (nI_le hl3 (by omega)) h7
set_option maxRecDepth 100000 in
set_option maxHeartbeats 4000000 in
theorem c_M_test_1 {n F a b c : Nat} {r : List Nat} {t : Nat} {S A : Int64} {g : Int32} (hT : TM E st) (hn : n < eN E) (hF40 : F + 1 < 40) (hF : st.1 5 0 38 = nI (F + 1)) (hk : eK E n = a :: b :: c :: r) (hA : st.2.1 29 0 n = S) (htr : st.1 5 0 39 = nI t) (ht : t ≤ 20000) (hd : 5 ≤ d) (hs : st.1 38 0 F = 1) (hg : st.1 31 0 a = g) (hB : st.2.1 30 0 a = A) : MC l D mM_test d 0 0 [vR (some (5, 0)), vI (nI F), vI (nI n)] st (fun v s' => (g = 0 ∧ v = some (vI 1) ∧ s' = ends (sI st 36 0 n (nI a)) F n 0 0) ∨ (¬ g = 0 ∧ (((A &&& nt S) &&& (eO E n ||| eI E c) = 0 ∧ tQ E b A t (F + 1) (sI st 38 0 F 2) v s') ∨ (¬ (A &&& nt S) &&& (eO E n ||| eI E c) = 0 ∧ v = some (vI 1) ∧ s' = ends st F n 0 0)))) := by
  refine jm_start (ls0 := [some (vR (some (5, 0))), some (vI (nI F)), some (vI (nI n)), none, none, none, none, none, none, none]) (by decide) (Nat.le_of_ble_eq_true rfl) rfl ?_
  have hn250 : n < 250 := Nat.lt_of_lt_of_le hn hT.1.1
  have hm := hT.2.2.1
  obtain ⟨b1_, b2_, b3_, b4_, b5_, b6_, b7_, b8_⟩ := hT.2.2.2.2 n hn
  have ha := hT.1.kid hn (show a ∈ eK E n by rw [hk]; simp)
  have hb := hT.1.kid hn (show b ∈ eK E n by rw [hk]; simp)
  have hc := hT.1.kid hn (show c ∈ eK E n by rw [hk]; simp)
  have ha250 : a < 250 := Nat.lt_of_lt_of_le ha.1 hT.1.1
  have hb250 : b < 250 := Nat.lt_of_lt_of_le hb.1 hT.1.1
  have hc250 : c < 250 := Nat.lt_of_lt_of_le hc.1 hT.1.1
  have ea : st.1 19 0 n = nI a := by rw [b3_, hk]; rfl
  have eb : st.1 21 0 a = nI b := by rw [b4_ 0 a (by rw [hk]; rfl), hk]; rfl
  have ec : st.1 21 0 b = nI c := by rw [b4_ 1 b (by rw [hk]; rfl), hk]; rfl
  have hl3 : 3 ≤ (eK E n).length := by rw [hk]; simp
  have hlen := eK_len hT.1 hn
  refine jm_aload_n (pc := 0) dM_test_0 rfl ?_
  refine jm_getq (pc := 1) lM_28 dM_test_1 rfl rfl (hm 9 rfl) ?_
  refine jm_iload_n (pc := 4) dM_test_4 rfl ?_
  refine jm_iald (pc := 5) dM_test_5 rfl (by decide) rfl (fun _ => rfl) ?hin ?_
  case hin =>
    exact vp_in_nI (N := 250) (by omega) (by decide)
  rw [nI_clamp (by omega), b2_]
  refine jm_iconst (pc := 6) (v := 3) dM_test_6 (by decide) ?_
  refine jm_icmp_ge (pc := 7) (tgt := 19) dM_test_7 (by decide) (fun h7 => ?_) (fun h7 => ?_)
  · refine jm_aload_n (pc := 19) dM_test_19 rfl ?_
    refine jm_getq (pc := 20) lM_31 dM_test_20 rfl rfl (hm 10 rfl) ?_
    refine jm_iload_n (pc := 23) dM_test_23 rfl ?_
    refine jm_iald (pc := 24) dM_test_24 rfl (by decide) rfl (fun _ => rfl) ?hin ?_
    case hin =>
      exact vp_in_nI (N := 250) (by omega) (by decide)
    rw [nI_clamp (by omega), ea]
    refine jm_istore_n (pc := 25) dM_test_25 (by decide) ?_
    refine jm_aload_n (pc := 26) dM_test_26 rfl ?_
    refine jm_getq (pc := 27) lM_37 dM_test_27 rfl rfl (hm 12 rfl) ?_
    refine jm_iload_n (pc := 30) dM_test_30 rfl ?_
    refine jm_iald (pc := 31) dM_test_31 rfl (by decide) rfl (fun _ => rfl) ?hin ?_
    case hin =>
      exact vp_in_nI (N := 250) (by omega) (by decide)
    rw [nI_clamp (by omega), eb]
    refine jm_istore (pc := 32) dM_test_32 (by decide) ?_
    refine jm_aload_n (pc := 34) dM_test_34 rfl ?_
    refine jm_getq (pc := 35) lM_37 dM_test_35 rfl rfl (hm 12 rfl) ?_
    refine jm_iload (pc := 38) dM_test_38 rfl ?_
    refine jm_iald (pc := 40) dM_test_40 rfl (by decide) rfl (fun _ => rfl) ?hin ?_
    case hin =>
      exact vp_in_nI (N := 250) (by omega) (by decide)
    rw [nI_clamp (by omega), ec]
    refine jm_istore (pc := 41) dM_test_41 (by decide) ?_
    refine jm_aload_n (pc := 43) dM_test_43 rfl ?_
    refine jm_getq (pc := 44) lM_90 dM_test_44 rfl rfl (hm 32 rfl) ?_
    refine jm_iload_n (pc := 47) dM_test_47 rfl ?_
    refine jm_iald (pc := 48) dM_test_48 rfl (by decide) rfl (fun _ => rfl) ?hin ?_
    case hin =>
      exact vp_in_nI (N := 40) (by omega) (by decide)
    rw [nI_clamp (by omega), hs]
    refine jm_if_ne (pc := 49) (tgt := 56) dM_test_49 (by decide) (fun h49 => ?_) (fun h49 => ?_)
    · refine jm_aload_n (pc := 56) dM_test_56 rfl ?_
      refine jm_getq (pc := 57) lM_90 dM_test_57 rfl rfl (hm 32 rfl) ?_
      refine jm_iload_n (pc := 60) dM_test_60 rfl ?_
      refine jm_iald (pc := 61) dM_test_61 rfl (by decide) rfl (fun _ => rfl) ?hin ?_
      case hin =>
        exact vp_in_nI (N := 40) (by omega) (by decide)
      rw [nI_clamp (by omega), hs]
      refine jm_iconst (pc := 62) (v := 1) dM_test_62 (by decide) ?_
      refine jm_icmp_ne (pc := 63) (tgt := 70) dM_test_63 (by decide) (fun h63 => ?_) (fun h63 => ?_)
      · exact absurd rfl h63
      · refine jm_iload_n (pc := 66) dM_test_66 rfl ?_
        refine jm_goto (pc := 67) (tgt := 87) dM_test_67 (by decide) ?_
        refine jm_istore (pc := 87) dM_test_87 (by decide) ?_
        refine jm_iload (pc := 89) dM_test_89 rfl ?_
        refine jm_iconst (pc := 91) (v := -1) dM_test_91 (by decide) ?_
        refine jm_icmp_eq (pc := 92) (tgt := 109) dM_test_92 (by decide) (fun h92 => ?_) (fun h92 => ?_)
        · exact absurd h92 (fun z => nI_pos (n := a) (by omega) (by rw [z]; decide))
        · refine jm_aload_n (pc := 95) dM_test_95 rfl ?_
          refine jm_getq (pc := 96) lM_68 dM_test_96 rfl rfl (hm 25 rfl) ?_
          refine jm_iload (pc := 99) dM_test_99 rfl ?_
          refine jm_zald (pc := 101) dM_test_101 rfl (by decide) rfl (fun _ => rfl) ?hin ?_
          case hin =>
            exact vp_in_nI (N := 250) (by omega) (by decide)
          rw [nI_clamp (by omega), hg]
          refine jm_if_ne (pc := 102) (tgt := 109) dM_test_102 (by decide) (fun h102 => ?_) (fun h102 => ?_)
          · refine jm_iconst (pc := 109) (v := 0) dM_test_109 (by decide) ?_
            first
              | exact MS.mono (ct_test_f hT hn hF40 hF hk (q := a) (by omega) (by omega)) (fun v s9 h => Or.inl ⟨h102, h⟩)
              | exact MS.mono (ct_test_1 hT hn hF40 hF hk hA htr ht hd hs hB) (fun v s9 h => Or.inr ⟨h102, h⟩)
          · refine jm_iconst (pc := 105) (v := 1) dM_test_105 (by decide) ?_
            refine jm_goto (pc := 106) (tgt := 110) dM_test_106 (by decide) ?_
            first
              | exact MS.mono (ct_test_f hT hn hF40 hF hk (q := a) (by omega) (by omega)) (fun v s9 h => Or.inl ⟨h102, h⟩)
              | exact MS.mono (ct_test_1 hT hn hF40 hF hk hA htr ht hd hs hB) (fun v s9 h => Or.inr ⟨h102, h⟩)
    · exact absurd h49 (by decide)
  · exact absurd (nI_le hl3 (by omega)) h7
set_option maxRecDepth 100000 in
set_option maxHeartbeats 4000000 in
theorem c_M_test_2 {n F a b c : Nat} {r : List Nat} {t : Nat} {S : Int64} {g : Int32} (hT : TM E st) (hn : n < eN E) (hF40 : F + 1 < 40) (hF : st.1 5 0 38 = nI (F + 1)) (hk : eK E n = a :: b :: c :: r) (hA : st.2.1 29 0 n = S) (htr : st.1 5 0 39 = nI t) (ht : t ≤ 20000) (hd : 5 ≤ d) (hs : st.1 38 0 F = 2) (hg : st.1 31 0 b = g) : MC l D mM_test d 0 0 [vR (some (5, 0)), vI (nI F), vI (nI n)] st (fun v s' => (g = 0 ∧ v = some (vI 1) ∧ s' = ends (sI st 36 0 n (nI b)) F n 0 0) ∨ (¬ g = 0 ∧ (tQ E c S t (F + 1) (sI st 38 0 F 3) v s'))) := by
  refine jm_start (ls0 := [some (vR (some (5, 0))), some (vI (nI F)), some (vI (nI n)), none, none, none, none, none, none, none]) (by decide) (Nat.le_of_ble_eq_true rfl) rfl ?_
  have hn250 : n < 250 := Nat.lt_of_lt_of_le hn hT.1.1
  have hm := hT.2.2.1
  obtain ⟨b1_, b2_, b3_, b4_, b5_, b6_, b7_, b8_⟩ := hT.2.2.2.2 n hn
  have ha := hT.1.kid hn (show a ∈ eK E n by rw [hk]; simp)
  have hb := hT.1.kid hn (show b ∈ eK E n by rw [hk]; simp)
  have hc := hT.1.kid hn (show c ∈ eK E n by rw [hk]; simp)
  have ha250 : a < 250 := Nat.lt_of_lt_of_le ha.1 hT.1.1
  have hb250 : b < 250 := Nat.lt_of_lt_of_le hb.1 hT.1.1
  have hc250 : c < 250 := Nat.lt_of_lt_of_le hc.1 hT.1.1
  have ea : st.1 19 0 n = nI a := by rw [b3_, hk]; rfl
  have eb : st.1 21 0 a = nI b := by rw [b4_ 0 a (by rw [hk]; rfl), hk]; rfl
  have ec : st.1 21 0 b = nI c := by rw [b4_ 1 b (by rw [hk]; rfl), hk]; rfl
  have hl3 : 3 ≤ (eK E n).length := by rw [hk]; simp
  have hlen := eK_len hT.1 hn
  refine jm_aload_n (pc := 0) dM_test_0 rfl ?_
  refine jm_getq (pc := 1) lM_28 dM_test_1 rfl rfl (hm 9 rfl) ?_
  refine jm_iload_n (pc := 4) dM_test_4 rfl ?_
  refine jm_iald (pc := 5) dM_test_5 rfl (by decide) rfl (fun _ => rfl) ?hin ?_
  case hin =>
    exact vp_in_nI (N := 250) (by omega) (by decide)
  rw [nI_clamp (by omega), b2_]
  refine jm_iconst (pc := 6) (v := 3) dM_test_6 (by decide) ?_
  refine jm_icmp_ge (pc := 7) (tgt := 19) dM_test_7 (by decide) (fun h7 => ?_) (fun h7 => ?_)
  · refine jm_aload_n (pc := 19) dM_test_19 rfl ?_
    refine jm_getq (pc := 20) lM_31 dM_test_20 rfl rfl (hm 10 rfl) ?_
    refine jm_iload_n (pc := 23) dM_test_23 rfl ?_
    refine jm_iald (pc := 24) dM_test_24 rfl (by decide) rfl (fun _ => rfl) ?hin ?_
    case hin =>
      exact vp_in_nI (N := 250) (by omega) (by decide)
    rw [nI_clamp (by omega), ea]
    refine jm_istore_n (pc := 25) dM_test_25 (by decide) ?_
    refine jm_aload_n (pc := 26) dM_test_26 rfl ?_
    refine jm_getq (pc := 27) lM_37 dM_test_27 rfl rfl (hm 12 rfl) ?_
    refine jm_iload_n (pc := 30) dM_test_30 rfl ?_
    refine jm_iald (pc := 31) dM_test_31 rfl (by decide) rfl (fun _ => rfl) ?hin ?_
    case hin =>
      exact vp_in_nI (N := 250) (by omega) (by decide)
    rw [nI_clamp (by omega), eb]
    refine jm_istore (pc := 32) dM_test_32 (by decide) ?_
    refine jm_aload_n (pc := 34) dM_test_34 rfl ?_
    refine jm_getq (pc := 35) lM_37 dM_test_35 rfl rfl (hm 12 rfl) ?_
    refine jm_iload (pc := 38) dM_test_38 rfl ?_
    refine jm_iald (pc := 40) dM_test_40 rfl (by decide) rfl (fun _ => rfl) ?hin ?_
    case hin =>
      exact vp_in_nI (N := 250) (by omega) (by decide)
    rw [nI_clamp (by omega), ec]
    refine jm_istore (pc := 41) dM_test_41 (by decide) ?_
    refine jm_aload_n (pc := 43) dM_test_43 rfl ?_
    refine jm_getq (pc := 44) lM_90 dM_test_44 rfl rfl (hm 32 rfl) ?_
    refine jm_iload_n (pc := 47) dM_test_47 rfl ?_
    refine jm_iald (pc := 48) dM_test_48 rfl (by decide) rfl (fun _ => rfl) ?hin ?_
    case hin =>
      exact vp_in_nI (N := 40) (by omega) (by decide)
    rw [nI_clamp (by omega), hs]
    refine jm_if_ne (pc := 49) (tgt := 56) dM_test_49 (by decide) (fun h49 => ?_) (fun h49 => ?_)
    · refine jm_aload_n (pc := 56) dM_test_56 rfl ?_
      refine jm_getq (pc := 57) lM_90 dM_test_57 rfl rfl (hm 32 rfl) ?_
      refine jm_iload_n (pc := 60) dM_test_60 rfl ?_
      refine jm_iald (pc := 61) dM_test_61 rfl (by decide) rfl (fun _ => rfl) ?hin ?_
      case hin =>
        exact vp_in_nI (N := 40) (by omega) (by decide)
      rw [nI_clamp (by omega), hs]
      refine jm_iconst (pc := 62) (v := 1) dM_test_62 (by decide) ?_
      refine jm_icmp_ne (pc := 63) (tgt := 70) dM_test_63 (by decide) (fun h63 => ?_) (fun h63 => ?_)
      · refine jm_aload_n (pc := 70) dM_test_70 rfl ?_
        refine jm_getq (pc := 71) lM_90 dM_test_71 rfl rfl (hm 32 rfl) ?_
        refine jm_iload_n (pc := 74) dM_test_74 rfl ?_
        refine jm_iald (pc := 75) dM_test_75 rfl (by decide) rfl (fun _ => rfl) ?hin ?_
        case hin =>
          exact vp_in_nI (N := 40) (by omega) (by decide)
        rw [nI_clamp (by omega), hs]
        refine jm_iconst (pc := 76) (v := 2) dM_test_76 (by decide) ?_
        refine jm_icmp_ne (pc := 77) (tgt := 85) dM_test_77 (by decide) (fun h77 => ?_) (fun h77 => ?_)
        · exact absurd rfl h77
        · refine jm_iload (pc := 80) dM_test_80 rfl ?_
          refine jm_goto (pc := 82) (tgt := 87) dM_test_82 (by decide) ?_
          refine jm_istore (pc := 87) dM_test_87 (by decide) ?_
          refine jm_iload (pc := 89) dM_test_89 rfl ?_
          refine jm_iconst (pc := 91) (v := -1) dM_test_91 (by decide) ?_
          refine jm_icmp_eq (pc := 92) (tgt := 109) dM_test_92 (by decide) (fun h92 => ?_) (fun h92 => ?_)
          · exact absurd h92 (fun z => nI_pos (n := b) (by omega) (by rw [z]; decide))
          · refine jm_aload_n (pc := 95) dM_test_95 rfl ?_
            refine jm_getq (pc := 96) lM_68 dM_test_96 rfl rfl (hm 25 rfl) ?_
            refine jm_iload (pc := 99) dM_test_99 rfl ?_
            refine jm_zald (pc := 101) dM_test_101 rfl (by decide) rfl (fun _ => rfl) ?hin ?_
            case hin =>
              exact vp_in_nI (N := 250) (by omega) (by decide)
            rw [nI_clamp (by omega), hg]
            refine jm_if_ne (pc := 102) (tgt := 109) dM_test_102 (by decide) (fun h102 => ?_) (fun h102 => ?_)
            · refine jm_iconst (pc := 109) (v := 0) dM_test_109 (by decide) ?_
              first
                | exact MS.mono (ct_test_f hT hn hF40 hF hk (q := b) (by omega) (by omega)) (fun v s9 h => Or.inl ⟨h102, h⟩)
                | exact MS.mono (ct_test_2 hT hn hF40 hF hk hA htr ht hd hs) (fun v s9 h => Or.inr ⟨h102, h⟩)
            · refine jm_iconst (pc := 105) (v := 1) dM_test_105 (by decide) ?_
              refine jm_goto (pc := 106) (tgt := 110) dM_test_106 (by decide) ?_
              first
                | exact MS.mono (ct_test_f hT hn hF40 hF hk (q := b) (by omega) (by omega)) (fun v s9 h => Or.inl ⟨h102, h⟩)
                | exact MS.mono (ct_test_2 hT hn hF40 hF hk hA htr ht hd hs) (fun v s9 h => Or.inr ⟨h102, h⟩)
      · exact absurd h63 (by decide)
    · exact absurd h49 (by decide)
  · exact absurd (nI_le hl3 (by omega)) h7
set_option maxRecDepth 100000 in
set_option maxHeartbeats 4000000 in
theorem c_M_test_3 {n F a b c : Nat} {r : List Nat} {t : Nat} {S B C : Int64} {g : Int32} (hT : TM E st) (hn : n < eN E) (hF40 : F + 1 < 40) (hF : st.1 5 0 38 = nI (F + 1)) (hk : eK E n = a :: b :: c :: r) (hA : st.2.1 29 0 n = S) (htr : st.1 5 0 39 = nI t) (ht : t ≤ 20000) (hd : 5 ≤ d) (hs : st.1 38 0 F = 3) (hg : st.1 31 0 c = g) (hB : st.2.1 30 0 b = B) (hC : st.2.1 30 0 c = C) : MC l D mM_test d 0 0 [vR (some (5, 0)), vI (nI F), vI (nI n)] st (fun v s' => (g = 0 ∧ v = some (vI 1) ∧ s' = ends (sI st 36 0 n (nI c)) F n 0 0) ∨ (¬ g = 0 ∧ (v = some (vI 1) ∧ s' = ends (sI st 38 0 F 4) F n (jb (B &&& (eO E n &&& nt S) = C &&& (eO E n &&& nt S))) (S ||| (B &&& C &&& (eO E n &&& nt S)))))) := by
  refine jm_start (ls0 := [some (vR (some (5, 0))), some (vI (nI F)), some (vI (nI n)), none, none, none, none, none, none, none]) (by decide) (Nat.le_of_ble_eq_true rfl) rfl ?_
  have hn250 : n < 250 := Nat.lt_of_lt_of_le hn hT.1.1
  have hm := hT.2.2.1
  obtain ⟨b1_, b2_, b3_, b4_, b5_, b6_, b7_, b8_⟩ := hT.2.2.2.2 n hn
  have ha := hT.1.kid hn (show a ∈ eK E n by rw [hk]; simp)
  have hb := hT.1.kid hn (show b ∈ eK E n by rw [hk]; simp)
  have hc := hT.1.kid hn (show c ∈ eK E n by rw [hk]; simp)
  have ha250 : a < 250 := Nat.lt_of_lt_of_le ha.1 hT.1.1
  have hb250 : b < 250 := Nat.lt_of_lt_of_le hb.1 hT.1.1
  have hc250 : c < 250 := Nat.lt_of_lt_of_le hc.1 hT.1.1
  have ea : st.1 19 0 n = nI a := by rw [b3_, hk]; rfl
  have eb : st.1 21 0 a = nI b := by rw [b4_ 0 a (by rw [hk]; rfl), hk]; rfl
  have ec : st.1 21 0 b = nI c := by rw [b4_ 1 b (by rw [hk]; rfl), hk]; rfl
  have hl3 : 3 ≤ (eK E n).length := by rw [hk]; simp
  have hlen := eK_len hT.1 hn
  refine jm_aload_n (pc := 0) dM_test_0 rfl ?_
  refine jm_getq (pc := 1) lM_28 dM_test_1 rfl rfl (hm 9 rfl) ?_
  refine jm_iload_n (pc := 4) dM_test_4 rfl ?_
  refine jm_iald (pc := 5) dM_test_5 rfl (by decide) rfl (fun _ => rfl) ?hin ?_
  case hin =>
    exact vp_in_nI (N := 250) (by omega) (by decide)
  rw [nI_clamp (by omega), b2_]
  refine jm_iconst (pc := 6) (v := 3) dM_test_6 (by decide) ?_
  refine jm_icmp_ge (pc := 7) (tgt := 19) dM_test_7 (by decide) (fun h7 => ?_) (fun h7 => ?_)
  · refine jm_aload_n (pc := 19) dM_test_19 rfl ?_
    refine jm_getq (pc := 20) lM_31 dM_test_20 rfl rfl (hm 10 rfl) ?_
    refine jm_iload_n (pc := 23) dM_test_23 rfl ?_
    refine jm_iald (pc := 24) dM_test_24 rfl (by decide) rfl (fun _ => rfl) ?hin ?_
    case hin =>
      exact vp_in_nI (N := 250) (by omega) (by decide)
    rw [nI_clamp (by omega), ea]
    refine jm_istore_n (pc := 25) dM_test_25 (by decide) ?_
    refine jm_aload_n (pc := 26) dM_test_26 rfl ?_
    refine jm_getq (pc := 27) lM_37 dM_test_27 rfl rfl (hm 12 rfl) ?_
    refine jm_iload_n (pc := 30) dM_test_30 rfl ?_
    refine jm_iald (pc := 31) dM_test_31 rfl (by decide) rfl (fun _ => rfl) ?hin ?_
    case hin =>
      exact vp_in_nI (N := 250) (by omega) (by decide)
    rw [nI_clamp (by omega), eb]
    refine jm_istore (pc := 32) dM_test_32 (by decide) ?_
    refine jm_aload_n (pc := 34) dM_test_34 rfl ?_
    refine jm_getq (pc := 35) lM_37 dM_test_35 rfl rfl (hm 12 rfl) ?_
    refine jm_iload (pc := 38) dM_test_38 rfl ?_
    refine jm_iald (pc := 40) dM_test_40 rfl (by decide) rfl (fun _ => rfl) ?hin ?_
    case hin =>
      exact vp_in_nI (N := 250) (by omega) (by decide)
    rw [nI_clamp (by omega), ec]
    refine jm_istore (pc := 41) dM_test_41 (by decide) ?_
    refine jm_aload_n (pc := 43) dM_test_43 rfl ?_
    refine jm_getq (pc := 44) lM_90 dM_test_44 rfl rfl (hm 32 rfl) ?_
    refine jm_iload_n (pc := 47) dM_test_47 rfl ?_
    refine jm_iald (pc := 48) dM_test_48 rfl (by decide) rfl (fun _ => rfl) ?hin ?_
    case hin =>
      exact vp_in_nI (N := 40) (by omega) (by decide)
    rw [nI_clamp (by omega), hs]
    refine jm_if_ne (pc := 49) (tgt := 56) dM_test_49 (by decide) (fun h49 => ?_) (fun h49 => ?_)
    · refine jm_aload_n (pc := 56) dM_test_56 rfl ?_
      refine jm_getq (pc := 57) lM_90 dM_test_57 rfl rfl (hm 32 rfl) ?_
      refine jm_iload_n (pc := 60) dM_test_60 rfl ?_
      refine jm_iald (pc := 61) dM_test_61 rfl (by decide) rfl (fun _ => rfl) ?hin ?_
      case hin =>
        exact vp_in_nI (N := 40) (by omega) (by decide)
      rw [nI_clamp (by omega), hs]
      refine jm_iconst (pc := 62) (v := 1) dM_test_62 (by decide) ?_
      refine jm_icmp_ne (pc := 63) (tgt := 70) dM_test_63 (by decide) (fun h63 => ?_) (fun h63 => ?_)
      · refine jm_aload_n (pc := 70) dM_test_70 rfl ?_
        refine jm_getq (pc := 71) lM_90 dM_test_71 rfl rfl (hm 32 rfl) ?_
        refine jm_iload_n (pc := 74) dM_test_74 rfl ?_
        refine jm_iald (pc := 75) dM_test_75 rfl (by decide) rfl (fun _ => rfl) ?hin ?_
        case hin =>
          exact vp_in_nI (N := 40) (by omega) (by decide)
        rw [nI_clamp (by omega), hs]
        refine jm_iconst (pc := 76) (v := 2) dM_test_76 (by decide) ?_
        refine jm_icmp_ne (pc := 77) (tgt := 85) dM_test_77 (by decide) (fun h77 => ?_) (fun h77 => ?_)
        · refine jm_iload (pc := 85) dM_test_85 rfl ?_
          refine jm_istore (pc := 87) dM_test_87 (by decide) ?_
          refine jm_iload (pc := 89) dM_test_89 rfl ?_
          refine jm_iconst (pc := 91) (v := -1) dM_test_91 (by decide) ?_
          refine jm_icmp_eq (pc := 92) (tgt := 109) dM_test_92 (by decide) (fun h92 => ?_) (fun h92 => ?_)
          · exact absurd h92 (fun z => nI_pos (n := c) (by omega) (by rw [z]; decide))
          · refine jm_aload_n (pc := 95) dM_test_95 rfl ?_
            refine jm_getq (pc := 96) lM_68 dM_test_96 rfl rfl (hm 25 rfl) ?_
            refine jm_iload (pc := 99) dM_test_99 rfl ?_
            refine jm_zald (pc := 101) dM_test_101 rfl (by decide) rfl (fun _ => rfl) ?hin ?_
            case hin =>
              exact vp_in_nI (N := 250) (by omega) (by decide)
            rw [nI_clamp (by omega), hg]
            refine jm_if_ne (pc := 102) (tgt := 109) dM_test_102 (by decide) (fun h102 => ?_) (fun h102 => ?_)
            · refine jm_iconst (pc := 109) (v := 0) dM_test_109 (by decide) ?_
              first
                | exact MS.mono (ct_test_f hT hn hF40 hF hk (q := c) (by omega) (by omega)) (fun v s9 h => Or.inl ⟨h102, h⟩)
                | exact MS.mono (ct_test_3 hT hn hF40 hF hk hA htr ht hd hs hB hC) (fun v s9 h => Or.inr ⟨h102, h⟩)
            · refine jm_iconst (pc := 105) (v := 1) dM_test_105 (by decide) ?_
              refine jm_goto (pc := 106) (tgt := 110) dM_test_106 (by decide) ?_
              first
                | exact MS.mono (ct_test_f hT hn hF40 hF hk (q := c) (by omega) (by omega)) (fun v s9 h => Or.inl ⟨h102, h⟩)
                | exact MS.mono (ct_test_3 hT hn hF40 hF hk hA htr ht hd hs hB hC) (fun v s9 h => Or.inr ⟨h102, h⟩)
        · exact absurd h77 (by decide)
      · exact absurd h63 (by decide)
    · exact absurd h49 (by decide)
  · exact absurd (nI_le hl3 (by omega)) h7
end CM10
