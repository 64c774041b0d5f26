section CM8
variable {l : Launch} {D : mD} {d : Nat} {st : aS} {E : EE}
set_option maxRecDepth 100000 in
set_option maxHeartbeats 4000000 in
theorem ct_M_choice {n F t : Nat} {S e s : Int64} {ps : List Nat} {x3 : Option aV} (hT : TM E st) (hn : n < eN E) (hF40 : F + 1 < 40) (hF : st.1 5 0 38 = nI (F + 1)) (hA : st.2.1 29 0 n = S) (htr : st.1 5 0 39 = nI t) (ht : t ≤ 20000) (hd : 5 ≤ d) (hps : ∀ q ∈ ps, q ∈ eK E n) (hat : st.1 39 0 F = nx ps.head?) (he : st.2.1 42 0 F = e) (hs : st.2.1 43 0 F = s) : MS l D mM_choice d 0 0 (chQ E n S e s t F st ps) 0 0 121 [some (vR (some (5, 0))), some (vI (nI F)), some (vI (nI n)), x3, none, none] [] st := by
  have hn250 : n < 250 := Nat.lt_of_lt_of_le hn hT.1.1
  have hm := hT.2.2.1
  obtain ⟨b1_, b2_, b3_, b4_, b5_, b6_, b7_, b8_⟩ := hT.2.2.2.2 n hn
  have hlen := eK_len hT.1 hn
  cases ps with
  | cons q r =>
    have hqk := hps q List.mem_cons_self
    have hq := (hT.1.kid hn hqk).1
    have hq250 : q < 250 := Nat.lt_of_lt_of_le hq hT.1.1
    have hat : st.1 39 0 F = nI q := hat
    refine jm_aload_n (pc := 121) dM_choice_121 rfl ?_
    refine jm_getq (pc := 122) lM_93 dM_choice_122 rfl rfl (hm 33 rfl) ?_
    refine jm_iload_n (pc := 125) dM_choice_125 rfl ?_
    refine jm_iald (pc := 126) dM_choice_126 rfl (by decide) rfl (fun _ => rfl) ?hin ?_
    case hin =>
      exact vp_in_nI (N := 40) (by omega) (by decide)
    rw [nI_clamp (by omega), hat]
    refine jm_iconst (pc := 127) (v := -1) dM_choice_127 (by decide) ?_
    refine jm_icmp_eq (pc := 128) (tgt := 148) dM_choice_128 (by decide) (fun h128 => ?_) (fun h128 => ?_)
    · exact absurd h128 (fun z => nI_pos (n := q) (by omega) (by rw [z]; decide))
    · refine jm_aload_n (pc := 131) dM_choice_131 rfl ?_
      refine jm_aload_n (pc := 132) dM_choice_132 rfl ?_
      refine jm_getq (pc := 133) lM_93 dM_choice_133 rfl rfl (hm 33 rfl) ?_
      refine jm_iload_n (pc := 136) dM_choice_136 rfl ?_
      refine jm_iald (pc := 137) dM_choice_137 rfl (by decide) rfl (fun _ => rfl) ?hin ?_
      case hin =>
        exact vp_in_nI (N := 40) (by omega) (by decide)
      rw [nI_clamp (by omega), hat]
      refine jm_aload_n (pc := 138) dM_choice_138 rfl ?_
      refine jm_getq (pc := 139) lM_62 dM_choice_139 rfl rfl (hm 23 rfl) ?_
      refine jm_iload_n (pc := 142) dM_choice_142 rfl ?_
      refine jm_lald (pc := 143) dM_choice_143 rfl (by decide) rfl (fun _ => rfl) ?hin ?_
      case hin =>
        exact vp_in_nI (N := 250) (by omega) (by decide)
      rw [nI_clamp (by omega), hA]
      refine jm_callV (pc := 144) (c_M_tried (d := d - 1) hT hq hF (by omega) htr ht (by omega)) fM_tried vM_tried cM_207 dM_choice_144 rfl rfl rfl rfl (by omega) ⟨Nat.le_refl _, Nat.le_refl _⟩ rfl (Nat.le_of_ble_eq_true rfl) (fun v s2 hq => ?_)
      obtain ⟨b, rfl, hb⟩ := tQ_v hq
      refine jm_zret (pc := 147) dM_choice_147 rfl (hb) ⟨Nat.le_refl _, Nat.le_refl _⟩ ?_
      exact hq
  | nil =>
    have hat : st.1 39 0 F = -1 := hat
    refine jm_aload_n (pc := 121) dM_choice_121 rfl ?_
    refine jm_getq (pc := 122) lM_93 dM_choice_122 rfl rfl (hm 33 rfl) ?_
    refine jm_iload_n (pc := 125) dM_choice_125 rfl ?_
    refine jm_iald (pc := 126) dM_choice_126 rfl (by decide) rfl (fun _ => rfl) ?hin ?_
    case hin =>
      exact vp_in_nI (N := 40) (by omega) (by decide)
    rw [nI_clamp (by omega), hat]
    refine jm_iconst (pc := 127) (v := -1) dM_choice_127 (by decide) ?_
    refine jm_icmp_eq (pc := 128) (tgt := 148) dM_choice_128 (by decide) (fun h128 => ?_) (fun h128 => ?_)
    · refine jm_aload_n (pc := 148) dM_choice_148 rfl ?_
      refine jm_getq (pc := 149) lM_55 dM_choice_149 rfl rfl (hm 21 rfl) ?_
      refine jm_iload_n (pc := 152) dM_choice_152 rfl ?_
      refine jm_lald (pc := 153) dM_choice_153 rfl (by decide) rfl (fun _ => rfl) ?hin ?_
      case hin =>
        exact vp_in_nI (N := 250) (by omega) (by decide)
      rw [nI_clamp (by omega), b7_]
      refine jm_aload_n (pc := 154) dM_choice_154 rfl ?_
      refine jm_getq (pc := 155) lM_62 dM_choice_155 rfl rfl (hm 23 rfl) ?_
      refine jm_iload_n (pc := 158) dM_choice_158 rfl ?_
      refine jm_lald (pc := 159) dM_choice_159 rfl (by decide) rfl (fun _ => rfl) ?hin ?_
      case hin =>
        exact vp_in_nI (N := 250) (by omega) (by decide)
      rw [nI_clamp (by omega), hA]
      refine jm_ldc2 (pc := 160) dM_choice_160 klM_215 ?_
      refine jm_lxor (pc := 163) dM_choice_163 ?_
      refine jm_land (pc := 164) dM_choice_164 ?_
      refine jm_lstore_n (pc := 165) dM_choice_165 (by decide) ?_
      refine jm_aload_n (pc := 166) dM_choice_166 rfl ?_
      refine jm_getq (pc := 167) lM_28 dM_choice_167 rfl rfl (hm 9 rfl) ?_
      refine jm_iload_n (pc := 170) dM_choice_170 rfl ?_
      refine jm_iald (pc := 171) dM_choice_171 rfl (by decide) rfl (fun _ => rfl) ?hin ?_
      case hin =>
        exact vp_in_nI (N := 250) (by omega) (by decide)
      rw [nI_clamp (by omega), b2_]
      refine jm_if_eq (pc := 172) (tgt := 195) dM_choice_172 (by decide) (fun h172 => ?_) (fun h172 => ?_)
      · refine jm_iconst (pc := 195) (v := 1) dM_choice_195 (by decide) ?_
        refine jm_goto (pc := 196) (tgt := 200) dM_choice_196 (by decide) ?_
        refine jm_istore (pc := 200) dM_choice_200 (by decide) ?_
        refine jm_aload_n (pc := 202) dM_choice_202 rfl ?_
        refine jm_iload_n (pc := 203) dM_choice_203 rfl ?_
        refine jm_iload (pc := 204) dM_choice_204 rfl ?_
        refine jm_aload_n (pc := 206) dM_choice_206 rfl ?_
        refine jm_getq (pc := 207) lM_62 dM_choice_207 rfl rfl (hm 23 rfl) ?_
        refine jm_iload_n (pc := 210) dM_choice_210 rfl ?_
        refine jm_lald (pc := 211) dM_choice_211 rfl (by decide) rfl (fun _ => rfl) ?hin ?_
        case hin =>
          exact vp_in_nI (N := 250) (by omega) (by decide)
        rw [nI_clamp (by omega), hA]
        refine jm_aload_n (pc := 212) dM_choice_212 rfl ?_
        refine jm_getq (pc := 213) lM_28 dM_choice_213 rfl rfl (hm 9 rfl) ?_
        refine jm_iload_n (pc := 216) dM_choice_216 rfl ?_
        refine jm_iald (pc := 217) dM_choice_217 rfl (by decide) rfl (fun _ => rfl) ?hin ?_
        case hin =>
          exact vp_in_nI (N := 250) (by omega) (by decide)
        rw [nI_clamp (by omega), b2_]
        refine jm_if_ne (pc := 218) (tgt := 225) dM_choice_218 (by decide) (fun h218 => ?_) (fun h218 => ?_)
        · refine jm_aload_n (pc := 225) dM_choice_225 rfl ?_
          refine jm_getq (pc := 226) lM_102 dM_choice_226 rfl rfl (hm 36 rfl) ?_
          refine jm_iload_n (pc := 229) dM_choice_229 rfl ?_
          refine jm_lald (pc := 230) dM_choice_230 rfl (by decide) rfl (fun _ => rfl) ?hin ?_
          case hin =>
            exact vp_in_nI (N := 40) (by omega) (by decide)
          rw [nI_clamp (by omega), he]
          refine jm_lload_n (pc := 231) dM_choice_231 rfl ?_
          refine jm_land (pc := 232) dM_choice_232 ?_
          refine jm_lor (pc := 233) dM_choice_233 ?_
          refine jm_callV (pc := 234) (c_M_ended (d := d - 1) _ _ hm (by omega) hF (by first | exact Or.inl rfl | exact Or.inr rfl)) fM_ended vM_ended cM_211 dM_choice_234 rfl rfl rfl rfl (by omega) ⟨Nat.le_refl _, Nat.le_refl _⟩ rfl (Nat.le_of_ble_eq_true rfl) (fun v s2 hq => ?_)
          obtain ⟨rfl, rfl⟩ := hq
          refine jm_iconst (pc := 237) (v := 1) dM_choice_237 (by decide) ?_
          refine jm_zret (pc := 238) dM_choice_238 rfl (by first | exact Or.inl rfl | exact Or.inr rfl | assumption) ⟨Nat.le_refl _, Nat.le_refl _⟩ ?_
          refine ⟨rfl, ?_⟩
          have z0 : ∀ {k : Nat}, k ≤ 250 → nI k = 0 → k = 0 := fun hk h => (nI_eq (b := 0) (by omega) (by decide)).mp h
          first
            | exact absurd h172 h218
            | exact absurd h218 h172
            | (have hz := z0 hlen h172
               rw [jb_t (Or.inl hz), if_pos hz]
               rfl)
            | (have hz : ¬ (eK E n).length = 0 := fun q => h172 (by rw [q]; rfl)
               rw [if_neg hz]
               first
                 | (rw [jb_t (p := (eK E n).length = 0 ∨ e &&& (eO E n &&& nt S) = s &&& (eO E n &&& nt S)) (Or.inr (lg1.mp h192))]; rfl)
                 | (rw [jb_f (p := (eK E n).length = 0 ∨ e &&& (eO E n &&& nt S) = s &&& (eO E n &&& nt S)) (fun w => w.elim hz (fun w => h192 (lg1.mpr w)))]; rfl))
        · refine jm_lconst (pc := 221) (v := 0) dM_choice_221 (by decide) ?_
          refine jm_goto (pc := 222) (tgt := 233) dM_choice_222 (by decide) ?_
          refine jm_lor (pc := 233) dM_choice_233 ?_
          refine jm_callV (pc := 234) (c_M_ended (d := d - 1) _ _ hm (by omega) hF (by first | exact Or.inl rfl | exact Or.inr rfl)) fM_ended vM_ended cM_211 dM_choice_234 rfl rfl rfl rfl (by omega) ⟨Nat.le_refl _, Nat.le_refl _⟩ rfl (Nat.le_of_ble_eq_true rfl) (fun v s2 hq => ?_)
          obtain ⟨rfl, rfl⟩ := hq
          refine jm_iconst (pc := 237) (v := 1) dM_choice_237 (by decide) ?_
          refine jm_zret (pc := 238) dM_choice_238 rfl (by first | exact Or.inl rfl | exact Or.inr rfl | assumption) ⟨Nat.le_refl _, Nat.le_refl _⟩ ?_
          refine ⟨rfl, ?_⟩
          have z0 : ∀ {k : Nat}, k ≤ 250 → nI k = 0 → k = 0 := fun hk h => (nI_eq (b := 0) (by omega) (by decide)).mp h
          first
            | exact absurd h172 h218
            | exact absurd h218 h172
            | (have hz := z0 hlen h172
               rw [jb_t (Or.inl hz), if_pos hz]
               rfl)
            | (have hz : ¬ (eK E n).length = 0 := fun q => h172 (by rw [q]; rfl)
               rw [if_neg hz]
               first
                 | (rw [jb_t (p := (eK E n).length = 0 ∨ e &&& (eO E n &&& nt S) = s &&& (eO E n &&& nt S)) (Or.inr (lg1.mp h192))]; rfl)
                 | (rw [jb_f (p := (eK E n).length = 0 ∨ e &&& (eO E n &&& nt S) = s &&& (eO E n &&& nt S)) (fun w => w.elim hz (fun w => h192 (lg1.mpr w)))]; rfl))
      · refine jm_aload_n (pc := 175) dM_choice_175 rfl ?_
        refine jm_getq (pc := 176) lM_102 dM_choice_176 rfl rfl (hm 36 rfl) ?_
        refine jm_iload_n (pc := 179) dM_choice_179 rfl ?_
        refine jm_lald (pc := 180) dM_choice_180 rfl (by decide) rfl (fun _ => rfl) ?hin ?_
        case hin =>
          exact vp_in_nI (N := 40) (by omega) (by decide)
        rw [nI_clamp (by omega), he]
        refine jm_lload_n (pc := 181) dM_choice_181 rfl ?_
        refine jm_land (pc := 182) dM_choice_182 ?_
        refine jm_aload_n (pc := 183) dM_choice_183 rfl ?_
        refine jm_getq (pc := 184) lM_105 dM_choice_184 rfl rfl (hm 37 rfl) ?_
        refine jm_iload_n (pc := 187) dM_choice_187 rfl ?_
        refine jm_lald (pc := 188) dM_choice_188 rfl (by decide) rfl (fun _ => rfl) ?hin ?_
        case hin =>
          exact vp_in_nI (N := 40) (by omega) (by decide)
        rw [nI_clamp (by omega), hs]
        refine jm_lload_n (pc := 189) dM_choice_189 rfl ?_
        refine jm_land (pc := 190) dM_choice_190 ?_
        refine jm_lcmp (pc := 191) dM_choice_191 ?_
        refine jm_if_ne (pc := 192) (tgt := 199) dM_choice_192 (by decide) (fun h192 => ?_) (fun h192 => ?_)
        · refine jm_iconst (pc := 199) (v := 0) dM_choice_199 (by decide) ?_
          refine jm_istore (pc := 200) dM_choice_200 (by decide) ?_
          refine jm_aload_n (pc := 202) dM_choice_202 rfl ?_
          refine jm_iload_n (pc := 203) dM_choice_203 rfl ?_
          refine jm_iload (pc := 204) dM_choice_204 rfl ?_
          refine jm_aload_n (pc := 206) dM_choice_206 rfl ?_
          refine jm_getq (pc := 207) lM_62 dM_choice_207 rfl rfl (hm 23 rfl) ?_
          refine jm_iload_n (pc := 210) dM_choice_210 rfl ?_
          refine jm_lald (pc := 211) dM_choice_211 rfl (by decide) rfl (fun _ => rfl) ?hin ?_
          case hin =>
            exact vp_in_nI (N := 250) (by omega) (by decide)
          rw [nI_clamp (by omega), hA]
          refine jm_aload_n (pc := 212) dM_choice_212 rfl ?_
          refine jm_getq (pc := 213) lM_28 dM_choice_213 rfl rfl (hm 9 rfl) ?_
          refine jm_iload_n (pc := 216) dM_choice_216 rfl ?_
          refine jm_iald (pc := 217) dM_choice_217 rfl (by decide) rfl (fun _ => rfl) ?hin ?_
          case hin =>
            exact vp_in_nI (N := 250) (by omega) (by decide)
          rw [nI_clamp (by omega), b2_]
          refine jm_if_ne (pc := 218) (tgt := 225) dM_choice_218 (by decide) (fun h218 => ?_) (fun h218 => ?_)
          · refine jm_aload_n (pc := 225) dM_choice_225 rfl ?_
            refine jm_getq (pc := 226) lM_102 dM_choice_226 rfl rfl (hm 36 rfl) ?_
            refine jm_iload_n (pc := 229) dM_choice_229 rfl ?_
            refine jm_lald (pc := 230) dM_choice_230 rfl (by decide) rfl (fun _ => rfl) ?hin ?_
            case hin =>
              exact vp_in_nI (N := 40) (by omega) (by decide)
            rw [nI_clamp (by omega), he]
            refine jm_lload_n (pc := 231) dM_choice_231 rfl ?_
            refine jm_land (pc := 232) dM_choice_232 ?_
            refine jm_lor (pc := 233) dM_choice_233 ?_
            refine jm_callV (pc := 234) (c_M_ended (d := d - 1) _ _ hm (by omega) hF (by first | exact Or.inl rfl | exact Or.inr rfl)) fM_ended vM_ended cM_211 dM_choice_234 rfl rfl rfl rfl (by omega) ⟨Nat.le_refl _, Nat.le_refl _⟩ rfl (Nat.le_of_ble_eq_true rfl) (fun v s2 hq => ?_)
            obtain ⟨rfl, rfl⟩ := hq
            refine jm_iconst (pc := 237) (v := 1) dM_choice_237 (by decide) ?_
            refine jm_zret (pc := 238) dM_choice_238 rfl (by first | exact Or.inl rfl | exact Or.inr rfl | assumption) ⟨Nat.le_refl _, Nat.le_refl _⟩ ?_
            refine ⟨rfl, ?_⟩
            have z0 : ∀ {k : Nat}, k ≤ 250 → nI k = 0 → k = 0 := fun hk h => (nI_eq (b := 0) (by omega) (by decide)).mp h
            first
              | exact absurd h172 h218
              | exact absurd h218 h172
              | (have hz := z0 hlen h172
                 rw [jb_t (Or.inl hz), if_pos hz]
                 rfl)
              | (have hz : ¬ (eK E n).length = 0 := fun q => h172 (by rw [q]; rfl)
                 rw [if_neg hz]
                 first
                   | (rw [jb_t (p := (eK E n).length = 0 ∨ e &&& (eO E n &&& nt S) = s &&& (eO E n &&& nt S)) (Or.inr (lg1.mp h192))]; rfl)
                   | (rw [jb_f (p := (eK E n).length = 0 ∨ e &&& (eO E n &&& nt S) = s &&& (eO E n &&& nt S)) (fun w => w.elim hz (fun w => h192 (lg1.mpr w)))]; rfl))
          · refine jm_lconst (pc := 221) (v := 0) dM_choice_221 (by decide) ?_
            refine jm_goto (pc := 222) (tgt := 233) dM_choice_222 (by decide) ?_
            refine jm_lor (pc := 233) dM_choice_233 ?_
            refine jm_callV (pc := 234) (c_M_ended (d := d - 1) _ _ hm (by omega) hF (by first | exact Or.inl rfl | exact Or.inr rfl)) fM_ended vM_ended cM_211 dM_choice_234 rfl rfl rfl rfl (by omega) ⟨Nat.le_refl _, Nat.le_refl _⟩ rfl (Nat.le_of_ble_eq_true rfl) (fun v s2 hq => ?_)
            obtain ⟨rfl, rfl⟩ := hq
            refine jm_iconst (pc := 237) (v := 1) dM_choice_237 (by decide) ?_
            refine jm_zret (pc := 238) dM_choice_238 rfl (by first | exact Or.inl rfl | exact Or.inr rfl | assumption) ⟨Nat.le_refl _, Nat.le_refl _⟩ ?_
            refine ⟨rfl, ?_⟩
            have z0 : ∀ {k : Nat}, k ≤ 250 → nI k = 0 → k = 0 := fun hk h => (nI_eq (b := 0) (by omega) (by decide)).mp h
            first
              | exact absurd h172 h218
              | exact absurd h218 h172
              | (have hz := z0 hlen h172
                 rw [jb_t (Or.inl hz), if_pos hz]
                 rfl)
              | (have hz : ¬ (eK E n).length = 0 := fun q => h172 (by rw [q]; rfl)
                 rw [if_neg hz]
                 first
                   | (rw [jb_t (p := (eK E n).length = 0 ∨ e &&& (eO E n &&& nt S) = s &&& (eO E n &&& nt S)) (Or.inr (lg1.mp h192))]; rfl)
                   | (rw [jb_f (p := (eK E n).length = 0 ∨ e &&& (eO E n &&& nt S) = s &&& (eO E n &&& nt S)) (fun w => w.elim hz (fun w => h192 (lg1.mpr w)))]; rfl))
        · refine jm_iconst (pc := 195) (v := 1) dM_choice_195 (by decide) ?_
          refine jm_goto (pc := 196) (tgt := 200) dM_choice_196 (by decide) ?_
          refine jm_istore (pc := 200) dM_choice_200 (by decide) ?_
          refine jm_aload_n (pc := 202) dM_choice_202 rfl ?_
          refine jm_iload_n (pc := 203) dM_choice_203 rfl ?_
          refine jm_iload (pc := 204) dM_choice_204 rfl ?_
          refine jm_aload_n (pc := 206) dM_choice_206 rfl ?_
          refine jm_getq (pc := 207) lM_62 dM_choice_207 rfl rfl (hm 23 rfl) ?_
          refine jm_iload_n (pc := 210) dM_choice_210 rfl ?_
          refine jm_lald (pc := 211) dM_choice_211 rfl (by decide) rfl (fun _ => rfl) ?hin ?_
          case hin =>
            exact vp_in_nI (N := 250) (by omega) (by decide)
          rw [nI_clamp (by omega), hA]
          refine jm_aload_n (pc := 212) dM_choice_212 rfl ?_
          refine jm_getq (pc := 213) lM_28 dM_choice_213 rfl rfl (hm 9 rfl) ?_
          refine jm_iload_n (pc := 216) dM_choice_216 rfl ?_
          refine jm_iald (pc := 217) dM_choice_217 rfl (by decide) rfl (fun _ => rfl) ?hin ?_
          case hin =>
            exact vp_in_nI (N := 250) (by omega) (by decide)
          rw [nI_clamp (by omega), b2_]
          refine jm_if_ne (pc := 218) (tgt := 225) dM_choice_218 (by decide) (fun h218 => ?_) (fun h218 => ?_)
          · refine jm_aload_n (pc := 225) dM_choice_225 rfl ?_
            refine jm_getq (pc := 226) lM_102 dM_choice_226 rfl rfl (hm 36 rfl) ?_
            refine jm_iload_n (pc := 229) dM_choice_229 rfl ?_
            refine jm_lald (pc := 230) dM_choice_230 rfl (by decide) rfl (fun _ => rfl) ?hin ?_
            case hin =>
              exact vp_in_nI (N := 40) (by omega) (by decide)
            rw [nI_clamp (by omega), he]
            refine jm_lload_n (pc := 231) dM_choice_231 rfl ?_
            refine jm_land (pc := 232) dM_choice_232 ?_
            refine jm_lor (pc := 233) dM_choice_233 ?_
            refine jm_callV (pc := 234) (c_M_ended (d := d - 1) _ _ hm (by omega) hF (by first | exact Or.inl rfl | exact Or.inr rfl)) fM_ended vM_ended cM_211 dM_choice_234 rfl rfl rfl rfl (by omega) ⟨Nat.le_refl _, Nat.le_refl _⟩ rfl (Nat.le_of_ble_eq_true rfl) (fun v s2 hq => ?_)
            obtain ⟨rfl, rfl⟩ := hq
            refine jm_iconst (pc := 237) (v := 1) dM_choice_237 (by decide) ?_
            refine jm_zret (pc := 238) dM_choice_238 rfl (by first | exact Or.inl rfl | exact Or.inr rfl | assumption) ⟨Nat.le_refl _, Nat.le_refl _⟩ ?_
            refine ⟨rfl, ?_⟩
            have z0 : ∀ {k : Nat}, k ≤ 250 → nI k = 0 → k = 0 := fun hk h => (nI_eq (b := 0) (by omega) (by decide)).mp h
            first
              | exact absurd h172 h218
              | exact absurd h218 h172
              | (have hz := z0 hlen h172
                 rw [jb_t (Or.inl hz), if_pos hz]
                 rfl)
              | (have hz : ¬ (eK E n).length = 0 := fun q => h172 (by rw [q]; rfl)
                 rw [if_neg hz]
                 first
                   | (rw [jb_t (p := (eK E n).length = 0 ∨ e &&& (eO E n &&& nt S) = s &&& (eO E n &&& nt S)) (Or.inr (lg1.mp h192))]; rfl)
                   | (rw [jb_f (p := (eK E n).length = 0 ∨ e &&& (eO E n &&& nt S) = s &&& (eO E n &&& nt S)) (fun w => w.elim hz (fun w => h192 (lg1.mpr w)))]; rfl))
          · refine jm_lconst (pc := 221) (v := 0) dM_choice_221 (by decide) ?_
            refine jm_goto (pc := 222) (tgt := 233) dM_choice_222 (by decide) ?_
            refine jm_lor (pc := 233) dM_choice_233 ?_
            refine jm_callV (pc := 234) (c_M_ended (d := d - 1) _ _ hm (by omega) hF (by first | exact Or.inl rfl | exact Or.inr rfl)) fM_ended vM_ended cM_211 dM_choice_234 rfl rfl rfl rfl (by omega) ⟨Nat.le_refl _, Nat.le_refl _⟩ rfl (Nat.le_of_ble_eq_true rfl) (fun v s2 hq => ?_)
            obtain ⟨rfl, rfl⟩ := hq
            refine jm_iconst (pc := 237) (v := 1) dM_choice_237 (by decide) ?_
            refine jm_zret (pc := 238) dM_choice_238 rfl (by first | exact Or.inl rfl | exact Or.inr rfl | assumption) ⟨Nat.le_refl _, Nat.le_refl _⟩ ?_
            refine ⟨rfl, ?_⟩
            have z0 : ∀ {k : Nat}, k ≤ 250 → nI k = 0 → k = 0 := fun hk h => (nI_eq (b := 0) (by omega) (by decide)).mp h
            first
              | exact absurd h172 h218
              | exact absurd h218 h172
              | (have hz := z0 hlen h172
                 rw [jb_t (Or.inl hz), if_pos hz]
                 rfl)
              | (have hz : ¬ (eK E n).length = 0 := fun q => h172 (by rw [q]; rfl)
                 rw [if_neg hz]
                 first
                   | (rw [jb_t (p := (eK E n).length = 0 ∨ e &&& (eO E n &&& nt S) = s &&& (eO E n &&& nt S)) (Or.inr (lg1.mp h192))]; rfl)
                   | (rw [jb_f (p := (eK E n).length = 0 ∨ e &&& (eO E n &&& nt S) = s &&& (eO E n &&& nt S)) (fun w => w.elim hz (fun w => h192 (lg1.mpr w)))]; rfl))
    · exact absurd rfl h128
set_option maxRecDepth 100000 in
set_option maxHeartbeats 4000000 in
theorem c_M_choice_0 {n F t : Nat} {S : Int64} (hT : TM E st) (hn : n < eN E) (hF40 : F + 1 < 40) (hF : st.1 5 0 38 = nI (F + 1)) (hA : st.2.1 29 0 n = S) (htr : st.1 5 0 39 = nI t) (ht : t ≤ 20000) (hd : 5 ≤ d) (hs0 : st.1 38 0 F = 0) : MC l D mM_choice d 0 0 [vR (some (5, 0)), vI (nI F), vI (nI n)] st (chQ E n S (-1) 0 t F (sL (sL (sI (sI st 38 0 F 1) 39 0 F (nx (eK E n).head?)) 42 0 F (-1)) 43 0 F 0) (eK E n)) := by
  refine jm_start (ls0 := [some (vR (some (5, 0))), some (vI (nI F)), some (vI (nI n)), none, none, none]) (by decide) (Nat.le_of_ble_eq_true rfl) rfl ?_
  have hn250 : n < 250 := Nat.lt_of_lt_of_le hn hT.1.1
  have hm := hT.2.2.1
  obtain ⟨b1_, b2_, b3_, b4_, b5_, b6_, b7_, b8_⟩ := hT.2.2.2.2 n hn
  refine jm_aload_n (pc := 0) dM_choice_0 rfl ?_
  refine jm_getq (pc := 1) lM_90 dM_choice_1 rfl rfl (hm 32 rfl) ?_
  refine jm_iload_n (pc := 4) dM_choice_4 rfl ?_
  refine jm_iald (pc := 5) dM_choice_5 rfl (by decide) rfl (fun _ => rfl) ?hin ?_
  case hin =>
    exact vp_in_nI (N := 40) (by omega) (by decide)
  rw [nI_clamp (by omega), hs0]
  refine jm_if_ne (pc := 6) (tgt := 47) dM_choice_6 (by decide) (fun h6 => ?_) (fun h6 => ?_)
  · exact absurd rfl h6
  · refine jm_aload_n (pc := 9) dM_choice_9 rfl ?_
    refine jm_getq (pc := 10) lM_90 dM_choice_10 rfl rfl (hm 32 rfl) ?_
    refine jm_iload_n (pc := 13) dM_choice_13 rfl ?_
    refine jm_iconst (pc := 14) (v := 1) dM_choice_14 (by decide) ?_
    refine jm_iast (pc := 15) dM_choice_15 rfl (by decide) rfl (fun _ => rfl) ?hin ?_
    case hin =>
      exact vp_in_nI (N := 40) (by omega) (by decide)
    refine jm_aload_n (pc := 16) dM_choice_16 rfl ?_
    refine jm_getq (pc := 17) lM_93 dM_choice_17 rfl rfl (hm 33 rfl) ?_
    refine jm_iload_n (pc := 20) dM_choice_20 rfl ?_
    refine jm_aload_n (pc := 21) dM_choice_21 rfl ?_
    refine jm_getq (pc := 22) lM_31 dM_choice_22 rfl rfl (hm 10 rfl) ?_
    refine jm_iload_n (pc := 25) dM_choice_25 rfl ?_
    refine jm_iald (pc := 26) dM_choice_26 rfl (by decide) rfl (fun _ => rfl) ?hin ?_
    case hin =>
      exact vp_in_nI (N := 250) (by omega) (by decide)
    rw [nI_clamp (by omega), nI_clamp (by omega), show (sI st 38 0 F 1).1 19 0 n = nx (eK E n).head? from (sI_ne (by omega)).trans b3_]
    refine jm_iast (pc := 27) dM_choice_27 rfl (by decide) rfl (fun _ => rfl) ?hin ?_
    case hin =>
      exact vp_in_nI (N := 40) (by omega) (by decide)
    refine jm_aload_n (pc := 28) dM_choice_28 rfl ?_
    refine jm_getq (pc := 29) lM_102 dM_choice_29 rfl rfl (hm 36 rfl) ?_
    refine jm_iload_n (pc := 32) dM_choice_32 rfl ?_
    refine jm_ldc2 (pc := 33) dM_choice_33 klM_215 ?_
    refine jm_last (pc := 36) dM_choice_36 rfl (by decide) rfl (fun _ => rfl) ?hin ?_
    case hin =>
      exact vp_in_nI (N := 40) (by omega) (by decide)
    refine jm_aload_n (pc := 37) dM_choice_37 rfl ?_
    refine jm_getq (pc := 38) lM_105 dM_choice_38 rfl rfl (hm 37 rfl) ?_
    refine jm_iload_n (pc := 41) dM_choice_41 rfl ?_
    refine jm_lconst (pc := 42) (v := 0) dM_choice_42 (by decide) ?_
    refine jm_last (pc := 43) dM_choice_43 rfl (by decide) rfl (fun _ => rfl) ?hin ?_
    case hin =>
      exact vp_in_nI (N := 40) (by omega) (by decide)
    refine jm_goto (pc := 44) (tgt := 121) dM_choice_44 (by decide) ?_
    rw [nI_clamp (by omega)]
    have mt : MT E n F st (sL (sL (sI (sI st 38 0 F 1) 39 0 F (nx (eK E n).head?)) 42 0 F (-1)) 43 0 F 0) := (((MT.fI (E := E) (i := n) (F := F) (k := 38) (g := F) (st := st) (v := 1) (by omega) (Nat.le_refl F)).tr (MT.fI (by omega) (Nat.le_refl F))).tr (MT.fL (by omega) (Nat.le_refl F))).tr (MT.fL (by omega) (Nat.le_refl F))
    exact ct_M_choice (hT.mv mt.1) hn hF40 (by simpa [sI, sL, u3] using hF) (by simpa [sI, sL, u3] using hA) (by simpa [sI, sL, u3] using htr) ht hd (fun q h => h) (show (sI (sI st 38 0 F 1) 39 0 F (nx (eK E n).head?)).1 39 0 F = _ from sI_eq) ((sL_ne (by omega)).trans sL_eq) sL_eq
set_option maxRecDepth 100000 in
set_option maxHeartbeats 4000000 in
theorem c_M_choice_1 {n F t p : Nat} {S e s B : Int64} {b : Int32} {ps : List Nat} (hT : TM E st) (hn : n < eN E) (hF40 : F + 1 < 40) (hF : st.1 5 0 38 = nI (F + 1)) (hA : st.2.1 29 0 n = S) (htr : st.1 5 0 39 = nI t) (ht : t ≤ 20000) (hd : 5 ≤ d) (hs0 : st.1 38 0 F = 1) (hp : p ∈ eK E n) (hps : ∀ q ∈ ps, q ∈ eK E n) (hat : st.1 39 0 F = nI p) (hnx : st.1 21 0 p = nx ps.head?) (he : st.2.1 42 0 F = e) (hs : st.2.1 43 0 F = s) (hb : st.1 31 0 p = b) (hB : st.2.1 30 0 p = B) : MC l D mM_choice d 0 0 [vR (some (5, 0)), vI (nI F), vI (nI n)] st (fun v s' => (b = 0 ∧ v = some (vI 1) ∧ s' = ends (sI st 36 0 n (nI p)) F n 0 0) ∨ (¬ b = 0 ∧ chQ E n S (e &&& B) (s ||| B) t F (sI (sL (sL st 42 0 F (e &&& B)) 43 0 F (s ||| B)) 39 0 F (nx ps.head?)) ps v s')) := by
  refine jm_start (ls0 := [some (vR (some (5, 0))), some (vI (nI F)), some (vI (nI n)), none, none, none]) (by decide) (Nat.le_of_ble_eq_true rfl) rfl ?_
  have hn250 : n < 250 := Nat.lt_of_lt_of_le hn hT.1.1
  have hm := hT.2.2.1
  obtain ⟨b1_, b2_, b3_, b4_, b5_, b6_, b7_, b8_⟩ := hT.2.2.2.2 n hn
  have hp250 : p < 250 := Nat.lt_of_lt_of_le (hT.1.kid hn hp).1 hT.1.1
  refine jm_aload_n (pc := 0) dM_choice_0 rfl ?_
  refine jm_getq (pc := 1) lM_90 dM_choice_1 rfl rfl (hm 32 rfl) ?_
  refine jm_iload_n (pc := 4) dM_choice_4 rfl ?_
  refine jm_iald (pc := 5) dM_choice_5 rfl (by decide) rfl (fun _ => rfl) ?hin ?_
  case hin =>
    exact vp_in_nI (N := 40) (by omega) (by decide)
  rw [nI_clamp (by omega), hs0]
  refine jm_if_ne (pc := 6) (tgt := 47) dM_choice_6 (by decide) (fun h6 => ?_) (fun h6 => ?_)
  · refine jm_aload_n (pc := 47) dM_choice_47 rfl ?_
    refine jm_getq (pc := 48) lM_93 dM_choice_48 rfl rfl (hm 33 rfl) ?_
    refine jm_iload_n (pc := 51) dM_choice_51 rfl ?_
    refine jm_iald (pc := 52) dM_choice_52 rfl (by decide) rfl (fun _ => rfl) ?hin ?_
    case hin =>
      exact vp_in_nI (N := 40) (by omega) (by decide)
    rw [nI_clamp (by omega), hat]
    refine jm_istore_n (pc := 53) dM_choice_53 (by decide) ?_
    refine jm_aload_n (pc := 54) dM_choice_54 rfl ?_
    refine jm_getq (pc := 55) lM_68 dM_choice_55 rfl rfl (hm 25 rfl) ?_
    refine jm_iload_n (pc := 58) dM_choice_58 rfl ?_
    refine jm_zald (pc := 59) dM_choice_59 rfl (by decide) rfl (fun _ => rfl) ?hin ?_
    case hin =>
      exact vp_in_nI (N := 250) (by omega) (by decide)
    rw [nI_clamp (by omega), hb]
    refine jm_if_ne (pc := 60) (tgt := 79) dM_choice_60 (by decide) (fun h60 => ?_) (fun h60 => ?_)
    · refine jm_aload_n (pc := 79) dM_choice_79 rfl ?_
      refine jm_getq (pc := 80) lM_102 dM_choice_80 rfl rfl (hm 36 rfl) ?_
      refine jm_iload_n (pc := 83) dM_choice_83 rfl ?_
      first | refine jm_dup2_2 (pc := 84) dM_choice_84 rfl ?_ | refine jm_dup2_11 (pc := 84) dM_choice_84 rfl rfl ?_
      refine jm_lald (pc := 85) dM_choice_85 rfl (by decide) rfl (fun _ => rfl) ?hin ?_
      case hin =>
        exact vp_in_nI (N := 40) (by omega) (by decide)
      rw [nI_clamp (by omega), he]
      refine jm_aload_n (pc := 86) dM_choice_86 rfl ?_
      refine jm_getq (pc := 87) lM_65 dM_choice_87 rfl rfl (hm 24 rfl) ?_
      refine jm_iload_n (pc := 90) dM_choice_90 rfl ?_
      refine jm_lald (pc := 91) dM_choice_91 rfl (by decide) rfl (fun _ => rfl) ?hin ?_
      case hin =>
        exact vp_in_nI (N := 250) (by omega) (by decide)
      rw [nI_clamp (by omega), hB]
      refine jm_land (pc := 92) dM_choice_92 ?_
      refine jm_last (pc := 93) dM_choice_93 rfl (by decide) rfl (fun _ => rfl) ?hin ?_
      case hin =>
        exact vp_in_nI (N := 40) (by omega) (by decide)
      refine jm_aload_n (pc := 94) dM_choice_94 rfl ?_
      refine jm_getq (pc := 95) lM_105 dM_choice_95 rfl rfl (hm 37 rfl) ?_
      refine jm_iload_n (pc := 98) dM_choice_98 rfl ?_
      first | refine jm_dup2_2 (pc := 99) dM_choice_99 rfl ?_ | refine jm_dup2_11 (pc := 99) dM_choice_99 rfl rfl ?_
      refine jm_lald (pc := 100) dM_choice_100 rfl (by decide) rfl (fun _ => rfl) ?hin ?_
      case hin =>
        exact vp_in_nI (N := 40) (by omega) (by decide)
      rw [nI_clamp (by omega), show (sL st 42 0 F (e &&& B)).2.1 43 0 F = s from (sL_ne (by omega)).trans hs]
      refine jm_aload_n (pc := 101) dM_choice_101 rfl ?_
      refine jm_getq (pc := 102) lM_65 dM_choice_102 rfl rfl (hm 24 rfl) ?_
      refine jm_iload_n (pc := 105) dM_choice_105 rfl ?_
      refine jm_lald (pc := 106) dM_choice_106 rfl (by decide) rfl (fun _ => rfl) ?hin ?_
      case hin =>
        exact vp_in_nI (N := 250) (by omega) (by decide)
      rw [nI_clamp (by omega), show (sL st 42 0 F (e &&& B)).2.1 30 0 p = B from (sL_ne (by omega)).trans hB]
      refine jm_lor (pc := 107) dM_choice_107 ?_
      refine jm_last (pc := 108) dM_choice_108 rfl (by decide) rfl (fun _ => rfl) ?hin ?_
      case hin =>
        exact vp_in_nI (N := 40) (by omega) (by decide)
      refine jm_aload_n (pc := 109) dM_choice_109 rfl ?_
      refine jm_getq (pc := 110) lM_93 dM_choice_110 rfl rfl (hm 33 rfl) ?_
      refine jm_iload_n (pc := 113) dM_choice_113 rfl ?_
      refine jm_aload_n (pc := 114) dM_choice_114 rfl ?_
      refine jm_getq (pc := 115) lM_37 dM_choice_115 rfl rfl (hm 12 rfl) ?_
      refine jm_iload_n (pc := 118) dM_choice_118 rfl ?_
      refine jm_iald (pc := 119) dM_choice_119 rfl (by decide) rfl (fun _ => rfl) ?hin ?_
      case hin =>
        exact vp_in_nI (N := 250) (by omega) (by decide)
      rw [nI_clamp (by omega), nI_clamp (by omega), show (sL (sL st 42 0 F (e &&& B)) 43 0 F (s ||| B)).1 21 0 p = nx ps.head? from hnx]
      refine jm_iast (pc := 120) dM_choice_120 rfl (by decide) rfl (fun _ => rfl) ?hin ?_
      case hin =>
        exact vp_in_nI (N := 40) (by omega) (by decide)
      try rw [nI_clamp (by omega)]
      have mt : MT E n F st (sI (sL (sL st 42 0 F (e &&& B)) 43 0 F (s ||| B)) 39 0 F (nx ps.head?)) := ((MT.fL (E := E) (i := n) (F := F) (k := 42) (g := F) (st := st) (v := e &&& B) (by omega) (Nat.le_refl F)).tr (MT.fL (by omega) (Nat.le_refl F))).tr (MT.fI (by omega) (Nat.le_refl F))
      exact MS.mono (ct_M_choice (hT.mv mt.1) hn hF40 (by simpa [sI, sL, u3] using hF) (by simpa [sI, sL, u3] using hA) (by simpa [sI, sL, u3] using htr) ht hd hps sI_eq (by simp [sI, sL, u3]) (by simp [sI, sL, u3])) (fun v s9 h => Or.inr ⟨h60, h⟩)
    · refine jm_aload_n (pc := 63) dM_choice_63 rfl ?_
      refine jm_getq (pc := 64) lM_84 dM_choice_64 rfl rfl (hm 30 rfl) ?_
      refine jm_iload_n (pc := 67) dM_choice_67 rfl ?_
      refine jm_iload_n (pc := 68) dM_choice_68 rfl ?_
      refine jm_iast (pc := 69) dM_choice_69 rfl (by decide) rfl (fun _ => rfl) ?hin ?_
      case hin =>
        exact vp_in_nI (N := 250) (by omega) (by decide)
      rw [nI_clamp (by omega)]
      refine jm_aload_n (pc := 70) dM_choice_70 rfl ?_
      refine jm_iload_n (pc := 71) dM_choice_71 rfl ?_
      refine jm_iconst (pc := 72) (v := 0) dM_choice_72 (by decide) ?_
      refine jm_lconst (pc := 73) (v := 0) dM_choice_73 (by decide) ?_
      refine jm_callV (pc := 74) (c_M_ended (d := d - 1) _ _ hm (by omega) ((sI_ne (by omega)).trans hF) (Or.inl rfl)) fM_ended vM_ended cM_211 dM_choice_74 rfl rfl rfl rfl (by omega) ⟨Nat.le_refl _, Nat.le_refl _⟩ rfl (Nat.le_of_ble_eq_true rfl) (fun v s2 hq => ?_)
      obtain ⟨rfl, rfl⟩ := hq
      refine jm_iconst (pc := 77) (v := 1) dM_choice_77 (by decide) ?_
      refine jm_zret (pc := 78) dM_choice_78 rfl (by first | exact Or.inl rfl | exact Or.inr rfl | assumption) ⟨Nat.le_refl _, Nat.le_refl _⟩ ?_
      exact Or.inl ⟨h60, rfl, rfl⟩
  · exact absurd h6 (by decide)
end CM8
