section CM12
variable {l : Launch} {D : mD} {d : Nat} {st : aS} {E : EE}
set_option maxRecDepth 100000 in
set_option maxHeartbeats 4000000 in
theorem ct_row_e1 {n F : Nat} {S : Int64} {x : Option aV} (hT : TM E st) (hn : n < eN E) (hF40 : F + 1 < 40) (hF : st.1 5 0 38 = nI (F + 1)) (hS : st.2.1 41 0 F = S) (h36 : st.1 36 0 n = -1) (hd : 1 ≤ d) : MS l D mM_row d 0 0 (fun v s' => v = some (vI 1) ∧ s' = ends st F n 1 S) 0 0 282 [some (vR (some (5, 0))), some (vI (nI F)), some (vI (nI n)), x] [] st := by
  have hn250 : n < 250 := Nat.lt_of_lt_of_le hn hT.1.1
  have hm := hT.2.2.1
  obtain ⟨b1_, b2_, b3_, b4_, b5_, b6_, b7_, b8_⟩ := hT.2.2.2.2 n hn
  refine jm_aload_n (pc := 282) dM_row_282 rfl ?_
  refine jm_iload_n (pc := 283) dM_row_283 rfl ?_
  refine jm_aload_n (pc := 284) dM_row_284 rfl ?_
  refine jm_getq (pc := 285) lM_84 dM_row_285 rfl rfl (hm 30 rfl) ?_
  refine jm_iload_n (pc := 288) dM_row_288 rfl ?_
  refine jm_iald (pc := 289) dM_row_289 rfl (by decide) rfl (fun _ => rfl) ?hin ?_
  case hin =>
    exact vp_in_nI (N := 250) (by omega) (by decide)
  rw [nI_clamp (by omega), h36]
  refine jm_iconst (pc := 290) (v := -1) dM_row_290 (by decide) ?_
  refine jm_icmp_ne (pc := 291) (tgt := 298) dM_row_291 (by decide) (fun h291 => ?_) (fun h291 => ?_)
  · exact absurd rfl h291
  · refine jm_iconst (pc := 294) (v := 1) dM_row_294 (by decide) ?_
    refine jm_goto (pc := 295) (tgt := 299) dM_row_295 (by decide) ?_
    refine jm_aload_n (pc := 299) dM_row_299 rfl ?_
    refine jm_getq (pc := 300) lM_99 dM_row_300 rfl rfl (hm 35 rfl) ?_
    refine jm_iload_n (pc := 303) dM_row_303 rfl ?_
    refine jm_lald (pc := 304) dM_row_304 rfl (by decide) rfl (fun _ => rfl) ?hin ?_
    case hin =>
      exact vp_in_nI (N := 40) (by omega) (by decide)
    rw [nI_clamp (by omega), hS]
    refine jm_callV (pc := 305) (c_M_ended (d := d - 1) _ _ hm (by omega) hF (by first | exact Or.inl rfl | exact Or.inr rfl)) fM_ended vM_ended cM_211 dM_row_305 rfl rfl rfl rfl (by omega) ⟨Nat.le_refl _, Nat.le_refl _⟩ rfl (Nat.le_of_ble_eq_true rfl) (fun v s2 hq => ?_)
    obtain ⟨rfl, rfl⟩ := hq
    refine jm_iconst (pc := 308) (v := 1) dM_row_308 (by decide) ?_
    refine jm_zret (pc := 309) dM_row_309 rfl (by first | exact Or.inl rfl | exact Or.inr rfl | assumption) ⟨Nat.le_refl _, Nat.le_refl _⟩ ?_
    exact ⟨rfl, rfl⟩
set_option maxRecDepth 100000 in
set_option maxHeartbeats 4000000 in
theorem ct_row_e0 {n F q : Nat} {S : Int64} {x : Option aV} (hT : TM E st) (hn : n < eN E) (hF40 : F + 1 < 40) (hF : st.1 5 0 38 = nI (F + 1)) (hS : st.2.1 41 0 F = S) (h36 : st.1 36 0 n = nI q) (hq0 : q < 250) (hd : 1 ≤ d) : MS l D mM_row d 0 0 (fun v s' => v = some (vI 1) ∧ s' = ends st F n 0 S) 0 0 282 [some (vR (some (5, 0))), some (vI (nI F)), some (vI (nI n)), x] [] st := by
  have hn250 : n < 250 := Nat.lt_of_lt_of_le hn hT.1.1
  have hm := hT.2.2.1
  obtain ⟨b1_, b2_, b3_, b4_, b5_, b6_, b7_, b8_⟩ := hT.2.2.2.2 n hn
  refine jm_aload_n (pc := 282) dM_row_282 rfl ?_
  refine jm_iload_n (pc := 283) dM_row_283 rfl ?_
  refine jm_aload_n (pc := 284) dM_row_284 rfl ?_
  refine jm_getq (pc := 285) lM_84 dM_row_285 rfl rfl (hm 30 rfl) ?_
  refine jm_iload_n (pc := 288) dM_row_288 rfl ?_
  refine jm_iald (pc := 289) dM_row_289 rfl (by decide) rfl (fun _ => rfl) ?hin ?_
  case hin =>
    exact vp_in_nI (N := 250) (by omega) (by decide)
  rw [nI_clamp (by omega), h36]
  refine jm_iconst (pc := 290) (v := -1) dM_row_290 (by decide) ?_
  refine jm_icmp_ne (pc := 291) (tgt := 298) dM_row_291 (by decide) (fun h291 => ?_) (fun h291 => ?_)
  · refine jm_iconst (pc := 298) (v := 0) dM_row_298 (by decide) ?_
    refine jm_aload_n (pc := 299) dM_row_299 rfl ?_
    refine jm_getq (pc := 300) lM_99 dM_row_300 rfl rfl (hm 35 rfl) ?_
    refine jm_iload_n (pc := 303) dM_row_303 rfl ?_
    refine jm_lald (pc := 304) dM_row_304 rfl (by decide) rfl (fun _ => rfl) ?hin ?_
    case hin =>
      exact vp_in_nI (N := 40) (by omega) (by decide)
    rw [nI_clamp (by omega), hS]
    refine jm_callV (pc := 305) (c_M_ended (d := d - 1) _ _ hm (by omega) hF (by first | exact Or.inl rfl | exact Or.inr rfl)) fM_ended vM_ended cM_211 dM_row_305 rfl rfl rfl rfl (by omega) ⟨Nat.le_refl _, Nat.le_refl _⟩ rfl (Nat.le_of_ble_eq_true rfl) (fun v s2 hq => ?_)
    obtain ⟨rfl, rfl⟩ := hq
    refine jm_iconst (pc := 308) (v := 1) dM_row_308 (by decide) ?_
    refine jm_zret (pc := 309) dM_row_309 rfl (by first | exact Or.inl rfl | exact Or.inr rfl | assumption) ⟨Nat.le_refl _, Nat.le_refl _⟩ ?_
    exact ⟨rfl, rfl⟩
  · exact absurd h291 (fun z => nI_pos (n := q) (by omega) (by rw [z]; decide))
set_option maxRecDepth 100000 in
set_option maxHeartbeats 4000000 in
theorem ct_row_b2 {n F q : Nat} {S : Int64} {x : Int32} (hT : TM E st) (hn : n < eN E) (hF40 : F + 1 < 40) (hF : st.1 5 0 38 = nI (F + 1)) (hS : st.2.1 41 0 F = S) (h36 : st.1 36 0 n = nI q) (hq0 : q < 250) (hd : 1 ≤ d) : MS l D mM_row d 0 0 (fun v s' => v = some (vI 1) ∧ s' = ends st F n 0 S) 0 0 241 [some (vR (some (5, 0))), some (vI (nI F)), some (vI (nI n)), some (vI x)] [] st := by
  have hn250 : n < 250 := Nat.lt_of_lt_of_le hn hT.1.1
  have hm := hT.2.2.1
  obtain ⟨b1_, b2_, b3_, b4_, b5_, b6_, b7_, b8_⟩ := hT.2.2.2.2 n hn
  refine jm_iload_n (pc := 241) dM_row_241 rfl ?_
  refine jm_iconst (pc := 242) (v := -1) dM_row_242 (by decide) ?_
  refine jm_icmp_eq (pc := 243) (tgt := 282) dM_row_243 (by decide) (fun h243 => ?_) (fun h243 => ?_)
  · exact ct_row_e0 hT hn hF40 hF hS h36 hq0 hd
  · refine jm_aload_n (pc := 246) dM_row_246 rfl ?_
    refine jm_getq (pc := 247) lM_84 dM_row_247 rfl rfl (hm 30 rfl) ?_
    refine jm_iload_n (pc := 250) dM_row_250 rfl ?_
    refine jm_iald (pc := 251) dM_row_251 rfl (by decide) rfl (fun _ => rfl) ?hin ?_
    case hin =>
      exact vp_in_nI (N := 250) (by omega) (by decide)
    rw [nI_clamp (by omega), h36]
    refine jm_iconst (pc := 252) (v := -1) dM_row_252 (by decide) ?_
    refine jm_icmp_ne (pc := 253) (tgt := 282) dM_row_253 (by decide) (fun h253 => ?_) (fun h253 => ?_)
    · exact ct_row_e0 hT hn hF40 hF hS h36 hq0 hd
    · exact absurd h253 (fun z => nI_pos (n := q) (by omega) (by rw [z]; decide))
set_option maxRecDepth 100000 in
set_option maxHeartbeats 4000000 in
theorem lp_row_b {n F : Nat} {S : Int64} (hT : TM E st) (hn : n < eN E) (hF40 : F + 1 < 40) (hF : st.1 5 0 38 = nI (F + 1)) (hS : st.2.1 41 0 F = S) (h36 : st.1 36 0 n = -1) (hd : 1 ≤ d) : ∀ (sfx : List Nat) (j : Nat), sfx = (eK E n).drop j → MS l D mM_row d 0 0 (rowE n F S st sfx) 0 0 241 [some (vR (some (5, 0))), some (vI (nI F)), some (vI (nI n)), some (vI (nx sfx.head?))] [] st := by
  have hn250 : n < 250 := Nat.lt_of_lt_of_le hn hT.1.1
  have hm := hT.2.2.1
  obtain ⟨b1_, b2_, b3_, b4_, b5_, b6_, b7_, b8_⟩ := hT.2.2.2.2 n hn
  intro sfx
  induction sfx with
  | nil =>
    intro j hj
    refine jm_iload_n (pc := 241) dM_row_241 rfl ?_
    refine jm_iconst (pc := 242) (v := -1) dM_row_242 (by decide) ?_
    refine jm_icmp_eq (pc := 243) (tgt := 282) dM_row_243 (by decide) (fun h243 => ?_) (fun h243 => ?_)
    · exact ct_row_e1 hT hn hF40 hF hS h36 hd
    · exact absurd rfl h243
  | cons p ps ih =>
    intro j hj
    obtain ⟨hjp, hps⟩ := drop_cons hj
    have hpk : p ∈ eK E n := List.mem_of_getElem? hjp
    have hp := hT.1.kid hn hpk
    have hp250 : p < 250 := Nat.lt_of_lt_of_le hp.1 hT.1.1
    have hnx : st.1 21 0 p = nx ps.head? := by rw [b4_ j p hjp, hps, List.head?_drop]
    refine jm_iload_n (pc := 241) dM_row_241 rfl ?_
    refine jm_iconst (pc := 242) (v := -1) dM_row_242 (by decide) ?_
    refine jm_icmp_eq (pc := 243) (tgt := 282) dM_row_243 (by decide) (fun h243 => ?_) (fun h243 => ?_)
    · exact absurd h243 (fun z => nI_pos (n := p) (by omega) (by rw [show nI p = -1 from z]; decide))
    · refine jm_aload_n (pc := 246) dM_row_246 rfl ?_
      refine jm_getq (pc := 247) lM_84 dM_row_247 rfl rfl (hm 30 rfl) ?_
      refine jm_iload_n (pc := 250) dM_row_250 rfl ?_
      refine jm_iald (pc := 251) dM_row_251 rfl (by decide) rfl (fun _ => rfl) ?hin ?_
      case hin =>
        exact vp_in_nI (N := 250) (by omega) (by decide)
      rw [nI_clamp (by omega), h36]
      refine jm_iconst (pc := 252) (v := -1) dM_row_252 (by decide) ?_
      refine jm_icmp_ne (pc := 253) (tgt := 282) dM_row_253 (by decide) (fun h253 => ?_) (fun h253 => ?_)
      · exact absurd rfl h253
      · refine jm_aload_n (pc := 256) dM_row_256 rfl ?_
        refine jm_getq (pc := 257) lM_72 dM_row_257 rfl rfl (hm 26 rfl) ?_
        refine jm_iload_n (pc := 260) dM_row_260 rfl ?_
        refine jm_zald (pc := 261) dM_row_261 rfl (by decide) rfl (fun _ => rfl) ?hin ?_
        case hin =>
          exact vp_in_nI (n := p) (N := 250) (by omega) (by decide)
        rw [show (nx (p :: ps).head?) = nI p from rfl, nI_clamp (by omega)]
        refine jm_if_ne (pc := 262) (tgt := 272) dM_row_262 (by decide) (fun h262 => ?_) (fun h262 => ?_)
        · try rw [nI_clamp (by omega)]
          refine jm_aload_n (pc := 272) dM_row_272 rfl ?_
          refine jm_getq (pc := 273) lM_37 dM_row_273 rfl rfl (hm 12 rfl) ?_
          refine jm_iload_n (pc := 276) dM_row_276 rfl ?_
          refine jm_iald (pc := 277) dM_row_277 rfl (by decide) rfl (fun _ => rfl) ?hin ?_
          case hin =>
            exact vp_in_nI (n := p) (N := 250) (by omega) (by decide)
          rw [nI_clamp (by omega)]
          first | rw [hnx] | rw [show (sI st 36 0 n (nI p)).1 21 0 p = nx ps.head? from (sI_ne (by omega)).trans hnx]
          refine jm_istore_n (pc := 278) dM_row_278 (by decide) ?_
          refine jm_goto (pc := 279) (tgt := 241) dM_row_279 (by decide) ?_
          first
            | exact MS.mono (ih (j + 1) hps) (fun v s9 h => by unfold rowE at h ⊢; rw [mlf_neg h262]; exact h)
            | exact MS.mono (ct_row_b2 (q := p) (hT.mv (MT.pI (E := E) (i := n) (F := F) (by omega) subP_self (by omega)).1) hn hF40 ((sI_ne (by omega)).trans hF) hS sI_eq hp250 hd) (fun v s9 h => by unfold rowE; rw [mlf_pos h262]; exact h)
        · refine jm_aload_n (pc := 265) dM_row_265 rfl ?_
          refine jm_getq (pc := 266) lM_84 dM_row_266 rfl rfl (hm 30 rfl) ?_
          refine jm_iload_n (pc := 269) dM_row_269 rfl ?_
          refine jm_iload_n (pc := 270) dM_row_270 rfl ?_
          refine jm_iast (pc := 271) dM_row_271 rfl (by decide) rfl (fun _ => rfl) ?hin ?_
          case hin =>
            exact vp_in_nI (N := 250) (by omega) (by decide)
          try rw [nI_clamp (by omega)]
          refine jm_aload_n (pc := 272) dM_row_272 rfl ?_
          refine jm_getq (pc := 273) lM_37 dM_row_273 rfl rfl (hm 12 rfl) ?_
          refine jm_iload_n (pc := 276) dM_row_276 rfl ?_
          refine jm_iald (pc := 277) dM_row_277 rfl (by decide) rfl (fun _ => rfl) ?hin ?_
          case hin =>
            exact vp_in_nI (n := p) (N := 250) (by omega) (by decide)
          rw [nI_clamp (by omega)]
          first | rw [hnx] | rw [show (sI st 36 0 n (nI p)).1 21 0 p = nx ps.head? from (sI_ne (by omega)).trans hnx]
          refine jm_istore_n (pc := 278) dM_row_278 (by decide) ?_
          refine jm_goto (pc := 279) (tgt := 241) dM_row_279 (by decide) ?_
          first
            | exact MS.mono (ih (j + 1) hps) (fun v s9 h => by unfold rowE at h ⊢; rw [mlf_neg h262]; exact h)
            | exact MS.mono (ct_row_b2 (q := p) (hT.mv (MT.pI (E := E) (i := n) (F := F) (by omega) subP_self (by omega)).1) hn hF40 ((sI_ne (by omega)).trans hF) hS sI_eq hp250 hd) (fun v s9 h => by unfold rowE; rw [mlf_pos h262]; exact h)
set_option maxRecDepth 100000 in
set_option maxHeartbeats 4000000 in
theorem lp_row {n F t : Nat} {S : Int64} {x : Option aV} (hT : TM E st) (hn : n < eN E) (hF40 : F + 1 < 40) (hF : st.1 5 0 38 = nI (F + 1)) (hS : st.2.1 41 0 F = S) (h36 : st.1 36 0 n = -1) (htr : st.1 5 0 39 = nI t) (ht : t ≤ 20000) (hd : 5 ≤ d) : ∀ (sfx : List Nat) (j : Nat), sfx = (eK E n).drop j → MS l D mM_row d 0 0 (rowQ E n F t S st sfx) 0 0 163 [some (vR (some (5, 0))), some (vI (nI F)), some (vI (nI n)), x] [] (sI st 39 0 F (nx sfx.head?)) := by
  have hn250 : n < 250 := Nat.lt_of_lt_of_le hn hT.1.1
  have hm := hT.2.2.1
  obtain ⟨b1_, b2_, b3_, b4_, b5_, b6_, b7_, b8_⟩ := hT.2.2.2.2 n hn
  have fT : ∀ v, TM E (sI st 39 0 F v) := fun v => hT.mv (MT.fI (E := E) (i := n) (F := F) (by omega) (Nat.le_refl F)).1
  intro sfx
  induction sfx with
  | nil =>
    intro j hj
    have e1 : (sI st 39 0 F (nx ([] : List Nat).head?)).1 39 0 F = -1 := sI_eq
    refine jm_aload_n (pc := 163) dM_row_163 rfl ?_
    refine jm_getq (pc := 164) lM_93 dM_row_164 rfl rfl (hm 33 rfl) ?_
    refine jm_iload_n (pc := 167) dM_row_167 rfl ?_
    refine jm_iald (pc := 168) dM_row_168 rfl (by decide) rfl (fun _ => rfl) ?hin ?_
    case hin =>
      exact vp_in_nI (N := 40) (by omega) (by decide)
    rw [nI_clamp (by omega), e1]
    refine jm_iconst (pc := 169) (v := -1) dM_row_169 (by decide) ?_
    refine jm_icmp_eq (pc := 170) (tgt := 207) dM_row_170 (by decide) (fun h170 => ?_) (fun h170 => ?_)
    · refine jm_aload_n (pc := 207) dM_row_207 rfl ?_
      refine jm_getq (pc := 208) lM_93 dM_row_208 rfl rfl (hm 33 rfl) ?_
      refine jm_iload_n (pc := 211) dM_row_211 rfl ?_
      refine jm_iald (pc := 212) dM_row_212 rfl (by decide) rfl (fun _ => rfl) ?hin ?_
      case hin =>
        exact vp_in_nI (N := 40) (by omega) (by decide)
      rw [nI_clamp (by omega), e1]
      refine jm_iconst (pc := 213) (v := -1) dM_row_213 (by decide) ?_
      refine jm_icmp_eq (pc := 214) (tgt := 234) dM_row_214 (by decide) (fun h214 => ?_) (fun h214 => ?_)
      · refine jm_aload_n (pc := 234) dM_row_234 rfl ?_
        refine jm_getq (pc := 235) lM_31 dM_row_235 rfl rfl (hm 10 rfl) ?_
        refine jm_iload_n (pc := 238) dM_row_238 rfl ?_
        refine jm_iald (pc := 239) dM_row_239 rfl (by decide) rfl (fun _ => rfl) ?hin ?_
        case hin =>
          exact vp_in_nI (N := 250) (by omega) (by decide)
        rw [nI_clamp (by omega), show (sI st 39 0 F (nx ([] : List Nat).head?)).1 19 0 n = nx (eK E n).head? from (sI_ne (by omega)).trans b3_]
        refine jm_istore_n (pc := 240) dM_row_240 (by decide) ?_
        exact lp_row_b (fT _) hn hF40 ((sI_ne (by omega)).trans hF) hS ((sI_ne (by omega)).trans h36) (by omega) (eK E n) 0 rfl
      · exact absurd rfl h214
    · exact absurd rfl h170
  | cons p ps ih =>
    intro j hj
    obtain ⟨hjp, hps⟩ := drop_cons hj
    have hpk : p ∈ eK E n := List.mem_of_getElem? hjp
    have hp := hT.1.kid hn hpk
    have hp250 : p < 250 := Nat.lt_of_lt_of_le hp.1 hT.1.1
    have hnx : st.1 21 0 p = nx ps.head? := by rw [b4_ j p hjp, hps, List.head?_drop]
    have e1 : (sI st 39 0 F (nx (p :: ps).head?)).1 39 0 F = nI p := sI_eq
    have e2 : (sI st 39 0 F (nx (p :: ps).head?)).1 32 0 p = st.1 32 0 p := sI_ne (by omega)
    refine jm_aload_n (pc := 163) dM_row_163 rfl ?_
    refine jm_getq (pc := 164) lM_93 dM_row_164 rfl rfl (hm 33 rfl) ?_
    refine jm_iload_n (pc := 167) dM_row_167 rfl ?_
    refine jm_iald (pc := 168) dM_row_168 rfl (by decide) rfl (fun _ => rfl) ?hin ?_
    case hin =>
      exact vp_in_nI (N := 40) (by omega) (by decide)
    rw [nI_clamp (by omega), e1]
    refine jm_iconst (pc := 169) (v := -1) dM_row_169 (by decide) ?_
    refine jm_icmp_eq (pc := 170) (tgt := 207) dM_row_170 (by decide) (fun h170 => ?_) (fun h170 => ?_)
    · exact absurd h170 (fun z => nI_pos (n := p) (by omega) (by rw [z]; decide))
    · refine jm_aload_n (pc := 173) dM_row_173 rfl ?_
      refine jm_getq (pc := 174) lM_72 dM_row_174 rfl rfl (hm 26 rfl) ?_
      refine jm_aload_n (pc := 177) dM_row_177 rfl ?_
      refine jm_getq (pc := 178) lM_93 dM_row_178 rfl rfl (hm 33 rfl) ?_
      refine jm_iload_n (pc := 181) dM_row_181 rfl ?_
      refine jm_iald (pc := 182) dM_row_182 rfl (by decide) rfl (fun _ => rfl) ?hin ?_
      case hin =>
        exact vp_in_nI (N := 40) (by omega) (by decide)
      rw [nI_clamp (by omega), e1]
      refine jm_zald (pc := 183) dM_row_183 rfl (by decide) rfl (fun _ => rfl) ?hin ?_
      case hin =>
        exact vp_in_nI (n := p) (N := 250) (by omega) (by decide)
      rw [nI_clamp (by omega), e2]
      refine jm_if_eq (pc := 184) (tgt := 207) dM_row_184 (by decide) (fun h184 => ?_) (fun h184 => ?_)
      · refine jm_aload_n (pc := 207) dM_row_207 rfl ?_
        refine jm_getq (pc := 208) lM_93 dM_row_208 rfl rfl (hm 33 rfl) ?_
        refine jm_iload_n (pc := 211) dM_row_211 rfl ?_
        refine jm_iald (pc := 212) dM_row_212 rfl (by decide) rfl (fun _ => rfl) ?hin ?_
        case hin =>
          exact vp_in_nI (N := 40) (by omega) (by decide)
        rw [nI_clamp (by omega), e1]
        refine jm_iconst (pc := 213) (v := -1) dM_row_213 (by decide) ?_
        refine jm_icmp_eq (pc := 214) (tgt := 234) dM_row_214 (by decide) (fun h214 => ?_) (fun h214 => ?_)
        · exact absurd h214 (fun z => nI_pos (n := p) (by omega) (by rw [z]; decide))
        · refine jm_aload_n (pc := 217) dM_row_217 rfl ?_
          refine jm_aload_n (pc := 218) dM_row_218 rfl ?_
          refine jm_getq (pc := 219) lM_93 dM_row_219 rfl rfl (hm 33 rfl) ?_
          refine jm_iload_n (pc := 222) dM_row_222 rfl ?_
          refine jm_iald (pc := 223) dM_row_223 rfl (by decide) rfl (fun _ => rfl) ?hin ?_
          case hin =>
            exact vp_in_nI (N := 40) (by omega) (by decide)
          rw [nI_clamp (by omega), e1]
          refine jm_aload_n (pc := 224) dM_row_224 rfl ?_
          refine jm_getq (pc := 225) lM_99 dM_row_225 rfl rfl (hm 35 rfl) ?_
          refine jm_iload_n (pc := 228) dM_row_228 rfl ?_
          refine jm_lald (pc := 229) dM_row_229 rfl (by decide) rfl (fun _ => rfl) ?hin ?_
          case hin =>
            exact vp_in_nI (N := 40) (by omega) (by decide)
          rw [nI_clamp (by omega), show (sI st 39 0 F (nx (p :: ps).head?)).2.1 41 0 F = S from hS]
          refine jm_callV (pc := 230) (c_M_tried (d := d - 1) (fT _) hp.1 ((sI_ne (by omega)).trans hF) (by omega) ((sI_ne (by omega)).trans htr) ht (by omega)) fM_tried vM_tried cM_207 dM_row_230 rfl rfl rfl rfl (by omega) ⟨Nat.le_refl _, Nat.le_refl _⟩ rfl (Nat.le_of_ble_eq_true rfl) (fun v s2 hq => ?_)
          obtain ⟨b9, rfl, hb9⟩ := tQ_v hq
          refine jm_zret (pc := 233) dM_row_233 rfl (hb9) ⟨Nat.le_refl _, Nat.le_refl _⟩ ?_
          unfold rowQ
          rw [mlf_pos h184]
          exact hq
      · refine jm_aload_n (pc := 187) dM_row_187 rfl ?_
        refine jm_getq (pc := 188) lM_93 dM_row_188 rfl rfl (hm 33 rfl) ?_
        refine jm_iload_n (pc := 191) dM_row_191 rfl ?_
        refine jm_aload_n (pc := 192) dM_row_192 rfl ?_
        refine jm_getq (pc := 193) lM_37 dM_row_193 rfl rfl (hm 12 rfl) ?_
        refine jm_aload_n (pc := 196) dM_row_196 rfl ?_
        refine jm_getq (pc := 197) lM_93 dM_row_197 rfl rfl (hm 33 rfl) ?_
        refine jm_iload_n (pc := 200) dM_row_200 rfl ?_
        refine jm_iald (pc := 201) dM_row_201 rfl (by decide) rfl (fun _ => rfl) ?hin ?_
        case hin =>
          exact vp_in_nI (N := 40) (by omega) (by decide)
        rw [nI_clamp (by omega), e1]
        refine jm_iald (pc := 202) dM_row_202 rfl (by decide) rfl (fun _ => rfl) ?hin ?_
        case hin =>
          exact vp_in_nI (n := p) (N := 250) (by omega) (by decide)
        rw [nI_clamp (by omega), show (sI st 39 0 F (nx (p :: ps).head?)).1 21 0 p = nx ps.head? from (sI_ne (by omega)).trans hnx]
        refine jm_iast (pc := 203) dM_row_203 rfl (by decide) rfl (fun _ => rfl) ?hin ?_
        case hin =>
          exact vp_in_nI (N := 40) (by omega) (by decide)
        refine jm_goto (pc := 204) (tgt := 163) dM_row_204 (by decide) ?_
        rw [nI_clamp (by omega), sI_sI]
        exact MS.mono (ih (j + 1) hps) (fun v s9 h => by unfold rowQ at h ⊢; rw [mlf_neg h184]; exact h)
theorem ct_row {n F t j : Nat} {S : Int64} {x : Option aV} {sfx : List Nat} (hT : TM E st) (hn : n < eN E) (hF40 : F + 1 < 40) (hF : st.1 5 0 38 = nI (F + 1)) (hS : st.2.1 41 0 F = S) (h36 : st.1 36 0 n = -1) (htr : st.1 5 0 39 = nI t) (ht : t ≤ 20000) (hd : 5 ≤ d) (hj : sfx = (eK E n).drop j) (hat : st.1 39 0 F = nx sfx.head?) : MS l D mM_row d 0 0 (rowQ E n F t S st sfx) 0 0 163 [some (vR (some (5, 0))), some (vI (nI F)), some (vI (nI n)), x] [] st := by
  have e : sI st 39 0 F (nx sfx.head?) = st := by rw [← hat]; exact sI_self
  have h := lp_row (x := x) (d := d) (l := l) (D := D) hT hn hF40 hF hS h36 htr ht hd sfx j hj
  rw [e] at h
  exact h
set_option maxRecDepth 100000 in
set_option maxHeartbeats 4000000 in
theorem lp_row_c {n F : Nat} {Q : Option aV → aS → Prop} (hn : n < eN E) : ∀ (ps : List Nat) (j : Nat) (st : aS), ps = (eK E n).drop j → TM E st → MS l D mM_row d 0 0 Q 0 0 38 [some (vR (some (5, 0))), some (vI (nI F)), some (vI (nI n)), some (vI (-1))] [] (clrF ps st) → MS l D mM_row d 0 0 Q 0 0 16 [some (vR (some (5, 0))), some (vI (nI F)), some (vI (nI n)), some (vI (nx ps.head?))] [] st := by
  intro ps
  induction ps with
  | nil =>
    intro j st hj hT kk
    refine jm_iload_n (pc := 16) dM_row_16 rfl ?_
    refine jm_iconst (pc := 17) (v := -1) dM_row_17 (by decide) ?_
    refine jm_icmp_eq (pc := 18) (tgt := 38) dM_row_18 (by decide) (fun h18 => ?_) (fun h18 => ?_)
    · exact kk
    · exact absurd rfl h18
  | cons p ps ih =>
    intro j st hj hT kk
    have hn250 : n < 250 := Nat.lt_of_lt_of_le hn hT.1.1
    have hm := hT.2.2.1
    obtain ⟨b1_, b2_, b3_, b4_, b5_, b6_, b7_, b8_⟩ := hT.2.2.2.2 n hn
    obtain ⟨hjp, hps⟩ := drop_cons hj
    have hpk : p ∈ eK E n := List.mem_of_getElem? hjp
    have hp := hT.1.kid hn hpk
    have hp250 : p < 250 := Nat.lt_of_lt_of_le hp.1 hT.1.1
    have hnx : st.1 21 0 p = nx ps.head? := by rw [b4_ j p hjp, hps, List.head?_drop]
    refine jm_iload_n (pc := 16) dM_row_16 rfl ?_
    refine jm_iconst (pc := 17) (v := -1) dM_row_17 (by decide) ?_
    refine jm_icmp_eq (pc := 18) (tgt := 38) dM_row_18 (by decide) (fun h18 => ?_) (fun h18 => ?_)
    · exact absurd h18 (fun z => nI_pos (n := p) (by omega) (by rw [show nI p = -1 from z]; decide))
    · refine jm_aload_n (pc := 21) dM_row_21 rfl ?_
      refine jm_getq (pc := 22) lM_72 dM_row_22 rfl rfl (hm 26 rfl) ?_
      refine jm_iload_n (pc := 25) dM_row_25 rfl ?_
      refine jm_iconst (pc := 26) (v := 0) dM_row_26 (by decide) ?_
      refine jm_zast (pc := 27) dM_row_27 rfl (by decide) rfl (fun _ => rfl) ?hin (by first | exact Or.inl rfl | exact Or.inr rfl | assumption) ?_
      case hin =>
        exact vp_in_nI (n := p) (N := 250) (by omega) (by decide)
      rw [show (nx (p :: ps).head?) = nI p from rfl, nI_clamp (by omega)]
      refine jm_aload_n (pc := 28) dM_row_28 rfl ?_
      refine jm_getq (pc := 29) lM_37 dM_row_29 rfl rfl (hm 12 rfl) ?_
      refine jm_iload_n (pc := 32) dM_row_32 rfl ?_
      refine jm_iald (pc := 33) dM_row_33 rfl (by decide) rfl (fun _ => rfl) ?hin ?_
      case hin =>
        exact vp_in_nI (n := p) (N := 250) (by omega) (by decide)
      rw [nI_clamp (by omega), show (sI st 32 0 p 0).1 21 0 p = nx ps.head? from (sI_ne (by omega)).trans hnx]
      refine jm_istore_n (pc := 34) dM_row_34 (by decide) ?_
      refine jm_goto (pc := 35) (tgt := 16) dM_row_35 (by decide) ?_
      exact ih (j + 1) _ hps (hT.mv (MT.pI (E := E) (i := n) (F := F) (by omega) (hT.1.sub hn hpk subP_self) (fun _ => by omega)).1) kk
set_option maxRecDepth 100000 in
set_option maxHeartbeats 4000000 in
theorem c_M_row_0 {n F t : Nat} {S : Int64} (hT : TM E st) (hn : n < eN E) (hF40 : F + 1 < 40) (hF : st.1 5 0 38 = nI (F + 1)) (hs : st.1 38 0 F = 0) (hA : st.2.1 29 0 n = S) (h36 : st.1 36 0 n = -1) (htr : st.1 5 0 39 = nI t) (ht : t ≤ 20000) (hd : 5 ≤ d) : MC l D mM_row d 0 0 [vR (some (5, 0)), vI (nI F), vI (nI n)] st (rowQ E n F t S (sI (sL (sI (sI (clrF (eK E n) st) 38 0 F 1) 39 0 F (nx (eK E n).head?)) 41 0 F S) 40 0 F 0) (eK E n)) := by
  refine jm_start (ls0 := [some (vR (some (5, 0))), some (vI (nI F)), some (vI (nI n)), none]) (by decide) (Nat.le_of_ble_eq_true rfl) rfl ?_
  have hn250 : n < 250 := Nat.lt_of_lt_of_le hn hT.1.1
  have hm := hT.2.2.1
  obtain ⟨b1_, b2_, b3_, b4_, b5_, b6_, b7_, b8_⟩ := hT.2.2.2.2 n hn
  refine jm_aload_n (pc := 0) dM_row_0 rfl ?_
  refine jm_getq (pc := 1) lM_90 dM_row_1 rfl rfl (hm 32 rfl) ?_
  refine jm_iload_n (pc := 4) dM_row_4 rfl ?_
  refine jm_iald (pc := 5) dM_row_5 rfl (by decide) rfl (fun _ => rfl) ?hin ?_
  case hin =>
    exact vp_in_nI (N := 40) (by omega) (by decide)
  rw [nI_clamp (by omega), hs]
  refine jm_if_ne (pc := 6) (tgt := 79) dM_row_6 (by decide) (fun h6 => ?_) (fun h6 => ?_)
  · exact absurd rfl h6
  · refine jm_aload_n (pc := 9) dM_row_9 rfl ?_
    refine jm_getq (pc := 10) lM_31 dM_row_10 rfl rfl (hm 10 rfl) ?_
    refine jm_iload_n (pc := 13) dM_row_13 rfl ?_
    refine jm_iald (pc := 14) dM_row_14 rfl (by decide) rfl (fun _ => rfl) ?hin ?_
    case hin =>
      exact vp_in_nI (N := 250) (by omega) (by decide)
    rw [nI_clamp (by omega), b3_]
    refine jm_istore_n (pc := 15) dM_row_15 (by decide) ?_
    refine lp_row_c hn (eK E n) 0 st rfl hT ?_
    have hC := clrF_MT (F := F) hT.1 hn (eK E n) st (fun _ h => h)
    have c2 := clrF_2 (eK E n) st
    have hm := (hT.mv hC.1).2.2.1
    have c1 : ∀ {a b c : Nat}, ¬ a = 32 → (clrF (eK E n) st).1 a b c = st.1 a b c := fun h => clrF_1 (eK E n) st h
    refine jm_aload_n (pc := 38) dM_row_38 rfl ?_
    refine jm_getq (pc := 39) lM_90 dM_row_39 rfl rfl (hm 32 rfl) ?_
    refine jm_iload_n (pc := 42) dM_row_42 rfl ?_
    refine jm_iconst (pc := 43) (v := 1) dM_row_43 (by decide) ?_
    refine jm_iast (pc := 44) dM_row_44 rfl (by decide) rfl (fun _ => rfl) ?hin ?_
    case hin =>
      exact vp_in_nI (N := 40) (by omega) (by decide)
    rw [nI_clamp (by omega)]
    refine jm_aload_n (pc := 45) dM_row_45 rfl ?_
    refine jm_getq (pc := 46) lM_93 dM_row_46 rfl rfl (hm 33 rfl) ?_
    refine jm_iload_n (pc := 49) dM_row_49 rfl ?_
    refine jm_aload_n (pc := 50) dM_row_50 rfl ?_
    refine jm_getq (pc := 51) lM_31 dM_row_51 rfl rfl (hm 10 rfl) ?_
    refine jm_iload_n (pc := 54) dM_row_54 rfl ?_
    refine jm_iald (pc := 55) dM_row_55 rfl (by decide) rfl (fun _ => rfl) ?hin ?_
    case hin =>
      exact vp_in_nI (N := 250) (by omega) (by decide)
    refine jm_iast (pc := 56) dM_row_56 rfl (by decide) rfl (fun _ => rfl) ?hin ?_
    case hin =>
      exact vp_in_nI (N := 40) (by omega) (by decide)
    rw [nI_clamp (by omega), nI_clamp (by omega), show (sI (clrF (eK E n) st) 38 0 F 1).1 19 0 n = nx (eK E n).head? from (sI_ne (by omega)).trans ((c1 (by omega)).trans b3_)]
    refine jm_aload_n (pc := 57) dM_row_57 rfl ?_
    refine jm_getq (pc := 58) lM_99 dM_row_58 rfl rfl (hm 35 rfl) ?_
    refine jm_iload_n (pc := 61) dM_row_61 rfl ?_
    refine jm_aload_n (pc := 62) dM_row_62 rfl ?_
    refine jm_getq (pc := 63) lM_62 dM_row_63 rfl rfl (hm 23 rfl) ?_
    refine jm_iload_n (pc := 66) dM_row_66 rfl ?_
    refine jm_lald (pc := 67) dM_row_67 rfl (by decide) rfl (fun _ => rfl) ?hin ?_
    case hin =>
      exact vp_in_nI (N := 250) (by omega) (by decide)
    refine jm_last (pc := 68) dM_row_68 rfl (by decide) rfl (fun _ => rfl) ?hin ?_
    case hin =>
      exact vp_in_nI (N := 40) (by omega) (by decide)
    rw [nI_clamp (by omega), nI_clamp (by omega), show (sI (sI (clrF (eK E n) st) 38 0 F 1) 39 0 F (nx (eK E n).head?)).2.1 29 0 n = S from (congrArg (fun z => z.1 29 0 n) c2).trans hA]
    refine jm_aload_n (pc := 69) dM_row_69 rfl ?_
    refine jm_getq (pc := 70) lM_96 dM_row_70 rfl rfl (hm 34 rfl) ?_
    refine jm_iload_n (pc := 73) dM_row_73 rfl ?_
    refine jm_iconst (pc := 74) (v := 0) dM_row_74 (by decide) ?_
    refine jm_iast (pc := 75) dM_row_75 rfl (by decide) rfl (fun _ => rfl) ?hin ?_
    case hin =>
      exact vp_in_nI (N := 40) (by omega) (by decide)
    rw [nI_clamp (by omega)]
    refine jm_goto (pc := 76) (tgt := 163) dM_row_76 (by decide) ?_
    have g3 : MT E n F st (sI (sL (sI (sI (clrF (eK E n) st) 38 0 F 1) 39 0 F (nx (eK E n).head?)) 41 0 F S) 40 0 F 0) := (((hC.tr (MT.fI (by omega) (Nat.le_refl F))).tr (MT.fI (by omega) (Nat.le_refl F))).tr (MT.fL (by omega) (Nat.le_refl F))).tr (MT.fI (by omega) (Nat.le_refl F))
    have h36' : (clrF (eK E n) st).1 36 0 n = -1 := (c1 (by omega)).trans h36
    have hF' : (clrF (eK E n) st).1 5 0 38 = nI (F + 1) := (c1 (by omega)).trans hF
    have htr' : (clrF (eK E n) st).1 5 0 39 = nI t := (c1 (by omega)).trans htr
    exact ct_row (j := 0) (hT.mv g3.1) hn hF40 (by simpa [sI, sL, u3] using hF') (by simp [sI, sL, u3]) (by simpa [sI, sL, u3] using h36') (by simpa [sI, sL, u3] using htr') ht hd rfl (by simp [sI, sL, u3])
set_option maxRecDepth 100000 in
set_option maxHeartbeats 4000000 in
theorem c_M_row_1 {n F t p j r : Nat} {S B : Int64} {g : Int32} (hT : TM E st) (hn : n < eN E) (hF40 : F + 1 < 40) (hF : st.1 5 0 38 = nI (F + 1)) (hs : st.1 38 0 F = 1) (hS : st.2.1 41 0 F = S) (h36 : st.1 36 0 n = -1) (htr : st.1 5 0 39 = nI t) (ht : t ≤ 20000) (hjp : (eK E n)[j]? = some p) (hat : st.1 39 0 F = nI p) (hr : st.1 40 0 F = nI r) (hg : st.1 31 0 p = g) (hB : st.2.1 30 0 p = B) (hd : 5 ≤ d) : MC l D mM_row d 0 0 [vR (some (5, 0)), vI (nI F), vI (nI n)] st (fun v s' => (g = 0 ∧ rowQ E n F t S (sI st 39 0 F (nx ((eK E n).drop (j + 1)).head?)) ((eK E n).drop (j + 1)) v s') ∨ (¬ g = 0 ∧ rowQ E n F t B (sI (sL (sI (sI (sI st 32 0 p 1) 33 0 p (nI r)) 40 0 F (nI (r + 1))) 41 0 F B) 39 0 F (nx (eK E n).head?)) (eK E n) v s')) := by
  refine jm_start (ls0 := [some (vR (some (5, 0))), some (vI (nI F)), some (vI (nI n)), none]) (by decide) (Nat.le_of_ble_eq_true rfl) rfl ?_
  have hn250 : n < 250 := Nat.lt_of_lt_of_le hn hT.1.1
  have hm := hT.2.2.1
  obtain ⟨b1_, b2_, b3_, b4_, b5_, b6_, b7_, b8_⟩ := hT.2.2.2.2 n hn
  have hpk : p ∈ eK E n := List.mem_of_getElem? hjp
  have hp := hT.1.kid hn hpk
  have hp250 : p < 250 := Nat.lt_of_lt_of_le hp.1 hT.1.1
  have hnx : st.1 21 0 p = nx ((eK E n).drop (j + 1)).head? := by rw [b4_ j p hjp, List.head?_drop]
  refine jm_aload_n (pc := 0) dM_row_0 rfl ?_
  refine jm_getq (pc := 1) lM_90 dM_row_1 rfl rfl (hm 32 rfl) ?_
  refine jm_iload_n (pc := 4) dM_row_4 rfl ?_
  refine jm_iald (pc := 5) dM_row_5 rfl (by decide) rfl (fun _ => rfl) ?hin ?_
  case hin =>
    exact vp_in_nI (N := 40) (by omega) (by decide)
  rw [nI_clamp (by omega), hs]
  refine jm_if_ne (pc := 6) (tgt := 79) dM_row_6 (by decide) (fun h6 => ?_) (fun h6 => ?_)
  · refine jm_aload_n (pc := 79) dM_row_79 rfl ?_
    refine jm_getq (pc := 80) lM_93 dM_row_80 rfl rfl (hm 33 rfl) ?_
    refine jm_iload_n (pc := 83) dM_row_83 rfl ?_
    refine jm_iald (pc := 84) dM_row_84 rfl (by decide) rfl (fun _ => rfl) ?hin ?_
    case hin =>
      exact vp_in_nI (N := 40) (by omega) (by decide)
    rw [nI_clamp (by omega), hat]
    refine jm_istore_n (pc := 85) dM_row_85 (by decide) ?_
    refine jm_aload_n (pc := 86) dM_row_86 rfl ?_
    refine jm_getq (pc := 87) lM_68 dM_row_87 rfl rfl (hm 25 rfl) ?_
    refine jm_iload_n (pc := 90) dM_row_90 rfl ?_
    refine jm_zald (pc := 91) dM_row_91 rfl (by decide) rfl (fun _ => rfl) ?hin ?_
    case hin =>
      exact vp_in_nI (N := 250) (by omega) (by decide)
    rw [nI_clamp (by omega), hg]
    refine jm_if_eq (pc := 92) (tgt := 151) dM_row_92 (by decide) (fun h92 => ?_) (fun h92 => ?_)
    · refine jm_aload_n (pc := 151) dM_row_151 rfl ?_
      refine jm_getq (pc := 152) lM_93 dM_row_152 rfl rfl (hm 33 rfl) ?_
      refine jm_iload_n (pc := 155) dM_row_155 rfl ?_
      refine jm_aload_n (pc := 156) dM_row_156 rfl ?_
      refine jm_getq (pc := 157) lM_37 dM_row_157 rfl rfl (hm 12 rfl) ?_
      refine jm_iload_n (pc := 160) dM_row_160 rfl ?_
      refine jm_iald (pc := 161) dM_row_161 rfl (by decide) rfl (fun _ => rfl) ?hin ?_
      case hin =>
        exact vp_in_nI (N := 250) (by omega) (by decide)
      refine jm_iast (pc := 162) dM_row_162 rfl (by decide) rfl (fun _ => rfl) ?hin ?_
      case hin =>
        exact vp_in_nI (N := 40) (by omega) (by decide)
      first
        | (rw [nI_clamp (by omega), nI_clamp (by omega), hnx]
           have mt : MT E n F st (sI st 39 0 F (nx ((eK E n).drop (j + 1)).head?)) := MT.fI (by omega) (Nat.le_refl F)
           exact MS.mono (ct_row (j := j + 1) (hT.mv mt.1) hn hF40 ((sI_ne (by omega)).trans hF) hS ((sI_ne (by omega)).trans h36) ((sI_ne (by omega)).trans htr) ht hd rfl sI_eq) (fun v s9 h => Or.inl ⟨h92, h⟩))
        | (have mt : MT E n F st (sI (sL (sI (sI (sI st 32 0 p 1) 33 0 p (nI r)) 40 0 F (nI (r + 1))) 41 0 F B) 39 0 F (nx (eK E n).head?)) := (((((MT.pI (by omega) (hT.1.sub hn hpk subP_self) (fun _ => by omega)).tr (MT.pI (by omega) (hT.1.sub hn hpk subP_self) (fun _ => by omega))).tr (MT.fI (by omega) (Nat.le_refl F))).tr (MT.fL (by omega) (Nat.le_refl F))).tr (MT.fI (by omega) (Nat.le_refl F)))
           exact MS.mono (ct_row (j := 0) (hT.mv mt.1) hn hF40 (by simpa [sI, sL, u3] using hF) (by simp [sI, sL, u3]) (by simpa [sI, sL, u3] using h36) (by simpa [sI, sL, u3] using htr) ht hd rfl sI_eq) (fun v s9 h => Or.inr ⟨h92, h⟩))
    · refine jm_aload_n (pc := 95) dM_row_95 rfl ?_
      refine jm_getq (pc := 96) lM_72 dM_row_96 rfl rfl (hm 26 rfl) ?_
      refine jm_iload_n (pc := 99) dM_row_99 rfl ?_
      refine jm_iconst (pc := 100) (v := 1) dM_row_100 (by decide) ?_
      refine jm_zast (pc := 101) dM_row_101 rfl (by decide) rfl (fun _ => rfl) ?hin (by first | exact Or.inl rfl | exact Or.inr rfl | assumption) ?_
      case hin =>
        exact vp_in_nI (N := 250) (by omega) (by decide)
      rw [nI_clamp (by omega)]
      refine jm_aload_n (pc := 102) dM_row_102 rfl ?_
      refine jm_getq (pc := 103) lM_75 dM_row_103 rfl rfl (hm 27 rfl) ?_
      refine jm_iload_n (pc := 106) dM_row_106 rfl ?_
      refine jm_aload_n (pc := 107) dM_row_107 rfl ?_
      refine jm_getq (pc := 108) lM_96 dM_row_108 rfl rfl (hm 34 rfl) ?_
      refine jm_iload_n (pc := 111) dM_row_111 rfl ?_
      refine jm_iald (pc := 112) dM_row_112 rfl (by decide) rfl (fun _ => rfl) ?hin ?_
      case hin =>
        exact vp_in_nI (N := 40) (by omega) (by decide)
      refine jm_iast (pc := 113) dM_row_113 rfl (by decide) rfl (fun _ => rfl) ?hin ?_
      case hin =>
        exact vp_in_nI (N := 250) (by omega) (by decide)
      rw [nI_clamp (by omega), nI_clamp (by omega), show (sI st 32 0 p 1).1 40 0 F = nI r from (sI_ne (by omega)).trans hr]
      refine jm_aload_n (pc := 114) dM_row_114 rfl ?_
      refine jm_getq (pc := 115) lM_96 dM_row_115 rfl rfl (hm 34 rfl) ?_
      refine jm_iload_n (pc := 118) dM_row_118 rfl ?_
      first | refine jm_dup2_2 (pc := 119) dM_row_119 rfl ?_ | refine jm_dup2_11 (pc := 119) dM_row_119 rfl rfl ?_
      refine jm_iald (pc := 120) dM_row_120 rfl (by decide) rfl (fun _ => rfl) ?hin ?_
      case hin =>
        exact vp_in_nI (N := 40) (by omega) (by decide)
      rw [nI_clamp (by omega), show (sI (sI st 32 0 p 1) 33 0 p (nI r)).1 40 0 F = nI r from (sI_ne (by omega)).trans ((sI_ne (by omega)).trans hr)]
      refine jm_iconst (pc := 121) (v := 1) dM_row_121 (by decide) ?_
      refine jm_iadd (pc := 122) dM_row_122 ?_
      refine jm_iast (pc := 123) dM_row_123 rfl (by decide) rfl (fun _ => rfl) ?hin ?_
      case hin =>
        exact vp_in_nI (N := 40) (by omega) (by decide)
      rw [nI_clamp (by omega), show nI r + 1 = nI (r + 1) from nI_1 r]
      refine jm_aload_n (pc := 124) dM_row_124 rfl ?_
      refine jm_getq (pc := 125) lM_99 dM_row_125 rfl rfl (hm 35 rfl) ?_
      refine jm_iload_n (pc := 128) dM_row_128 rfl ?_
      refine jm_aload_n (pc := 129) dM_row_129 rfl ?_
      refine jm_getq (pc := 130) lM_65 dM_row_130 rfl rfl (hm 24 rfl) ?_
      refine jm_iload_n (pc := 133) dM_row_133 rfl ?_
      refine jm_lald (pc := 134) dM_row_134 rfl (by decide) rfl (fun _ => rfl) ?hin ?_
      case hin =>
        exact vp_in_nI (N := 250) (by omega) (by decide)
      refine jm_last (pc := 135) dM_row_135 rfl (by decide) rfl (fun _ => rfl) ?hin ?_
      case hin =>
        exact vp_in_nI (N := 40) (by omega) (by decide)
      rw [nI_clamp (by omega), nI_clamp (by omega), show (sI (sI (sI st 32 0 p 1) 33 0 p (nI r)) 40 0 F (nI (r + 1))).2.1 30 0 p = B from hB]
      refine jm_aload_n (pc := 136) dM_row_136 rfl ?_
      refine jm_getq (pc := 137) lM_93 dM_row_137 rfl rfl (hm 33 rfl) ?_
      refine jm_iload_n (pc := 140) dM_row_140 rfl ?_
      refine jm_aload_n (pc := 141) dM_row_141 rfl ?_
      refine jm_getq (pc := 142) lM_31 dM_row_142 rfl rfl (hm 10 rfl) ?_
      refine jm_iload_n (pc := 145) dM_row_145 rfl ?_
      refine jm_iald (pc := 146) dM_row_146 rfl (by decide) rfl (fun _ => rfl) ?hin ?_
      case hin =>
        exact vp_in_nI (N := 250) (by omega) (by decide)
      refine jm_iast (pc := 147) dM_row_147 rfl (by decide) rfl (fun _ => rfl) ?hin ?_
      case hin =>
        exact vp_in_nI (N := 40) (by omega) (by decide)
      rw [nI_clamp (by omega), nI_clamp (by omega), show (sL (sI (sI (sI st 32 0 p 1) 33 0 p (nI r)) 40 0 F (nI (r + 1))) 41 0 F B).1 19 0 n = nx (eK E n).head? from by simpa [sI, sL, u3] using b3_]
      refine jm_goto (pc := 148) (tgt := 163) dM_row_148 (by decide) ?_
      first
        | (rw [nI_clamp (by omega), nI_clamp (by omega), hnx]
           have mt : MT E n F st (sI st 39 0 F (nx ((eK E n).drop (j + 1)).head?)) := MT.fI (by omega) (Nat.le_refl F)
           exact MS.mono (ct_row (j := j + 1) (hT.mv mt.1) hn hF40 ((sI_ne (by omega)).trans hF) hS ((sI_ne (by omega)).trans h36) ((sI_ne (by omega)).trans htr) ht hd rfl sI_eq) (fun v s9 h => Or.inl ⟨h92, h⟩))
        | (have mt : MT E n F st (sI (sL (sI (sI (sI st 32 0 p 1) 33 0 p (nI r)) 40 0 F (nI (r + 1))) 41 0 F B) 39 0 F (nx (eK E n).head?)) := (((((MT.pI (by omega) (hT.1.sub hn hpk subP_self) (fun _ => by omega)).tr (MT.pI (by omega) (hT.1.sub hn hpk subP_self) (fun _ => by omega))).tr (MT.fI (by omega) (Nat.le_refl F))).tr (MT.fL (by omega) (Nat.le_refl F))).tr (MT.fI (by omega) (Nat.le_refl F)))
           exact MS.mono (ct_row (j := 0) (hT.mv mt.1) hn hF40 (by simpa [sI, sL, u3] using hF) (by simp [sI, sL, u3]) (by simpa [sI, sL, u3] using h36) (by simpa [sI, sL, u3] using htr) ht hd rfl sI_eq) (fun v s9 h => Or.inr ⟨h92, h⟩))
  · exact absurd h6 (by decide)
end CM12
