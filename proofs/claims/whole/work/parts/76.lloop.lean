section LLOOP
variable {p : Program} {l : Launch} {e : Env} {s : State} {m : MethodId} {below : List Frame} {meth : Method} {c : Code} {b L : Nat} {xs : Nat → Int32} {G : va_G} {ci : Nat → Nat} {uc us pc : Nat} {ls : List (Option aV)} {sk : List aV} {st : aS}
abbrev lLs (x : Int32) : List (Option aV) := [none, some (vR (some (4, 0))), some (vR (some (5, 0))), some (vI x)]
theorem L_bool {x : Int32} {oA oG : Int} {pA pM : Nat} (hd : decode code pc = .ok (.ifCond .eq oA, 3)) (ht : (pc : Int) + oA = (pA : Int)) (hd1 : decode code (pc + 3) = .ok (.iconst 1, 1)) (hd2 : decode code (pc + 3 + 1) = .ok (.goto oG, 3)) (ht2 : ((pc + 3 + 1 : Nat) : Int) + oG = (pM : Int)) (hd3 : decode code pA = .ok (.iconst 0, 1)) (hpm : pA + 1 = pM) (kk : LW p l e s m below meth c b L xs G ci uc us pM ls (vI (if x = 0 then 0 else 1) :: sk) st) : LW p l e s m below meth c b L xs G ci uc us pc ls (vI x :: sk) st := by
  subst hpm
  refine L_if_eq hd ht (fun h => ?_) (fun h => ?_)
  · rw [if_pos h] at kk
    exact L_iconst (v := 0) hd3 (by decide) kk
  · rw [if_neg h] at kk
    exact L_iconst (v := 1) hd1 (by decide) (L_goto hd2 ht2 kk)
theorem and15 (a : Int32) : ∃ k, k < 16 ∧ a &&& 15 = nI k := by
  have h : (a &&& 15).toBitVec.toNat ≤ 15 := by
    rw [Int32.toBitVec_and, BitVec.toNat_and]
    exact Nat.and_le_right
  refine ⟨(a &&& 15).toBitVec.toNat, by omega, ?_⟩
  apply Int32.toBitVec_inj.mp
  apply BitVec.eq_of_toNat_eq
  show _ = (BitVec.ofNat 32 _).toNat
  rw [BitVec.toNat_ofNat, Nat.mod_eq_of_lt (by omega)]
theorem len4 {t : Nat} (hL : L ≤ 2048) (ht : 4 * t ≤ L) (h : ¬ nI L - 4 < nI (4 * t)) : 4 * t + 4 ≤ L := by
  refine Classical.byContradiction (fun q => h ?_)
  by_cases h4 : L < 4
  · have h0 : t = 0 := by omega
    subst h0
    rcases (show L = 0 ∨ L = 1 ∨ L = 2 ∨ L = 3 by omega) with rfl | rfl | rfl | rfl <;> decide
  · obtain ⟨k, rfl⟩ : ∃ k, L = k + 4 := ⟨L - 4, by omega⟩
    have e : nI (k + 4) - 4 = nI k := by
      rw [← nI_add k 4, show (4 : Int32) = nI 4 from rfl, Int32.add_sub_cancel]
    rw [e]
    exact nI_lt (by omega) (by omega)
set_option maxHeartbeats 4000000 in
set_option maxRecDepth 100000 in
theorem law_loop (hL : L ≤ 2048) : ∀ (n t : Nat) (st : aS), t + n = 513 → 4 * t ≤ L → JE st → LW p l e s m below meth c b L xs G ci (44 + 2 * t) (22853 + 27 * t) 18 (lLs (nI (4 * t))) [] st
  | 0, t, st, h1, h2, _ => absurd h2 (by omega)
  | n + 1, t, st, h1, h2, hJ => by
    refine L_iload_n (pc := 18) dL_18 rfl ?_
    refine L_len (pc := 19) dL_19 dL_20 ?_
    refine L_iconst (pc := 21) (v := 4) dL_21 (by decide) ?_
    refine L_isub (pc := 22) dL_22 ?_
    refine L_icmp_gt (pc := 23) (tgt := 532) dL_23 (by decide) (fun _ => ?_) (fun hc => ?_)
    · refine L_iconst (pc := 532) (v := 1) dL_532 (by decide) ?_
      exact L_ret (pc := 533) dL_533 ⟨by omega, by omega⟩
    have h4 := len4 hL h2 hc
    have next : ∀ st2, JE st2 → LW p l e s m below meth c b L xs G ci (44 + 2 * (t + 1)) (22853 + 27 * (t + 1)) 526 (lLs (nI (4 * t))) [] st2 := by
      intro st2 hJ2
      refine L_iinc (pc := 526) (i := 3) dL_526 rfl (by decide) (by decide) ?_
      refine L_goto (pc := 529) (tgt := 18) dL_529 (by decide) ?_
      have e : nI (4 * t) + Int32.ofInt 4 = nI (4 * (t + 1)) := (nI_add (4 * t) 4).trans (by rw [Nat.mul_add])
      rw [e]
      exact law_loop hL n (t + 1) st2 (by omega) (by omega) hJ2
    refine L_rd (pc := 26) (k := 4 * t) dL_26 dL_27 dL_28 rfl (by omega) hL ?_
    refine L_bipush (pc := 29) (v := 15) dL_29 (by decide) ?_
    refine L_iand (pc := 31) dL_31 ?_
    obtain ⟨k, hk, ek⟩ := and15 (xs (4 * t))
    rw [ek]
    rcases (show k = 0 ∨ k = 1 ∨ k = 2 ∨ k = 3 ∨ k = 4 ∨ k = 5 ∨ k = 6 ∨ k = 7 ∨ k = 8 ∨ k = 9 ∨ k = 10 ∨ k = 11 ∨ k = 12 ∨ k = 13 ∨ k = 14 ∨ k = 15 by omega) with rfl | rfl | rfl | rfl | rfl | rfl | rfl | rfl | rfl | rfl | rfl | rfl | rfl | rfl | rfl | rfl
    · refine L_tableIn (pc := 32) (x := nI 0) (off := 72) (tgt := 104) dL_32 (by decide) (by decide) (by decide) (by decide) ?_
      refine L_aload_n (pc := 104) (x := (4, 0)) dL_104 rfl ?_
      refine L_rdk (pc := 105) (k := 4 * t) (j := 1) dL_105 dL_106 dL_107 dL_108 dL_109 (by decide) rfl (by omega) hL ?_
      refine L_callV (pc := 110) (sk := []) (J_predicate (d := 2000) hJ (xs (4 * t + 1)) (by omega)) fG_predicate vG_predicate kL_13 dL_110 rfl rfl rfl rfl (by omega) ⟨by omega, by omega⟩ rfl (Nat.le_of_ble_eq_true rfl) (fun v s1 hq => ?_)
      obtain ⟨v, rfl, hM⟩ := hq
      refine L_aload_n (pc := 113) (x := (5, 0)) dL_113 rfl ?_
      refine L_rdk (pc := 114) (k := 4 * t) (j := 1) dL_114 dL_115 dL_116 dL_117 dL_118 (by decide) rfl (by omega) hL ?_
      refine L_callV (pc := 119) (sk := [vI v]) hM fM_predicate vM_predicate kL_17 dL_119 rfl rfl rfl rfl (by omega) ⟨by omega, by omega⟩ rfl (Nat.le_of_ble_eq_true rfl) (fun v2 s2 hq => ?_)
      obtain ⟨rfl, hJ2⟩ := hq
      refine L_icmp_eq (pc := 122) (tgt := 526) dL_122 (by decide) (fun _ => ?_) (fun h => absurd rfl h)
      exact L_widen (by omega) (by omega) (next _ hJ2)
    · refine L_tableIn (pc := 32) (x := nI 1) (off := 95) (tgt := 127) dL_32 (by decide) (by decide) (by decide) (by decide) ?_
      refine L_aload_n (pc := 127) (x := (4, 0)) dL_127 rfl ?_
      refine L_rdk (pc := 128) (k := 4 * t) (j := 1) dL_128 dL_129 dL_130 dL_131 dL_132 (by decide) rfl (by omega) hL ?_
      refine L_rdk (pc := 133) (k := 4 * t) (j := 2) dL_133 dL_134 dL_135 dL_136 dL_137 (by decide) rfl (by omega) hL ?_
      refine L_callV (pc := 138) (sk := []) (J_mode (d := 2000) hJ (xs (4 * t + 1)) (xs (4 * t + 2)) (by omega)) fG_mode vG_mode kL_18 dL_138 rfl rfl rfl rfl (by omega) ⟨by omega, by omega⟩ rfl (Nat.le_of_ble_eq_true rfl) (fun v s1 hq => ?_)
      obtain ⟨v, rfl, hM⟩ := hq
      refine L_aload_n (pc := 141) (x := (5, 0)) dL_141 rfl ?_
      refine L_rdk (pc := 142) (k := 4 * t) (j := 1) dL_142 dL_143 dL_144 dL_145 dL_146 (by decide) rfl (by omega) hL ?_
      refine L_rdk (pc := 147) (k := 4 * t) (j := 2) dL_147 dL_148 dL_149 dL_150 dL_151 (by decide) rfl (by omega) hL ?_
      refine L_callV (pc := 152) (sk := [vI v]) hM fM_mode vM_mode kL_22 dL_152 rfl rfl rfl rfl (by omega) ⟨by omega, by omega⟩ rfl (Nat.le_of_ble_eq_true rfl) (fun v2 s2 hq => ?_)
      obtain ⟨rfl, hJ2⟩ := hq
      refine L_icmp_eq (pc := 155) (tgt := 526) dL_155 (by decide) (fun _ => ?_) (fun h => absurd rfl h)
      exact L_widen (by omega) (by omega) (next _ hJ2)
    · refine L_tableIn (pc := 32) (x := nI 2) (off := 128) (tgt := 160) dL_32 (by decide) (by decide) (by decide) (by decide) ?_
      refine L_aload_n (pc := 160) (x := (4, 0)) dL_160 rfl ?_
      refine L_callV (pc := 161) (sk := []) (J_clear (d := 2000) hJ (by omega)) fG_clear vG_clear kL_23 dL_161 rfl rfl rfl rfl (by omega) ⟨by omega, by omega⟩ rfl (Nat.le_of_ble_eq_true rfl) (fun v s1 hq => ?_)
      obtain ⟨rfl, hM⟩ := hq
      refine L_aload_n (pc := 164) (x := (5, 0)) dL_164 rfl ?_
      refine L_callV (pc := 165) (sk := []) hM fM_clear vM_clear kL_26 dL_165 rfl rfl rfl rfl (by omega) ⟨by omega, by omega⟩ rfl (Nat.le_of_ble_eq_true rfl) (fun v2 s2 hq => ?_)
      obtain ⟨rfl, hJ2⟩ := hq
      refine L_goto (pc := 168) (tgt := 526) dL_168 (by decide) ?_
      exact L_widen (by omega) (by omega) (next _ hJ2)
    · refine L_tableIn (pc := 32) (x := nI 3) (off := 139) (tgt := 171) dL_32 (by decide) (by decide) (by decide) (by decide) ?_
      refine L_aload_n (pc := 171) (x := (4, 0)) dL_171 rfl ?_
      refine L_rdk (pc := 172) (k := 4 * t) (j := 1) dL_172 dL_173 dL_174 dL_175 dL_176 (by decide) rfl (by omega) hL ?_
      refine L_callV (pc := 177) (sk := []) (J_put (d := 2000) hJ (xs (4 * t + 1)) (by omega)) fG_put vG_put kL_27 dL_177 rfl rfl rfl rfl (by omega) ⟨by omega, by omega⟩ rfl (Nat.le_of_ble_eq_true rfl) (fun v s1 hq => ?_)
      obtain ⟨v, rfl, hM⟩ := hq
      refine L_aload_n (pc := 180) (x := (5, 0)) dL_180 rfl ?_
      refine L_rdk (pc := 181) (k := 4 * t) (j := 1) dL_181 dL_182 dL_183 dL_184 dL_185 (by decide) rfl (by omega) hL ?_
      refine L_callV (pc := 186) (sk := [vI v]) hM fM_put vM_put kL_31 dL_186 rfl rfl rfl rfl (by omega) ⟨by omega, by omega⟩ rfl (Nat.le_of_ble_eq_true rfl) (fun v2 s2 hq => ?_)
      obtain ⟨rfl, hJ2⟩ := hq
      refine L_icmp_eq (pc := 189) (tgt := 526) dL_189 (by decide) (fun _ => ?_) (fun h => absurd rfl h)
      exact L_widen (by omega) (by omega) (next _ hJ2)
    · refine L_tableIn (pc := 32) (x := nI 4) (off := 162) (tgt := 194) dL_32 (by decide) (by decide) (by decide) (by decide) ?_
      refine L_aload_n (pc := 194) (x := (4, 0)) dL_194 rfl ?_
      refine L_rdk (pc := 195) (k := 4 * t) (j := 1) dL_195 dL_196 dL_197 dL_198 dL_199 (by decide) rfl (by omega) hL ?_
      refine L_rdk (pc := 200) (k := 4 * t) (j := 2) dL_200 dL_201 dL_202 dL_203 dL_204 (by decide) rfl (by omega) hL ?_
      refine L_rdk (pc := 205) (k := 4 * t) (j := 3) dL_205 dL_206 dL_207 dL_208 dL_209 (by decide) rfl (by omega) hL ?_
      refine L_callV (pc := 210) (sk := []) (J_add (d := 2000) hJ (xs (4 * t + 1)) (xs (4 * t + 2)) (xs (4 * t + 3)) (by omega)) fG_add vG_add kL_32 dL_210 rfl rfl rfl rfl (by omega) ⟨by omega, by omega⟩ rfl (Nat.le_of_ble_eq_true rfl) (fun v s1 hq => ?_)
      obtain ⟨v, rfl, hM⟩ := hq
      refine L_aload_n (pc := 213) (x := (5, 0)) dL_213 rfl ?_
      refine L_rdk (pc := 214) (k := 4 * t) (j := 1) dL_214 dL_215 dL_216 dL_217 dL_218 (by decide) rfl (by omega) hL ?_
      refine L_rdk (pc := 219) (k := 4 * t) (j := 2) dL_219 dL_220 dL_221 dL_222 dL_223 (by decide) rfl (by omega) hL ?_
      refine L_rdk (pc := 224) (k := 4 * t) (j := 3) dL_224 dL_225 dL_226 dL_227 dL_228 (by decide) rfl (by omega) hL ?_
      refine L_callV (pc := 229) (sk := [vI v]) hM fM_add vM_add kL_36 dL_229 rfl rfl rfl rfl (by omega) ⟨by omega, by omega⟩ rfl (Nat.le_of_ble_eq_true rfl) (fun v2 s2 hq => ?_)
      obtain ⟨rfl, hJ2⟩ := hq
      refine L_icmp_eq (pc := 232) (tgt := 526) dL_232 (by decide) (fun _ => ?_) (fun h => absurd rfl h)
      exact L_widen (by omega) (by omega) (next _ hJ2)
    · refine L_tableIn (pc := 32) (x := nI 5) (off := 205) (tgt := 237) dL_32 (by decide) (by decide) (by decide) (by decide) ?_
      refine L_aload_n (pc := 237) (x := (4, 0)) dL_237 rfl ?_
      refine L_rdk (pc := 238) (k := 4 * t) (j := 1) dL_238 dL_239 dL_240 dL_241 dL_242 (by decide) rfl (by omega) hL ?_
      refine L_rdk (pc := 243) (k := 4 * t) (j := 2) dL_243 dL_244 dL_245 dL_246 dL_247 (by decide) rfl (by omega) hL ?_
      refine L_bool (pc := 248) (pA := 255) (pM := 256) dL_248 (by decide) dL_251 dL_252 (by decide) dL_255 (by decide) ?_
      refine L_callV (pc := 256) (sk := []) (J_given (d := 2000) hJ (xs (4 * t + 1)) (if xs (4 * t + 2) = 0 then 0 else 1) (by omega)) fG_given vG_given kL_37 dL_256 rfl rfl rfl rfl (by omega) ⟨by omega, by omega⟩ rfl (Nat.le_of_ble_eq_true rfl) (fun v s1 hq => ?_)
      obtain ⟨v, rfl, hM⟩ := hq
      refine L_aload_n (pc := 259) (x := (5, 0)) dL_259 rfl ?_
      refine L_rdk (pc := 260) (k := 4 * t) (j := 1) dL_260 dL_261 dL_262 dL_263 dL_264 (by decide) rfl (by omega) hL ?_
      refine L_rdk (pc := 265) (k := 4 * t) (j := 2) dL_265 dL_266 dL_267 dL_268 dL_269 (by decide) rfl (by omega) hL ?_
      refine L_bool (pc := 270) (pA := 277) (pM := 278) dL_270 (by decide) dL_273 dL_274 (by decide) dL_277 (by decide) ?_
      refine L_callV (pc := 278) (sk := [vI v]) hM fM_given vM_given kL_41 dL_278 rfl rfl rfl rfl (by omega) ⟨by omega, by omega⟩ rfl (Nat.le_of_ble_eq_true rfl) (fun v2 s2 hq => ?_)
      obtain ⟨rfl, hJ2⟩ := hq
      refine L_icmp_eq (pc := 281) (tgt := 526) dL_281 (by decide) (fun _ => ?_) (fun h => absurd rfl h)
      exact L_widen (by omega) (by omega) (next _ hJ2)
    · refine L_tableIn (pc := 32) (x := nI 6) (off := 254) (tgt := 286) dL_32 (by decide) (by decide) (by decide) (by decide) ?_
      refine L_aload_n (pc := 286) (x := (4, 0)) dL_286 rfl ?_
      refine L_rdk (pc := 287) (k := 4 * t) (j := 1) dL_287 dL_288 dL_289 dL_290 dL_291 (by decide) rfl (by omega) hL ?_
      refine L_rdk (pc := 292) (k := 4 * t) (j := 2) dL_292 dL_293 dL_294 dL_295 dL_296 (by decide) rfl (by omega) hL ?_
      refine L_bool (pc := 297) (pA := 304) (pM := 305) dL_297 (by decide) dL_300 dL_301 (by decide) dL_304 (by decide) ?_
      refine L_callV (pc := 305) (sk := []) (J_wanted (d := 2000) hJ (xs (4 * t + 1)) (if xs (4 * t + 2) = 0 then 0 else 1) (by omega)) fG_wanted vG_wanted kL_42 dL_305 rfl rfl rfl rfl (by omega) ⟨by omega, by omega⟩ rfl (Nat.le_of_ble_eq_true rfl) (fun v s1 hq => ?_)
      obtain ⟨v, rfl, hM⟩ := hq
      refine L_aload_n (pc := 308) (x := (5, 0)) dL_308 rfl ?_
      refine L_rdk (pc := 309) (k := 4 * t) (j := 1) dL_309 dL_310 dL_311 dL_312 dL_313 (by decide) rfl (by omega) hL ?_
      refine L_rdk (pc := 314) (k := 4 * t) (j := 2) dL_314 dL_315 dL_316 dL_317 dL_318 (by decide) rfl (by omega) hL ?_
      refine L_bool (pc := 319) (pA := 326) (pM := 327) dL_319 (by decide) dL_322 dL_323 (by decide) dL_326 (by decide) ?_
      refine L_callV (pc := 327) (sk := [vI v]) hM fM_wanted vM_wanted kL_45 dL_327 rfl rfl rfl rfl (by omega) ⟨by omega, by omega⟩ rfl (Nat.le_of_ble_eq_true rfl) (fun v2 s2 hq => ?_)
      obtain ⟨rfl, hJ2⟩ := hq
      refine L_icmp_eq (pc := 330) (tgt := 526) dL_330 (by decide) (fun _ => ?_) (fun h => absurd rfl h)
      exact L_widen (by omega) (by omega) (next _ hJ2)
    · refine L_tableIn (pc := 32) (x := nI 7) (off := 303) (tgt := 335) dL_32 (by decide) (by decide) (by decide) (by decide) ?_
      refine L_aload_n (pc := 335) (x := (4, 0)) dL_335 rfl ?_
      refine L_callV (pc := 336) (sk := []) (J_order (d := 2000) hJ (by omega)) fG_order vG_order kL_46 dL_336 rfl rfl rfl rfl (by omega) ⟨by omega, by omega⟩ rfl (Nat.le_of_ble_eq_true rfl) (fun v s1 hq => ?_)
      obtain ⟨v, rfl, hM⟩ := hq
      refine L_aload_n (pc := 339) (x := (5, 0)) dL_339 rfl ?_
      refine L_callV (pc := 340) (sk := [vI v]) hM fM_order vM_order kL_50 dL_340 rfl rfl rfl rfl (by omega) ⟨by omega, by omega⟩ rfl (Nat.le_of_ble_eq_true rfl) (fun v2 s2 hq => ?_)
      obtain ⟨rfl, hJ2⟩ := hq
      refine L_icmp_eq (pc := 343) (tgt := 526) dL_343 (by decide) (fun _ => ?_) (fun h => absurd rfl h)
      exact L_widen (by omega) (by omega) (next _ hJ2)
    · refine L_tableIn (pc := 32) (x := nI 8) (off := 316) (tgt := 348) dL_32 (by decide) (by decide) (by decide) (by decide) ?_
      refine L_aload_n (pc := 348) (x := (4, 0)) dL_348 rfl ?_
      refine L_callV (pc := 349) (sk := []) (J_stuck (d := 2000) hJ) fG_stuck vG_stuck kL_51 dL_349 rfl rfl rfl rfl (by omega) ⟨by omega, by omega⟩ rfl (Nat.le_of_ble_eq_true rfl) (fun v s1 hq => ?_)
      obtain ⟨v, rfl, hM⟩ := hq
      refine L_aload_n (pc := 352) (x := (5, 0)) dL_352 rfl ?_
      refine L_callV (pc := 353) (sk := [vI v]) hM fM_stuck vM_stuck kL_54 dL_353 rfl rfl rfl rfl (by omega) ⟨by omega, by omega⟩ rfl (Nat.le_of_ble_eq_true rfl) (fun v2 s2 hq => ?_)
      obtain ⟨rfl, hJ2⟩ := hq
      refine L_icmp_eq (pc := 356) (tgt := 526) dL_356 (by decide) (fun _ => ?_) (fun h => absurd rfl h)
      exact L_widen (by omega) (by omega) (next _ hJ2)
    · refine L_tableIn (pc := 32) (x := nI 9) (off := 329) (tgt := 361) dL_32 (by decide) (by decide) (by decide) (by decide) ?_
      refine L_aload_n (pc := 361) (x := (4, 0)) dL_361 rfl ?_
      refine L_rdk (pc := 362) (k := 4 * t) (j := 1) dL_362 dL_363 dL_364 dL_365 dL_366 (by decide) rfl (by omega) hL ?_
      refine L_rdk (pc := 367) (k := 4 * t) (j := 2) dL_367 dL_368 dL_369 dL_370 dL_371 (by decide) rfl (by omega) hL ?_
      refine L_callV (pc := 372) (sk := []) (J_part (d := 2000) hJ (xs (4 * t + 1)) (xs (4 * t + 2)) (by omega)) fG_part vG_part kL_55 dL_372 rfl rfl rfl rfl (by omega) ⟨by omega, by omega⟩ rfl (Nat.le_of_ble_eq_true rfl) (fun v s1 hq => ?_)
      obtain ⟨v, rfl, hM⟩ := hq
      refine L_aload_n (pc := 375) (x := (5, 0)) dL_375 rfl ?_
      refine L_rdk (pc := 376) (k := 4 * t) (j := 1) dL_376 dL_377 dL_378 dL_379 dL_380 (by decide) rfl (by omega) hL ?_
      refine L_rdk (pc := 381) (k := 4 * t) (j := 2) dL_381 dL_382 dL_383 dL_384 dL_385 (by decide) rfl (by omega) hL ?_
      refine L_callV (pc := 386) (sk := [vI v]) hM fM_part vM_part kL_58 dL_386 rfl rfl rfl rfl (by omega) ⟨by omega, by omega⟩ rfl (Nat.le_of_ble_eq_true rfl) (fun v2 s2 hq => ?_)
      obtain ⟨rfl, hJ2⟩ := hq
      refine L_icmp_eq (pc := 389) (tgt := 526) dL_389 (by decide) (fun _ => ?_) (fun h => absurd rfl h)
      exact L_widen (by omega) (by omega) (next _ hJ2)
    · refine L_tableIn (pc := 32) (x := nI 10) (off := 362) (tgt := 394) dL_32 (by decide) (by decide) (by decide) (by decide) ?_
      refine L_aload_n (pc := 394) (x := (4, 0)) dL_394 rfl ?_
      refine L_rdk (pc := 395) (k := 4 * t) (j := 1) dL_395 dL_396 dL_397 dL_398 dL_399 (by decide) rfl (by omega) hL ?_
      refine L_rdk (pc := 400) (k := 4 * t) (j := 2) dL_400 dL_401 dL_402 dL_403 dL_404 (by decide) rfl (by omega) hL ?_
      refine L_callV (pc := 405) (sk := []) (J_node (d := 2000) hJ (xs (4 * t + 1)) (xs (4 * t + 2)) (by omega)) fG_node vG_node kL_59 dL_405 rfl rfl rfl rfl (by omega) ⟨by omega, by omega⟩ rfl (Nat.le_of_ble_eq_true rfl) (fun v s1 hq => ?_)
      obtain ⟨v, rfl, hM⟩ := hq
      refine L_aload_n (pc := 408) (x := (5, 0)) dL_408 rfl ?_
      refine L_rdk (pc := 409) (k := 4 * t) (j := 1) dL_409 dL_410 dL_411 dL_412 dL_413 (by decide) rfl (by omega) hL ?_
      refine L_rdk (pc := 414) (k := 4 * t) (j := 2) dL_414 dL_415 dL_416 dL_417 dL_418 (by decide) rfl (by omega) hL ?_
      refine L_callV (pc := 419) (sk := [vI v]) hM fM_node vM_node kL_62 dL_419 rfl rfl rfl rfl (by omega) ⟨by omega, by omega⟩ rfl (Nat.le_of_ble_eq_true rfl) (fun v2 s2 hq => ?_)
      obtain ⟨rfl, hJ2⟩ := hq
      refine L_icmp_eq (pc := 422) (tgt := 526) dL_422 (by decide) (fun _ => ?_) (fun h => absurd rfl h)
      exact L_widen (by omega) (by omega) (next _ hJ2)
    · refine L_tableIn (pc := 32) (x := nI 11) (off := 395) (tgt := 427) dL_32 (by decide) (by decide) (by decide) (by decide) ?_
      refine L_aload_n (pc := 427) (x := (4, 0)) dL_427 rfl ?_
      refine L_rdk (pc := 428) (k := 4 * t) (j := 1) dL_428 dL_429 dL_430 dL_431 dL_432 (by decide) rfl (by omega) hL ?_
      refine L_rdk (pc := 433) (k := 4 * t) (j := 2) dL_433 dL_434 dL_435 dL_436 dL_437 (by decide) rfl (by omega) hL ?_
      refine L_callV (pc := 438) (sk := []) (J_compared (d := 2000) hJ (xs (4 * t + 1)) (xs (4 * t + 2)) (by omega)) fG_compared vG_compared kL_63 dL_438 rfl rfl rfl rfl (by omega) ⟨by omega, by omega⟩ rfl (Nat.le_of_ble_eq_true rfl) (fun v s1 hq => ?_)
      obtain ⟨v, rfl, hM⟩ := hq
      refine L_aload_n (pc := 441) (x := (5, 0)) dL_441 rfl ?_
      refine L_rdk (pc := 442) (k := 4 * t) (j := 1) dL_442 dL_443 dL_444 dL_445 dL_446 (by decide) rfl (by omega) hL ?_
      refine L_rdk (pc := 447) (k := 4 * t) (j := 2) dL_447 dL_448 dL_449 dL_450 dL_451 (by decide) rfl (by omega) hL ?_
      refine L_callV (pc := 452) (sk := [vI v]) hM fM_compared vM_compared kL_67 dL_452 rfl rfl rfl rfl (by omega) ⟨by omega, by omega⟩ rfl (Nat.le_of_ble_eq_true rfl) (fun v2 s2 hq => ?_)
      obtain ⟨rfl, hJ2⟩ := hq
      refine L_icmp_eq (pc := 455) (tgt := 526) dL_455 (by decide) (fun _ => ?_) (fun h => absurd rfl h)
      exact L_widen (by omega) (by omega) (next _ hJ2)
    · refine L_tableIn (pc := 32) (x := nI 12) (off := 428) (tgt := 460) dL_32 (by decide) (by decide) (by decide) (by decide) ?_
      refine L_aload_n (pc := 460) (x := (4, 0)) dL_460 rfl ?_
      refine L_rdk (pc := 461) (k := 4 * t) (j := 1) dL_461 dL_462 dL_463 dL_464 dL_465 (by decide) rfl (by omega) hL ?_
      refine L_rdk (pc := 466) (k := 4 * t) (j := 2) dL_466 dL_467 dL_468 dL_469 dL_470 (by decide) rfl (by omega) hL ?_
      refine L_callV (pc := 471) (sk := []) (J_ground (d := 2000) hJ (xs (4 * t + 1)) (xs (4 * t + 2)) (by omega)) fG_ground vG_ground kL_68 dL_471 rfl rfl rfl rfl (by omega) ⟨by omega, by omega⟩ rfl (Nat.le_of_ble_eq_true rfl) (fun v s1 hq => ?_)
      obtain ⟨v, rfl, hM⟩ := hq
      refine L_aload_n (pc := 474) (x := (5, 0)) dL_474 rfl ?_
      refine L_rdk (pc := 475) (k := 4 * t) (j := 1) dL_475 dL_476 dL_477 dL_478 dL_479 (by decide) rfl (by omega) hL ?_
      refine L_rdk (pc := 480) (k := 4 * t) (j := 2) dL_480 dL_481 dL_482 dL_483 dL_484 (by decide) rfl (by omega) hL ?_
      refine L_callV (pc := 485) (sk := [vI v]) hM fM_ground vM_ground kL_71 dL_485 rfl rfl rfl rfl (by omega) ⟨by omega, by omega⟩ rfl (Nat.le_of_ble_eq_true rfl) (fun v2 s2 hq => ?_)
      obtain ⟨rfl, hJ2⟩ := hq
      refine L_icmp_eq (pc := 488) (tgt := 526) dL_488 (by decide) (fun _ => ?_) (fun h => absurd rfl h)
      exact L_widen (by omega) (by omega) (next _ hJ2)
    · refine L_tableIn (pc := 32) (x := nI 13) (off := 461) (tgt := 493) dL_32 (by decide) (by decide) (by decide) (by decide) ?_
      refine L_aload_n (pc := 493) (x := (4, 0)) dL_493 rfl ?_
      refine L_rdk (pc := 494) (k := 4 * t) (j := 1) dL_494 dL_495 dL_496 dL_497 dL_498 (by decide) rfl (by omega) hL ?_
      refine L_rdk (pc := 499) (k := 4 * t) (j := 2) dL_499 dL_500 dL_501 dL_502 dL_503 (by decide) rfl (by omega) hL ?_
      refine L_callV (pc := 504) (sk := []) (J_outer (d := 2000) hJ (xs (4 * t + 1)) (xs (4 * t + 2)) (by omega)) fG_outer vG_outer kL_72 dL_504 rfl rfl rfl rfl (by omega) ⟨by omega, by omega⟩ rfl (Nat.le_of_ble_eq_true rfl) (fun v s1 hq => ?_)
      obtain ⟨v, rfl, hM⟩ := hq
      refine L_aload_n (pc := 507) (x := (5, 0)) dL_507 rfl ?_
      refine L_rdk (pc := 508) (k := 4 * t) (j := 1) dL_508 dL_509 dL_510 dL_511 dL_512 (by decide) rfl (by omega) hL ?_
      refine L_rdk (pc := 513) (k := 4 * t) (j := 2) dL_513 dL_514 dL_515 dL_516 dL_517 (by decide) rfl (by omega) hL ?_
      refine L_callV (pc := 518) (sk := [vI v]) hM fM_outer vM_outer kL_75 dL_518 rfl rfl rfl rfl (by omega) ⟨by omega, by omega⟩ rfl (Nat.le_of_ble_eq_true rfl) (fun v2 s2 hq => ?_)
      obtain ⟨rfl, hJ2⟩ := hq
      refine L_icmp_eq (pc := 521) (tgt := 526) dL_521 (by decide) (fun _ => ?_) (fun h => absurd rfl h)
      exact L_widen (by omega) (by omega) (next _ hJ2)
    · refine L_tableOut (pc := 32) (x := nI 14) (tgt := 526) dL_32 (by decide) (by decide) ?_
      have hJ2 := hJ
      exact L_widen (by omega) (by omega) (next _ hJ2)
    · refine L_tableOut (pc := 32) (x := nI 15) (tgt := 526) dL_32 (by decide) (by decide) ?_
      have hJ2 := hJ
      exact L_widen (by omega) (by omega) (next _ hJ2)
set_option maxHeartbeats 4000000 in
set_option maxRecDepth 100000 in
theorem law_start (hL : L ≤ 2048) : LW p l e s m below meth c b L xs G ci 0 0 0 [none, none, none, none] [] s00 := by
  refine L_new (pc := 0) (k := 4) dL_0 rfl rfl nkL_7 niG nzG ⟨by decide, by decide⟩ ?_
  refine L_dup (pc := 3) dL_3 rfl ?_
  refine L_callI (pc := 4) (sk := [vR (some (4, 0))]) (J_init (d := 2000) 2000 (by omega) (by omega)) fG_init rfl vG_init kL_9 dL_4 rfl (by omega) ⟨by decide, by decide⟩ rfl (Nat.le_of_ble_eq_true rfl) (fun v s1 hq => ?_)
  obtain ⟨rfl, a5, hM⟩ := hq
  refine L_astore_n (pc := 7) (x := (4, 0)) dL_7 (by decide) ?_
  refine L_new (pc := 8) (k := 5) dL_8 rfl rfl nkL_10 niM nzM ⟨by decide, by decide⟩ ?_
  rw [a5]
  refine L_dup (pc := 11) dL_11 rfl ?_
  refine L_callI (pc := 12) (sk := [vR (some (5, 0))]) hM fM_init rfl vM_init kL_12 dL_12 rfl (by omega) ⟨by decide, by decide⟩ rfl (Nat.le_of_ble_eq_true rfl) (fun v s2 hq => ?_)
  obtain ⟨rfl, hJ⟩ := hq
  refine L_astore_n (pc := 15) (x := (5, 0)) dL_15 (by decide) ?_
  refine L_iconst (pc := 16) (v := 0) dL_16 (by decide) ?_
  refine L_istore_n (pc := 17) (x := 0) dL_17 (by decide) ?_
  exact law_loop hL 513 0 s2 (by omega) (by omega) hJ
end LLOOP
