section CM7
variable {l : Launch} {D : mD} {d : Nat} {st : aS} {E : EE}
set_option maxRecDepth 100000 in
set_option maxHeartbeats 4000000 in
theorem c_M_goesOn_0 {n F : Nat} {Q : Option aV → aS → Prop} (hT : TM E st) (hn : n < eN E) (hs : eS E n = 0) (hF : st.1 5 0 38 = nI (F + 1)) (hF40 : F < 40) (hfr : st.1 37 0 F = nI n) (hB : MC l D mM_row (d - 1) 0 0 [vR (some (5, 0)), vI (nI F), vI (nI n)] st Q) (hv : ∀ v s', Q v s' → ∃ b : Int32, v = some (vI b) ∧ (b = 0 ∨ b = 1)) (hd : 1 ≤ d) : MC l D mM_goesOn d 0 0 [vR (some (5, 0))] st (Q) := by
  refine jm_start (ls0 := [some (vR (some (5, 0))), none, none]) (by decide) (Nat.le_of_ble_eq_true rfl) rfl ?_
  have hn250 : n < 250 := Nat.lt_of_lt_of_le hn hT.1.1
  have hm := hT.2.2.1
  refine jm_aload_n (pc := 0) dM_goesOn_0 rfl ?_
  refine jm_geti (pc := 1) lM_193 dM_goesOn_1 rfl (fun _ => rfl) ?_
  refine jm_iconst (pc := 4) (v := 1) dM_goesOn_4 (by decide) ?_
  refine jm_isub (pc := 5) dM_goesOn_5 ?_
  rw [hF, show nI (F + 1) - 1 = nI F from nI_pred F]
  refine jm_istore_n (pc := 6) dM_goesOn_6 (by decide) ?_
  refine jm_aload_n (pc := 7) dM_goesOn_7 rfl ?_
  refine jm_getq (pc := 8) lM_87 dM_goesOn_8 rfl rfl (hm 31 rfl) ?_
  refine jm_iload_n (pc := 11) dM_goesOn_11 rfl ?_
  refine jm_iald (pc := 12) dM_goesOn_12 rfl (by decide) rfl (fun _ => rfl) ?hin ?_
  case hin =>
    exact vp_in_nI (N := 40) (by omega) (by decide)
  rw [nI_clamp (by omega), hfr]
  refine jm_istore_n (pc := 13) dM_goesOn_13 (by decide) ?_
  refine jm_aload_n (pc := 14) dM_goesOn_14 rfl ?_
  refine jm_getq (pc := 15) lM_19 dM_goesOn_15 rfl rfl (hm 6 rfl) ?_
  refine jm_iload_n (pc := 18) dM_goesOn_18 rfl ?_
  refine jm_iald (pc := 19) dM_goesOn_19 rfl (by decide) rfl (fun _ => rfl) ?hin ?_
  case hin =>
    exact vp_in_nI (N := 250) (by omega) (by decide)
  rw [nI_clamp (by omega), (hT.2.2.2.2 n hn).1, hs]
  skip
  · refine jm_tableIn (pc := 20) (tgt := 48) (off := 28) dM_goesOn_20 (by decide) (by decide) rfl (by decide) ?_
    refine jm_aload_n (pc := 48) dM_goesOn_48 rfl ?_
    refine jm_iload_n (pc := 49) dM_goesOn_49 rfl ?_
    refine jm_iload_n (pc := 50) dM_goesOn_50 rfl ?_
    refine jm_callV (pc := 51) hB fM_row vM_row cM_196 dM_goesOn_51 rfl rfl rfl rfl (by omega) ⟨Nat.le_refl _, Nat.le_refl _⟩ rfl (Nat.le_of_ble_eq_true rfl) (fun v s2 hq => ?_)
    obtain ⟨b, rfl, hb⟩ := hv _ _ hq
    refine jm_zret (pc := 54) dM_goesOn_54 rfl (hb) ⟨Nat.le_refl _, Nat.le_refl _⟩ ?_
    exact hq
set_option maxRecDepth 100000 in
set_option maxHeartbeats 4000000 in
theorem c_M_goesOn_1 {n F : Nat} {Q : Option aV → aS → Prop} (hT : TM E st) (hn : n < eN E) (hs : eS E n = 1) (hF : st.1 5 0 38 = nI (F + 1)) (hF40 : F < 40) (hfr : st.1 37 0 F = nI n) (hB : MC l D mM_choice (d - 1) 0 0 [vR (some (5, 0)), vI (nI F), vI (nI n)] st Q) (hv : ∀ v s', Q v s' → ∃ b : Int32, v = some (vI b) ∧ (b = 0 ∨ b = 1)) (hd : 1 ≤ d) : MC l D mM_goesOn d 0 0 [vR (some (5, 0))] st (Q) := by
  refine jm_start (ls0 := [some (vR (some (5, 0))), none, none]) (by decide) (Nat.le_of_ble_eq_true rfl) rfl ?_
  have hn250 : n < 250 := Nat.lt_of_lt_of_le hn hT.1.1
  have hm := hT.2.2.1
  refine jm_aload_n (pc := 0) dM_goesOn_0 rfl ?_
  refine jm_geti (pc := 1) lM_193 dM_goesOn_1 rfl (fun _ => rfl) ?_
  refine jm_iconst (pc := 4) (v := 1) dM_goesOn_4 (by decide) ?_
  refine jm_isub (pc := 5) dM_goesOn_5 ?_
  rw [hF, show nI (F + 1) - 1 = nI F from nI_pred F]
  refine jm_istore_n (pc := 6) dM_goesOn_6 (by decide) ?_
  refine jm_aload_n (pc := 7) dM_goesOn_7 rfl ?_
  refine jm_getq (pc := 8) lM_87 dM_goesOn_8 rfl rfl (hm 31 rfl) ?_
  refine jm_iload_n (pc := 11) dM_goesOn_11 rfl ?_
  refine jm_iald (pc := 12) dM_goesOn_12 rfl (by decide) rfl (fun _ => rfl) ?hin ?_
  case hin =>
    exact vp_in_nI (N := 40) (by omega) (by decide)
  rw [nI_clamp (by omega), hfr]
  refine jm_istore_n (pc := 13) dM_goesOn_13 (by decide) ?_
  refine jm_aload_n (pc := 14) dM_goesOn_14 rfl ?_
  refine jm_getq (pc := 15) lM_19 dM_goesOn_15 rfl rfl (hm 6 rfl) ?_
  refine jm_iload_n (pc := 18) dM_goesOn_18 rfl ?_
  refine jm_iald (pc := 19) dM_goesOn_19 rfl (by decide) rfl (fun _ => rfl) ?hin ?_
  case hin =>
    exact vp_in_nI (N := 250) (by omega) (by decide)
  rw [nI_clamp (by omega), (hT.2.2.2.2 n hn).1, hs]
  skip
  · refine jm_tableIn (pc := 20) (tgt := 55) (off := 35) dM_goesOn_20 (by decide) (by decide) rfl (by decide) ?_
    refine jm_aload_n (pc := 55) dM_goesOn_55 rfl ?_
    refine jm_iload_n (pc := 56) dM_goesOn_56 rfl ?_
    refine jm_iload_n (pc := 57) dM_goesOn_57 rfl ?_
    refine jm_callV (pc := 58) hB fM_choice vM_choice cM_198 dM_goesOn_58 rfl rfl rfl rfl (by omega) ⟨Nat.le_refl _, Nat.le_refl _⟩ rfl (Nat.le_of_ble_eq_true rfl) (fun v s2 hq => ?_)
    obtain ⟨b, rfl, hb⟩ := hv _ _ hq
    refine jm_zret (pc := 61) dM_goesOn_61 rfl (hb) ⟨Nat.le_refl _, Nat.le_refl _⟩ ?_
    exact hq
set_option maxRecDepth 100000 in
set_option maxHeartbeats 4000000 in
theorem c_M_goesOn_2 {n F : Nat} {Q : Option aV → aS → Prop} (hT : TM E st) (hn : n < eN E) (hs : eS E n = 2) (hF : st.1 5 0 38 = nI (F + 1)) (hF40 : F < 40) (hfr : st.1 37 0 F = nI n) (hB : MC l D mM_not (d - 1) 0 0 [vR (some (5, 0)), vI (nI F), vI (nI n)] st Q) (hv : ∀ v s', Q v s' → ∃ b : Int32, v = some (vI b) ∧ (b = 0 ∨ b = 1)) (hd : 1 ≤ d) : MC l D mM_goesOn d 0 0 [vR (some (5, 0))] st (Q) := by
  refine jm_start (ls0 := [some (vR (some (5, 0))), none, none]) (by decide) (Nat.le_of_ble_eq_true rfl) rfl ?_
  have hn250 : n < 250 := Nat.lt_of_lt_of_le hn hT.1.1
  have hm := hT.2.2.1
  refine jm_aload_n (pc := 0) dM_goesOn_0 rfl ?_
  refine jm_geti (pc := 1) lM_193 dM_goesOn_1 rfl (fun _ => rfl) ?_
  refine jm_iconst (pc := 4) (v := 1) dM_goesOn_4 (by decide) ?_
  refine jm_isub (pc := 5) dM_goesOn_5 ?_
  rw [hF, show nI (F + 1) - 1 = nI F from nI_pred F]
  refine jm_istore_n (pc := 6) dM_goesOn_6 (by decide) ?_
  refine jm_aload_n (pc := 7) dM_goesOn_7 rfl ?_
  refine jm_getq (pc := 8) lM_87 dM_goesOn_8 rfl rfl (hm 31 rfl) ?_
  refine jm_iload_n (pc := 11) dM_goesOn_11 rfl ?_
  refine jm_iald (pc := 12) dM_goesOn_12 rfl (by decide) rfl (fun _ => rfl) ?hin ?_
  case hin =>
    exact vp_in_nI (N := 40) (by omega) (by decide)
  rw [nI_clamp (by omega), hfr]
  refine jm_istore_n (pc := 13) dM_goesOn_13 (by decide) ?_
  refine jm_aload_n (pc := 14) dM_goesOn_14 rfl ?_
  refine jm_getq (pc := 15) lM_19 dM_goesOn_15 rfl rfl (hm 6 rfl) ?_
  refine jm_iload_n (pc := 18) dM_goesOn_18 rfl ?_
  refine jm_iald (pc := 19) dM_goesOn_19 rfl (by decide) rfl (fun _ => rfl) ?hin ?_
  case hin =>
    exact vp_in_nI (N := 250) (by omega) (by decide)
  rw [nI_clamp (by omega), (hT.2.2.2.2 n hn).1, hs]
  skip
  · refine jm_tableIn (pc := 20) (tgt := 62) (off := 42) dM_goesOn_20 (by decide) (by decide) rfl (by decide) ?_
    refine jm_aload_n (pc := 62) dM_goesOn_62 rfl ?_
    refine jm_iload_n (pc := 63) dM_goesOn_63 rfl ?_
    refine jm_iload_n (pc := 64) dM_goesOn_64 rfl ?_
    refine jm_callV (pc := 65) hB fM_not vM_not cM_201 dM_goesOn_65 rfl rfl rfl rfl (by omega) ⟨Nat.le_refl _, Nat.le_refl _⟩ rfl (Nat.le_of_ble_eq_true rfl) (fun v s2 hq => ?_)
    obtain ⟨b, rfl, hb⟩ := hv _ _ hq
    refine jm_zret (pc := 68) dM_goesOn_68 rfl (hb) ⟨Nat.le_refl _, Nat.le_refl _⟩ ?_
    exact hq
set_option maxRecDepth 100000 in
set_option maxHeartbeats 4000000 in
theorem c_M_goesOn_3 {n F : Nat} {Q : Option aV → aS → Prop} (hT : TM E st) (hn : n < eN E) (hs : eS E n = 3) (hF : st.1 5 0 38 = nI (F + 1)) (hF40 : F < 40) (hfr : st.1 37 0 F = nI n) (hB : MC l D mM_test (d - 1) 0 0 [vR (some (5, 0)), vI (nI F), vI (nI n)] st Q) (hv : ∀ v s', Q v s' → ∃ b : Int32, v = some (vI b) ∧ (b = 0 ∨ b = 1)) (hd : 1 ≤ d) : MC l D mM_goesOn d 0 0 [vR (some (5, 0))] st (Q) := by
  refine jm_start (ls0 := [some (vR (some (5, 0))), none, none]) (by decide) (Nat.le_of_ble_eq_true rfl) rfl ?_
  have hn250 : n < 250 := Nat.lt_of_lt_of_le hn hT.1.1
  have hm := hT.2.2.1
  refine jm_aload_n (pc := 0) dM_goesOn_0 rfl ?_
  refine jm_geti (pc := 1) lM_193 dM_goesOn_1 rfl (fun _ => rfl) ?_
  refine jm_iconst (pc := 4) (v := 1) dM_goesOn_4 (by decide) ?_
  refine jm_isub (pc := 5) dM_goesOn_5 ?_
  rw [hF, show nI (F + 1) - 1 = nI F from nI_pred F]
  refine jm_istore_n (pc := 6) dM_goesOn_6 (by decide) ?_
  refine jm_aload_n (pc := 7) dM_goesOn_7 rfl ?_
  refine jm_getq (pc := 8) lM_87 dM_goesOn_8 rfl rfl (hm 31 rfl) ?_
  refine jm_iload_n (pc := 11) dM_goesOn_11 rfl ?_
  refine jm_iald (pc := 12) dM_goesOn_12 rfl (by decide) rfl (fun _ => rfl) ?hin ?_
  case hin =>
    exact vp_in_nI (N := 40) (by omega) (by decide)
  rw [nI_clamp (by omega), hfr]
  refine jm_istore_n (pc := 13) dM_goesOn_13 (by decide) ?_
  refine jm_aload_n (pc := 14) dM_goesOn_14 rfl ?_
  refine jm_getq (pc := 15) lM_19 dM_goesOn_15 rfl rfl (hm 6 rfl) ?_
  refine jm_iload_n (pc := 18) dM_goesOn_18 rfl ?_
  refine jm_iald (pc := 19) dM_goesOn_19 rfl (by decide) rfl (fun _ => rfl) ?hin ?_
  case hin =>
    exact vp_in_nI (N := 250) (by omega) (by decide)
  rw [nI_clamp (by omega), (hT.2.2.2.2 n hn).1, hs]
  skip
  · refine jm_tableOut (pc := 20) (tgt := 69) dM_goesOn_20 (by decide) (by decide) ?_
    refine jm_aload_n (pc := 69) dM_goesOn_69 rfl ?_
    refine jm_iload_n (pc := 70) dM_goesOn_70 rfl ?_
    refine jm_iload_n (pc := 71) dM_goesOn_71 rfl ?_
    refine jm_callV (pc := 72) hB fM_test vM_test cM_204 dM_goesOn_72 rfl rfl rfl rfl (by omega) ⟨Nat.le_refl _, Nat.le_refl _⟩ rfl (Nat.le_of_ble_eq_true rfl) (fun v s2 hq => ?_)
    obtain ⟨b, rfl, hb⟩ := hv _ _ hq
    refine jm_zret (pc := 75) dM_goesOn_75 rfl (hb) ⟨Nat.le_refl _, Nat.le_refl _⟩ ?_
    exact hq
/-- the loop of order(), at its head -/
def LHd (l : Launch) (D : mD) (d : Nat) (Q : Option aV → aS → Prop) (b : Int32) (st : aS) : Prop := MS l D mM_order d 0 0 Q 0 0 33 [some (vR (some (5, 0))), some (vI b), none] [] st
set_option maxRecDepth 100000 in
set_option maxHeartbeats 4000000 in
theorem LH_step {F : Nat} {Q Q' : Option aV → aS → Prop} (hF : st.1 5 0 38 = nI (F + 1)) (hF40 : F < 40) (hG : MC l D mM_goesOn (d - 1) 0 0 [vR (some (5, 0))] st Q') (hv : ∀ v s', Q' v s' → ∃ b : Int32, v = some (vI b) ∧ (b = 0 ∨ b = 1)) (hd : 1 ≤ d) (kk : ∀ b s', Q' (some (vI b)) s' → LHd l D d Q b s') : LHd l D d Q 1 st := by
  unfold LHd
  refine jm_iload_n (pc := 33) dM_order_33 rfl ?_
  refine jm_if_eq (pc := 34) (tgt := 52) dM_order_34 (by decide) (fun h34 => ?_) (fun h34 => ?_)
  · first
      | exact absurd h34 (by decide)
      | exact absurd h41 (nI_nle (by omega) (by omega))
  · refine jm_aload_n (pc := 37) dM_order_37 rfl ?_
    refine jm_geti (pc := 38) lM_193 dM_order_38 rfl (fun _ => rfl) ?_
    rw [hF]
    refine jm_if_le (pc := 41) (tgt := 52) dM_order_41 (by decide) (fun h41 => ?_) (fun h41 => ?_)
    · first
        | exact absurd h34 (by decide)
        | exact absurd h41 (nI_nle (by omega) (by omega))
    · refine jm_aload_n (pc := 44) dM_order_44 rfl ?_
      refine jm_callV (pc := 45) hG fM_goesOn vM_goesOn cM_220 dM_order_45 rfl rfl rfl rfl (by omega) ⟨Nat.le_refl _, Nat.le_refl _⟩ rfl (Nat.le_of_ble_eq_true rfl) (fun v s2 hq => ?_)
      obtain ⟨b, rfl, hb⟩ := hv _ _ hq
      refine jm_istore_n (pc := 48) dM_order_48 (by decide) ?_
      refine jm_goto (pc := 49) (tgt := 33) dM_order_49 (by decide) ?_
      exact kk b s2 hq
/-- a node with a frame of its own, just tried: the loop runs until it is through -/
def RUN (l : Launch) (D : mD) (d : Nat) (E : EE) (Q : Option aV → aS → Prop) (f : Nat) : Prop := ∀ (n t F : Nat) (S : Int64) (s0 st : aS), TM E s0 → n < eN E → eS E n ≤ 3 → eD E n + f = 21 → F = eD E n → MT E n F s0 st → st.1 5 0 38 = nI (F + 1) → st.1 5 0 39 = nI (t + 1) → t + 1 ≤ 20000 → st.1 37 0 F = nI n → st.1 38 0 F = 0 → st.2.1 29 0 n = S → st.1 31 0 n = 0 → st.1 36 0 n = -1 →
  (∀ s2, mQ E n S f t F s0 s2 → LHd l D d Q 1 s2) → (∀ s2, SM s0 s2 → 20000 < t + (tryF E f n S).2 → LHd l D d Q 0 s2) → LHd l D d Q 1 st
theorem go_tried {Q : Option aV → aS → Prop} {f p t F : Nat} {S : Int64} {s1 s' : aS} {b : Int32} (hR : RUN l D d E Q f) (hT : TM E s1) (hp : p < eN E) (hdp : eD E p + f = 21) (hF : F = eD E p) (h : tQ E p S t F s1 (some (vI b)) s') (hN : ∀ s2, mQ E p S f t F s1 s2 → LHd l D d Q 1 s2) (hX : ∀ s2, SM s1 s2 → 20000 < t + (tryF E f p S).2 → LHd l D d Q 0 s2) : LHd l D d Q b s' := by
  have hd20 := (hT.1.2.2 p hp).2.1
  obtain ⟨f', rfl⟩ : ∃ f', f = f' + 1 := ⟨f - 1, by omega⟩
  rcases h with ⟨e1, e2, rfl⟩ | ⟨e1, e2, h⟩
  · have eb : b = 0 := by simpa using e2
    subst eb
    exact hX _ SM.rf (by have := tryF_pos E (f' + 1) p S; omega)
  · have eb : b = 1 := by simpa using e2
    subst eb
    rcases h with ⟨h3, h⟩ | ⟨h3, a1, a2, a3, a4, a5, a6, a7, a8⟩
    · exact hN _ (h f')
    · exact hR p t F S s1 s' hT hp h3 hdp hF a1 a2 a3 e1 a4 a5 a6 a7 a8 hN hX
theorem run_not {Q : Option aV → aS → Prop} {f n t F : Nat} {S : Int64} {s0 : aS} (hR : RUN l D d E Q f) (hT0 : TM E s0) (hn : n < eN E) (hs : eS E n = 2) (hdp : eD E n + (f + 1) = 21) (hFd : F = eD E n) (h0 : MT E n F s0 st) (hF : st.1 5 0 38 = nI (F + 1)) (htr : st.1 5 0 39 = nI (t + 1)) (ht : t + 1 ≤ 20000) (hfr : st.1 37 0 F = nI n) (hst : st.1 38 0 F = 0) (hA : st.2.1 29 0 n = S) (h31 : st.1 31 0 n = 0) (h36 : st.1 36 0 n = -1) (hd : 7 ≤ d)
    (hN : ∀ s2, mQ E n S (f + 1) t F s0 s2 → LHd l D d Q 1 s2) (hX : ∀ s2, SM s0 s2 → 20000 < t + (tryF E (f + 1) n S).2 → LHd l D d Q 0 s2) : LHd l D d Q 1 st := by
  have hT := hT0.mv h0.1
  have hd20 := (hT.1.2.2 n hn).2.1
  have eT : ∀ p r, eK E n = p :: r → tryF E (f + 1) n S = (notF n S (eO E n) (tryF E f p S).1, 1 + (tryF E f p S).2) := by
    intro p r hk
    conv => lhs; unfold tryF
    rw [if_neg (by omega), if_neg (by omega), if_pos hs, hk]
  have eF : ∀ p r, eK E n = p :: r → finF E (f + 1) n S = (n, S, []) :: finF E f p S := by
    intro p r hk
    conv => lhs; unfold finF
    rw [if_neg (by omega), if_neg (by omega), if_pos hs, hk]
  cases hk : eK E n with
  | nil =>
    refine LH_step hF (by omega) (c_M_goesOn_2 hT hn hs hF (by omega) hfr (c_M_not_0 (t := 0) hT hn (by omega) hF hk (by omega)) (fun v s' h => ⟨1, h.2, Or.inr rfl⟩) (by omega)) (fun v s' h => ⟨1, h.2, Or.inr rfl⟩) (by omega) (fun b s' h => ?_)
    obtain ⟨rfl, hb⟩ := h
    have eb : b = 1 := by simpa using hb
    subst eb
    refine hN _ ?_
    have e1 : tryF E (f + 1) n S = (.inr n, 1) := by
      conv => lhs; unfold tryF
      rw [if_neg (by omega), if_neg (by omega), if_pos hs, hk]
    unfold mQ
    rw [e1]
    exact ⟨h0.tr ends_MT, ends_38, ht, ends_39.trans htr, ends_31, Or.inr ⟨by omega, Or.inl ⟨(ends_I (by omega)).trans h36, rfl⟩⟩⟩
  | cons p r =>
    have hpk : p ∈ eK E n := by rw [hk]; exact List.mem_cons_self
    have hp := hT.1.kid hn hpk
    have h1 : MT E n F st (sI st 38 0 F 1) := MT.fI (by omega) (Nat.le_refl F)
    refine LH_step hF (by omega) (c_M_goesOn_2 hT hn hs hF (by omega) hfr (c_M_not_1 hT hn (by omega) hF hk hst hA htr ht (by omega)) (fun v s' h => tQ_v h) (by omega)) (fun v s' h => tQ_v h) (by omega) (fun b s' h => ?_)
    refine go_tried hR (hT.mv h1.1) hp.1 (by rw [hp.2.2.2]; omega) (by rw [hp.2.2.2, hFd]) h (fun s2 h2 => ?_) (fun s2 g2 hc => hX s2 ((h0.1.tr h1.1).tr g2) (by rw [eT p r hk]; show 20000 < t + (1 + _); omega))
    obtain ⟨m1, m2, m3, m4, m5⟩ := h2
    have hat := m1.at hT.1 hn hpk
    have hT2 := (hT.mv h1.1).mv m1.1
    have fr := m1.2.2.1 F (by omega)
    have g1 : MT E n F st s2 := h1.tr (m1.up hT.1 hn hpk (by omega))
    have hA2 : s2.2.1 29 0 n = S := hat.2.1.trans hA
    refine LH_step m2 (by omega) (c_M_goesOn_2 hT2 hn hs m2 (by omega) ((fr.1 37 (by omega) (by omega)).trans ((sI_ne (by omega)).trans hfr)) (c_M_not_2 (t := 0) (b := s2.1 31 0 p) (B := s2.2.1 30 0 p) hT2 hn (by omega) m2 hk ((fr.1 38 (by omega) (by omega)).trans sI_eq) hA2 rfl rfl (by omega)) (fun v s' h => ⟨1, h.1, Or.inr rfl⟩) (by omega)) (fun v s' h => ⟨1, h.1, Or.inr rfl⟩) (by omega) (fun b' s3 h3 => ?_)
    obtain ⟨hb, h3⟩ := h3
    have eb : b' = 1 := by simpa using hb
    subst eb
    refine hN _ ?_
    unfold mQ
    rw [eT p r hk, eF p r hk]
    have ec : t + 1 + (tryF E f p S).2 = t + (1 + (tryF E f p S).2) := by omega
    rw [ec] at m3 m4
    rcases h3 with ⟨z, rfl⟩ | ⟨z, rfl⟩
    · refine ⟨(h0.tr g1).tr ((MT.pI (by omega) subP_self (by omega)).tr ends_MT), ends_38, m3, ends_39.trans ((sI_ne (by omega)).trans m4), ?_⟩
      cases hr : (tryF E f p S).1 with
      | inl B =>
        rw [hr] at m5
        rw [m5.1] at z
        exact absurd z (by decide)
      | inr k =>
        rw [hr] at m5
        refine ⟨ends_31, Or.inr ⟨by omega, Or.inr ⟨p, hpk, (ends_I (by omega)).trans sI_eq, ends_blF hT.1 hp.1 (m5.2.keep hT.1 hp.1 (fun m hm => sI_ne (fun w => ?_)))⟩⟩⟩
        have := subP_gt hT.1.2.1 hm
        have := hp.2.1
        omega
    · refine ⟨(h0.tr g1).tr ends_MT, ends_38, m3, ends_39.trans m4, ?_⟩
      cases hr : (tryF E f p S).1 with
      | inr k =>
        rw [hr] at m5
        exact absurd m5.1 z
      | inl B =>
        rw [hr] at m5
        obtain ⟨q1, q2, q3, q4⟩ := m5
        rw [q2]
        show match (if (B &&& nt S) &&& eO E n = 0 then (.inl S : Int64 ⊕ Nat) else .inr n) with | .inl B => _ | .inr k => _
        by_cases hz : (B &&& nt S) &&& eO E n = 0
        · rw [if_pos hz]
          refine ⟨ends_31.trans (jb_t hz), ends_30, ends_29.trans hA2, gm.cons (ends_29.trans hA2) (fun w => by have w2 : 3 < eS E n := w; omega) (fun w => by have w2 : eS E n = 0 := w; omega) (q4.keep (fun x hx => ⟨ends_29, ends_I (by omega), ends_I (by omega)⟩) (fun x hx y hy => ends_I (by omega)))⟩
        · rw [if_neg hz]
          exact ⟨ends_31.trans (jb_f hz), Or.inr ⟨by omega, Or.inl ⟨(ends_I (by omega)).trans ((hat.1 36 (by omega) (by omega)).trans ((sI_ne (by omega)).trans h36)), rfl⟩⟩⟩
end CM7
