section CTrial
variable {l : Launch} {D : mD} {d : Nat} {st : aS} {E : EE}
set_option maxRecDepth 100000 in
set_option maxHeartbeats 4000000 in
theorem c_R_canJoin {i : Nat} {S O e s : Int64} (hA : st.2.1 0 i 13 = S) (hO : st.2.1 0 i 12 ||| st.2.1 3 0 1 = O) (hd : 1 ≤ d) : MC l D mR_canJoin d 0 0 [vR (some (3, 0)), vR (some (0, i)), vL e, vL s] st (jQ st i (joinF i S O e s)) := by
  refine jm_start (ls0 := [some (vR (some (3, 0))), some (vR (some (0, i))), some (vL e), none, some (vL s), none, none, none]) (by decide) (Nat.le_of_ble_eq_true rfl) rfl ?_
  refine jm_aload_n (pc := 0) dR_canJoin_0 rfl ?_
  refine jm_aload_n (pc := 1) dR_canJoin_1 rfl ?_
  refine jm_callV (pc := 2) (c_R_outerOf (d := d - 1)) fR_outerOf vR_outerOf cR_105 dR_canJoin_2 rfl rfl rfl rfl (by omega) ⟨Nat.le_refl _, Nat.le_refl _⟩ rfl (Nat.le_of_ble_eq_true rfl) (fun v s2 hq => ?_)
  obtain ⟨rfl, rfl⟩ := hq
  rw [hO]
  refine jm_aload_n (pc := 5) dR_canJoin_5 rfl ?_
  refine jm_getl (pc := 6) lR_31 dR_canJoin_6 rfl (fun _ => rfl) ?_
  rw [hA]
  refine jm_ldc2 (pc := 9) dR_canJoin_9 klR_91 ?_
  refine jm_lxor (pc := 12) dR_canJoin_12 ?_
  refine jm_land (pc := 13) dR_canJoin_13 ?_
  refine jm_lstore (pc := 14) dR_canJoin_14 (by decide) ?_
  refine jm_lload (pc := 16) dR_canJoin_16 rfl ?_
  refine jm_lload (pc := 18) dR_canJoin_18 rfl ?_
  refine jm_land (pc := 20) dR_canJoin_20 ?_
  refine jm_lload_n (pc := 21) dR_canJoin_21 rfl ?_
  refine jm_ldc2 (pc := 22) dR_canJoin_22 klR_91 ?_
  refine jm_lxor (pc := 25) dR_canJoin_25 ?_
  refine jm_land (pc := 26) dR_canJoin_26 ?_
  refine jm_lconst (pc := 27) (v := 0) dR_canJoin_27 (by decide) ?_
  refine jm_lcmp (pc := 28) dR_canJoin_28 ?_
  refine jm_if_eq (pc := 29) (tgt := 34) dR_canJoin_29 (by decide) (fun h29 => ?_) (fun h29 => ?_)
  · refine jm_aload_n (pc := 34) dR_canJoin_34 rfl ?_
    refine jm_aload_n (pc := 35) dR_canJoin_35 rfl ?_
    refine jm_getl (pc := 36) lR_31 dR_canJoin_36 rfl (fun _ => rfl) ?_
    rw [hA]
    refine jm_lload (pc := 39) dR_canJoin_39 rfl ?_
    refine jm_lload (pc := 41) dR_canJoin_41 rfl ?_
    refine jm_land (pc := 43) dR_canJoin_43 ?_
    refine jm_lor (pc := 44) dR_canJoin_44 ?_
    refine jm_putl (pc := 45) pR_canJoin_36 dR_canJoin_45 rfl rfl ?_
    refine jm_iconst (pc := 48) (v := 1) dR_canJoin_48 (by decide) ?_
    refine jm_zret (pc := 49) dR_canJoin_49 rfl (by first | exact Or.inl rfl | exact Or.inr rfl | assumption) ⟨Nat.le_refl _, Nat.le_refl _⟩ ?_
    rw [show joinF i S O e s = .inl (S ||| ((O &&& nt S) &&& s)) from if_pos (lg0.mp h29)]
    exact ⟨rfl, rfl⟩
  · refine jm_iconst (pc := 32) (v := 0) dR_canJoin_32 (by decide) ?_
    refine jm_zret (pc := 33) dR_canJoin_33 rfl (by first | exact Or.inl rfl | exact Or.inr rfl | assumption) ⟨Nat.le_refl _, Nat.le_refl _⟩ ?_
    rw [show joinF i S O e s = .inr i from if_neg (fun q => h29 (lg0.mpr q))]
    exact ⟨rfl, rfl⟩
set_option maxRecDepth 100000 in
set_option maxHeartbeats 4000000 in
theorem c_R_canDoPart {i p f t : Nat} {S : Int64} (hC : CD l D E f (d - 1)) (hT : TC E st) (hi : i < eN E) (hp : p ∈ eK E i) (hdp : eD E i + 1 + f = 21) (htr : st.1 3 0 2 = nI t) (ht : t ≤ 20000) (hd : 1 ≤ d) : MC l D mR_canDoPart d 0 0 [vR (some (3, 0)), vR (some (0, i)), vR (some (0, p)), vL S] st (pQ E i p S f t st) := by
  refine jm_start (ls0 := [some (vR (some (3, 0))), some (vR (some (0, i))), some (vR (some (0, p))), some (vL S), none]) (by decide) (Nat.le_of_ble_eq_true rfl) rfl ?_
  refine jm_aload_n (pc := 0) dR_canDoPart_0 rfl ?_
  refine jm_aload_n (pc := 1) dR_canDoPart_1 rfl ?_
  refine jm_lload_n (pc := 2) dR_canDoPart_2 rfl ?_
  refine jm_callV (pc := 3) (hC st p S t hT (hT.tr.kid hi hp).1 (by rw [(hT.tr.kid hi hp).2.2.2]; omega) htr ht) fR_canDo vR_canDo cR_27 dR_canDoPart_3 rfl rfl rfl rfl (by omega) ⟨Nat.le_refl _, Nat.le_refl _⟩ rfl (Nat.le_of_ble_eq_true rfl) (fun v s2 hq => ?_)
  obtain ⟨b, rfl, hb⟩ := cQ_v hq
  refine jm_if_eq (pc := 6) (tgt := 11) dR_canDoPart_6 (by decide) (fun h6 => ?_) (fun h6 => ?_)
  · refine jm_aload_n (pc := 11) dR_canDoPart_11 rfl ?_
    refine jm_aload_n (pc := 12) dR_canDoPart_12 rfl ?_
    refine jm_geti (pc := 13) lR_42 dR_canDoPart_13 rfl (fun _ => rfl) ?_
    refine jm_puti (pc := 16) pR_canDoPart_42 dR_canDoPart_16 rfl rfl ?_
    refine jm_iconst (pc := 19) (v := 0) dR_canDoPart_19 (by decide) ?_
    refine jm_zret (pc := 20) dR_canDoPart_20 rfl (by first | exact Or.inl rfl | exact Or.inr rfl | assumption) ⟨Nat.le_refl _, Nat.le_refl _⟩ ?_
    obtain ⟨e1, e2⟩ := cQ_0 hq h6
    refine Or.inr ⟨rfl, (e1.up hT.tr hi hp).tr (TF.pI subP_self (Or.inr (Or.inl rfl))), ?_⟩
    rcases e2 with ⟨k, a1, a2, a3⟩ | ⟨a1, a2, a3⟩
    · exact Or.inl ⟨k, a1, ⟨a2.1, (sI_ne (by omega)).trans a2.2.1, (sI_ne (by omega)).trans a2.2.2⟩, sI_eq.trans a3⟩
    · exact Or.inr ⟨a1, (sI_ne (by omega)).trans a2, (sI_ne (by omega)).trans a3⟩
  · refine jm_iconst (pc := 9) (v := 1) dR_canDoPart_9 (by decide) ?_
    refine jm_zret (pc := 10) dR_canDoPart_10 rfl (by first | exact Or.inl rfl | exact Or.inr rfl | assumption) ⟨Nat.le_refl _, Nat.le_refl _⟩ ?_
    obtain ⟨B, e1, e2, e3, -, e5⟩ := cQ_1 hq h6
    exact Or.inl ⟨B, e1, rfl, e3, e2, e5⟩
set_option maxRecDepth 100000 in
set_option maxHeartbeats 4000000 in
theorem lp_R_stuckOfLeftmost {i : Nat} (hT : TC E st) (hi : i < eN E) : ∀ (ps : List Nat) (k : Nat), ps = (eK E i).drop k → MS l D mR_stuckOfLeftmost d 0 0 (fun v s' => st = s' ∧ ∃ x, v = some (vI x) ∧ ∀ q r, lf st ps = q :: r → x = st.1 0 q 16) 0 0 5 [some (vR (some (0, i))), some (vR (ps.head?.map (Prod.mk 0)))] [] st := by
  intro ps
  induction ps with
  | nil =>
    intro k hk
    refine jm_aload_n (pc := 5) dR_stuckOfLeftmost_5 rfl ?_
    refine jm_ifnull (pc := 6) (tgt := 29) dR_stuckOfLeftmost_6 (by decide) (fun h6 => ?_) (fun q6 h6 => ?_)
    · refine jm_aload_n (pc := 29) dR_stuckOfLeftmost_29 rfl ?_
      refine jm_geti (pc := 30) lR_39 dR_stuckOfLeftmost_30 rfl (fun _ => rfl) ?_
      refine jm_iret (pc := 33) dR_stuckOfLeftmost_33 rfl ⟨Nat.le_refl _, Nat.le_refl _⟩ ?_
      exact ⟨rfl, _, rfl, fun q r h => by simp [lf] at h⟩
    · exact absurd h6 (by simp)
  | cons p ps ih =>
    intro k hk
    have hkp : (eK E i)[k]? = some p := by
      have := congrArg List.head? hk
      rw [List.head?_drop] at this
      exact this.symm
    have hps : ps = (eK E i).drop (k + 1) := by
      have := congrArg List.tail hk
      rw [List.tail_drop] at this
      exact this
    have hnx : st.2.2.1 0 p 10 = ps.head? := by
      rw [(hT.2.2.2 i hi).2.2.2.2.1 k p hkp, hps, List.head?_drop]
    refine jm_aload_n (pc := 5) dR_stuckOfLeftmost_5 rfl ?_
    refine jm_ifnull (pc := 6) (tgt := 29) dR_stuckOfLeftmost_6 (by decide) (fun h6 => ?_) (fun q6 h6 => ?_)
    · exact absurd h6 (by simp)
    · refine jm_aload_n (pc := 9) dR_stuckOfLeftmost_9 rfl ?_
      refine jm_geti (pc := 10) lR_68 dR_stuckOfLeftmost_10 rfl (fun _ => rfl) ?_
      refine jm_if_ne (pc := 13) (tgt := 21) dR_stuckOfLeftmost_13 (by decide) (fun h13 => ?_) (fun h13 => ?_)
      · refine jm_aload_n (pc := 21) dR_stuckOfLeftmost_21 rfl ?_
        refine jm_getr (pc := 22) lR_74 dR_stuckOfLeftmost_22 rfl rfl ?_
        refine jm_astore_n (pc := 25) dR_stuckOfLeftmost_25 (by decide) ?_
        refine jm_goto (pc := 26) (tgt := 5) dR_stuckOfLeftmost_26 (by decide) ?_
        rw [lf_cons1 h13]
        exact MS.to (ih (k + 1) hps) (by rw [← hnx]; rfl) rfl rfl
      · refine jm_aload_n (pc := 16) dR_stuckOfLeftmost_16 rfl ?_
        refine jm_geti (pc := 17) lR_42 dR_stuckOfLeftmost_17 rfl (fun _ => rfl) ?_
        refine jm_iret (pc := 20) dR_stuckOfLeftmost_20 rfl ⟨Nat.le_refl _, Nat.le_refl _⟩ ?_
        refine ⟨rfl, _, rfl, fun q r h => ?_⟩
        rw [lf_cons0 h13] at h
        cases h
        rfl
set_option maxRecDepth 100000 in
set_option maxHeartbeats 4000000 in
theorem c_R_stuckOfLeftmost {i : Nat} (hT : TC E st) (hi : i < eN E) : MC l D mR_stuckOfLeftmost d 0 0 [vR (some (0, i))] st (fun v s' => st = s' ∧ ∃ x, v = some (vI x) ∧ ∀ q r, lf st (eK E i) = q :: r → x = st.1 0 q 16) := by
  refine jm_start (ls0 := [some (vR (some (0, i))), none]) (by decide) (Nat.le_of_ble_eq_true rfl) rfl ?_
  refine jm_aload_n (pc := 0) dR_stuckOfLeftmost_0 rfl ?_
  refine jm_getr (pc := 1) lR_64 dR_stuckOfLeftmost_1 rfl rfl ?_
  rw [(hT.2.2.2 i hi).2.2.2.1]
  refine jm_astore_n (pc := 4) dR_stuckOfLeftmost_4 (by decide) ?_
  exact lp_R_stuckOfLeftmost hT hi (eK E i) 0 rfl
set_option maxRecDepth 100000 in
set_option maxHeartbeats 4000000 in
theorem lp_R_doLeftmost {i f : Nat} {S : Int64} (hC : CD l D E f (d - 1)) (hi : i < eN E) (hdp : eD E i + 1 + f = 21) (hd : 1 ≤ d) : ∀ (ps : List Nat) (k : Nat) (sc : aS) (t : Nat), ps = (eK E i).drop k → TC E sc → sc.2.1 0 i 14 = S → sc.1 3 0 2 = nI t → t ≤ 20000 → MS l D mR_doLeftmost d 0 0 (dQ E i S f t sc ps) 0 0 5 [some (vR (some (3, 0))), some (vR (some (0, i))), some (vR (ps.head?.map (Prod.mk 0)))] [] sc := by
  intro ps
  induction ps with
  | nil =>
    intro k sc t hk hT hB htr ht
    refine jm_aload_n (pc := 5) dR_doLeftmost_5 rfl ?_
    refine jm_ifnull (pc := 6) (tgt := 51) dR_doLeftmost_6 (by decide) (fun h6 => ?_) (fun q6 h6 => ?_)
    · refine jm_null (pc := 51) dR_doLeftmost_51 ?_
      refine jm_aret (pc := 52) dR_doLeftmost_52 rfl ⟨Nat.le_refl _, Nat.le_refl _⟩ ?_
      refine Or.inl ⟨⟨ht, htr, rfl⟩, SE.rf, NF.rf, fun _ _ => rfl, fun _ => ⟨rfl, rfl, fun _ => rfl⟩, Or.inr ⟨rfl, rfl, rfl, fun _ _ => rfl, fun q r h => by simp [lf] at h⟩⟩
    · exact absurd h6 (by simp)
  | cons p ps ih =>
    intro k sc t hk hT hB htr ht
    have hkp : (eK E i)[k]? = some p := by
      have := congrArg List.head? hk
      rw [List.head?_drop] at this
      exact this.symm
    have hps : ps = (eK E i).drop (k + 1) := by
      have := congrArg List.tail hk
      rw [List.tail_drop] at this
      exact this
    have hpk : p ∈ eK E i := List.mem_of_getElem? hkp
    have hnd : p ∉ ps := by
      have h1 := (hT.tr.2.2 i hi).2.2.1
      rw [← List.take_append_drop k (eK E i), ← hk] at h1
      exact (List.nodup_cons.mp (List.nodup_append.mp h1).2.1).1
    have hpsK : ∀ q ∈ ps, q ∈ eK E i := fun q hq => List.mem_of_mem_drop (by rw [← hps]; exact hq)
    have hnx : sc.2.2.1 0 p 10 = ps.head? := by
      rw [(hT.2.2.2 i hi).2.2.2.2.1 k p hkp, hps, List.head?_drop]
    refine jm_aload_n (pc := 5) dR_doLeftmost_5 rfl ?_
    refine jm_ifnull (pc := 6) (tgt := 51) dR_doLeftmost_6 (by decide) (fun h6 => ?_) (fun q6 h6 => ?_)
    · exact absurd h6 (by simp)
    · refine jm_aload_n (pc := 9) dR_doLeftmost_9 rfl ?_
      refine jm_geti (pc := 10) lR_68 dR_doLeftmost_10 rfl (fun _ => rfl) ?_
      refine jm_if_ne (pc := 13) (tgt := 43) dR_doLeftmost_13 (by decide) (fun h13 => ?_) (fun h13 => ?_)
      · refine jm_aload_n (pc := 43) dR_doLeftmost_43 rfl ?_
        refine jm_getr (pc := 44) lR_74 dR_doLeftmost_44 rfl rfl ?_
        refine jm_astore_n (pc := 47) dR_doLeftmost_47 (by decide) ?_
        refine jm_goto (pc := 48) (tgt := 5) dR_doLeftmost_48 (by decide) ?_
        exact MS.to (MS.mono (ih (k + 1) sc t hps hT hB htr ht) (fun v s3 h => by unfold dQ at h ⊢; rw [lf_cons1 h13]; exact h)) (by rw [← hnx]; rfl) rfl rfl
      · refine jm_aload_n (pc := 16) dR_doLeftmost_16 rfl ?_
        refine jm_aload_n (pc := 17) dR_doLeftmost_17 rfl ?_
        refine jm_aload_n (pc := 18) dR_doLeftmost_18 rfl ?_
        refine jm_getl (pc := 19) lR_36 dR_doLeftmost_19 rfl (fun _ => rfl) ?_
        rw [hB]
        refine jm_callV (pc := 22) (hC sc p S t hT (hT.tr.kid hi hpk).1 (by rw [(hT.tr.kid hi hpk).2.2.2]; omega) htr ht) fR_canDo vR_canDo cR_27 dR_doLeftmost_22 rfl rfl rfl rfl (by omega) ⟨Nat.le_refl _, Nat.le_refl _⟩ rfl (Nat.le_of_ble_eq_true rfl) (fun v s2 hq => ?_)
        obtain ⟨b, rfl, hb⟩ := cQ_v hq
        refine jm_if_eq (pc := 25) (tgt := 43) dR_doLeftmost_25 (by decide) (fun h25 => ?_) (fun h25 => ?_)
        · have hT2 := hT.mv (cQ_0 hq h25).1.1
          have hnx2 : s2.2.2.1 0 p 10 = ps.head? := ((cQ_0 hq h25).1.1.2.2.2 0 p 10 (by decide)).trans hnx
          have hB2 : s2.2.1 0 i 14 = S := ((cQ_0 hq h25).1.at hT.tr hi hpk 14).2.1.trans hB
          refine jm_aload_n (pc := 43) dR_doLeftmost_43 rfl ?_
          refine jm_getr (pc := 44) lR_74 dR_doLeftmost_44 rfl rfl ?_
          refine jm_astore_n (pc := 47) dR_doLeftmost_47 (by decide) ?_
          refine jm_goto (pc := 48) (tgt := 5) dR_doLeftmost_48 (by decide) ?_
          obtain ⟨t2, ht2, htr2, hgo⟩ := dQ_miss hT.tr hi hpk hpsK hnd (Classical.not_not.mp (fun z => z h13)) hq h25
          exact MS.to (MS.mono (ih (k + 1) s2 t2 hps hT2 hB2 htr2 ht2) hgo) (by rw [← hnx2]; rfl) rfl rfl
        · refine jm_aload_n (pc := 28) dR_doLeftmost_28 rfl ?_
          refine jm_iconst (pc := 29) (v := 1) dR_doLeftmost_29 (by decide) ?_
          refine jm_putz (pc := 30) pR_doLeftmost_68 dR_doLeftmost_30 rfl rfl (by first | exact Or.inl rfl | exact Or.inr rfl | assumption) ?_
          refine jm_aload_n (pc := 33) dR_doLeftmost_33 rfl ?_
          refine jm_aload_n (pc := 34) dR_doLeftmost_34 rfl ?_
          refine jm_getl (pc := 35) lR_36 dR_doLeftmost_35 rfl (fun _ => rfl) ?_
          refine jm_putl (pc := 38) pR_doLeftmost_36 dR_doLeftmost_38 rfl rfl ?_
          refine jm_aload_n (pc := 41) dR_doLeftmost_41 rfl ?_
          refine jm_aret (pc := 42) dR_doLeftmost_42 rfl ⟨Nat.le_refl _, Nat.le_refl _⟩ ?_
          exact dQ_hit hT.tr hi hpk (Classical.not_not.mp (fun z => z h13)) hq h25
set_option maxRecDepth 100000 in
set_option maxHeartbeats 4000000 in
theorem c_R_doLeftmost {i f t : Nat} {S : Int64} (hC : CD l D E f (d - 1)) (hT : TC E st) (hi : i < eN E) (hdp : eD E i + 1 + f = 21) (hB : st.2.1 0 i 14 = S) (htr : st.1 3 0 2 = nI t) (ht : t ≤ 20000) (hd : 1 ≤ d) : MC l D mR_doLeftmost d 0 0 [vR (some (3, 0)), vR (some (0, i))] st (dQ E i S f t st (eK E i)) := by
  refine jm_start (ls0 := [some (vR (some (3, 0))), some (vR (some (0, i))), none]) (by decide) (Nat.le_of_ble_eq_true rfl) rfl ?_
  refine jm_aload_n (pc := 0) dR_doLeftmost_0 rfl ?_
  refine jm_getr (pc := 1) lR_64 dR_doLeftmost_1 rfl rfl ?_
  rw [(hT.2.2.2 i hi).2.2.2.1]
  refine jm_astore_n (pc := 4) dR_doLeftmost_4 (by decide) ?_
  exact lp_R_doLeftmost hC hi hdp hd (eK E i) 0 st t rfl hT hB htr ht
end CTrial
