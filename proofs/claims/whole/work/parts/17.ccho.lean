section CCho
variable {l : Launch} {D : mD} {d : Nat} {st : aS} {E : EE}
set_option maxRecDepth 100000 in
set_option maxHeartbeats 4000000 in
theorem lp_R_canDoChoice {i f : Nat} {S : Int64} (hC : CD l D E f (d - 1 - 1)) (hi : i < eN E) (hdp : eD E i + 1 + f = 21) (hd : 2 ≤ d) : ∀ (ps : List Nat) (k : Nat) (sc : aS) (t : Nat) (e s : Int64), ps = (eK E i).drop k → TC E sc → sc.2.1 0 i 13 = S → sc.1 0 i 16 = nI i → sc.1 3 0 2 = nI t → t ≤ 20000 → gd E sc (((eK E i).take k).flatMap fun p => finF E f p S) → MS l D mR_canDoChoice d 0 0 (bQ E i S ((match (chF (tryF E f) S ps e s).1 with | .inr t => .inr t | .inl z => joinF i S (eO E i) z.1 z.2), (chF (tryF E f) S ps e s).2) ((eK E i).flatMap fun p => finF E f p S) t sc) 0 0 13 [some (vR (some (3, 0))), some (vR (some (0, i))), some (vL e), none, some (vL s), none, some (vR (ps.head?.map (Prod.mk 0)))] [] sc := by
  intro ps
  induction ps with
  | nil =>
    intro k sc t e s hk hT hA h16 htr ht hg
    have hall : (eK E i).take k = eK E i := by
      have h1 := List.take_append_drop k (eK E i)
      rw [← hk, List.append_nil] at h1
      exact h1
    rw [hall] at hg
    refine jm_aload (pc := 13) dR_canDoChoice_13 rfl ?_
    refine jm_ifnull (pc := 15) (tgt := 62) dR_canDoChoice_15 (by decide) (fun h15 => ?_) (fun q15 h15 => ?_)
    · refine jm_aload_n (pc := 62) dR_canDoChoice_62 rfl ?_
      refine jm_aload_n (pc := 63) dR_canDoChoice_63 rfl ?_
      refine jm_lload_n (pc := 64) dR_canDoChoice_64 rfl ?_
      refine jm_lload (pc := 65) dR_canDoChoice_65 rfl ?_
      refine jm_callV (pc := 67) (c_R_canJoin (d := d - 1) hA (hT.2.2.2 i hi).2.2.2.2.2.2.1 (by omega)) fR_canJoin vR_canJoin cR_97 dR_canDoChoice_67 rfl rfl rfl rfl (by omega) ⟨Nat.le_refl _, Nat.le_refl _⟩ rfl (Nat.le_of_ble_eq_true rfl) (fun v s2 hq => ?_)
      obtain ⟨b, rfl, hb⟩ := jQ_v hq
      refine jm_zret (pc := 70) dR_canDoChoice_70 rfl (hb) ⟨Nat.le_refl _, Nat.le_refl _⟩ ?_
      exact bQ_join hT.tr hi (fun q hq2 => by
        obtain ⟨p, hp, hq2⟩ := List.mem_flatMap.mp hq2
        exact finF_ne hT.tr hi hp q hq2) hg htr ht hA h16 hq
    · exact absurd h15 (by simp)
  | cons p ps ih =>
    intro k sc t e s hk hT hA h16 htr ht hg
    have hkp : (eK E i)[k]? = some p := by
      have := congrArg List.head? hk
      rw [List.head?_drop] at this
      exact this.symm
    have hps : ps = (eK E i).drop (k + 1) := by
      have := congrArg List.tail hk
      rw [List.tail_drop] at this
      exact this
    have hpk : p ∈ eK E i := List.mem_of_getElem? hkp
    have hnd : p ∉ ps := by
      have h1 := (hT.tr.2.2 i hi).2.2.1
      rw [← List.take_append_drop k (eK E i), ← hk] at h1
      exact (List.nodup_cons.mp (List.nodup_append.mp h1).2.1).1
    have hpsK : ∀ q ∈ ps, q ∈ eK E i := fun q hq => List.mem_of_mem_drop (by rw [← hps]; exact hq)
    have hnx : sc.2.2.1 0 p 10 = ps.head? := by
      rw [(hT.2.2.2 i hi).2.2.2.2.1 k p hkp, hps, List.head?_drop]
    refine jm_aload (pc := 13) dR_canDoChoice_13 rfl ?_
    refine jm_ifnull (pc := 15) (tgt := 62) dR_canDoChoice_15 (by decide) (fun h15 => ?_) (fun q15 h15 => ?_)
    · exact absurd h15 (by simp)
    · refine jm_aload_n (pc := 18) dR_canDoChoice_18 rfl ?_
      refine jm_aload_n (pc := 19) dR_canDoChoice_19 rfl ?_
      refine jm_aload (pc := 20) dR_canDoChoice_20 rfl ?_
      refine jm_aload_n (pc := 22) dR_canDoChoice_22 rfl ?_
      refine jm_getl (pc := 23) lR_31 dR_canDoChoice_23 rfl (fun _ => rfl) ?_
      rw [hA]
      refine jm_callV (pc := 26) (c_R_canDoPart (d := d - 1) hC hT hi hpk hdp htr ht (by omega)) fR_canDoPart vR_canDoPart cR_93 dR_canDoChoice_26 rfl rfl rfl rfl (by omega) ⟨Nat.le_refl _, Nat.le_refl _⟩ rfl (Nat.le_of_ble_eq_true rfl) (fun v s2 hq => ?_)
      obtain ⟨b, rfl, hb⟩ := pQ_v hq
      refine jm_if_ne (pc := 29) (tgt := 34) dR_canDoChoice_29 (by decide) (fun h29 => ?_) (fun h29 => ?_)
      · obtain ⟨B, e1, hn, tf, g1, g2, g3⟩ := pQ_1 hq h29
        refine jm_lload_n (pc := 34) dR_canDoChoice_34 rfl ?_
        refine jm_aload (pc := 35) dR_canDoChoice_35 rfl ?_
        refine jm_getl (pc := 37) lR_36 dR_canDoChoice_37 rfl (fun _ => rfl) ?_
        refine jm_land (pc := 40) dR_canDoChoice_40 ?_
        refine jm_lstore_n (pc := 41) dR_canDoChoice_41 (by decide) ?_
        refine jm_lload (pc := 42) dR_canDoChoice_42 rfl ?_
        refine jm_aload (pc := 44) dR_canDoChoice_44 rfl ?_
        refine jm_getl (pc := 46) lR_36 dR_canDoChoice_46 rfl (fun _ => rfl) ?_
        refine jm_lor (pc := 49) dR_canDoChoice_49 ?_
        refine jm_lstore (pc := 50) dR_canDoChoice_50 (by decide) ?_
        refine jm_aload (pc := 52) dR_canDoChoice_52 rfl ?_
        refine jm_getr (pc := 54) lR_74 dR_canDoChoice_54 rfl rfl ?_
        refine jm_astore (pc := 57) dR_canDoChoice_57 (by decide) ?_
        refine jm_goto (pc := 59) (tgt := 13) dR_canDoChoice_59 (by decide) ?_
        have ha := tf.at hT.tr hi hpk
        have hnx2 : s2.2.2.1 0 p 10 = ps.head? := (tf.1.2.2.2 0 p 10 (by decide)).trans hnx
        have hg2 : gd E s2 (((eK E i).take (k + 1)).flatMap fun p => finF E f p S) := by
          rw [List.take_add_one, hkp, List.flatMap_append]
          refine gd.app (fun y hy => ?_) (by simpa using g3)
          obtain ⟨z, hz, hy⟩ := List.mem_flatMap.mp hy
          have hzk := List.mem_of_mem_take hz
          have hne : p ≠ z := fun w => by
            have h1 := (hT.tr.2.2 i hi).2.2.1
            rw [← List.take_append_drop k (eK E i)] at h1
            exact (List.nodup_append.mp h1).2.2 z hz p (by rw [← hk]; exact List.mem_cons_self) w.symm
          exact gd.sib hT.tr hi hpk hzk hne tf (fun x hx => hg x (List.mem_flatMap.mpr ⟨z, hz, hx⟩)) y hy
        refine MS.mono (MS.to (ih (k + 1) s2 (t + (tryF E f p S).2) (e &&& B) (s ||| B) hps (hT.mv tf.1) ((ha 13).2.1.trans hA) ((ha 16).1.trans h16) hn.2.1 hn.1 hg2) (by rw [← hnx2, ← g1]; rfl) rfl rfl) (fun v s9 h => ?_)
        have h2 := bQ_step (tf.up hT.tr hi hpk) hn h
        have e9 : chF (tryF E f) S (p :: ps) e s = ((chF (tryF E f) S ps (e &&& B) (s ||| B)).1, (tryF E f p S).2 + (chF (tryF E f) S ps (e &&& B) (s ||| B)).2) := by
          conv => lhs; unfold chF
          rw [e1]
        rw [e9]
        exact h2
      · refine jm_iconst (pc := 32) (v := 0) dR_canDoChoice_32 (by decide) ?_
        refine jm_zret (pc := 33) dR_canDoChoice_33 rfl (by first | exact Or.inl rfl | exact Or.inr rfl | assumption) ⟨Nat.le_refl _, Nat.le_refl _⟩ ?_
        refine bQ_fail (pQ_0 hq h29) (fun k2 hk2 => ?_) ?_
        · conv => lhs; unfold chF
          rw [hk2]
        · show _ ≤ (chF (tryF E f) S (p :: ps) e s).2
          conv => rhs; unfold chF
          split
          · exact Nat.le_refl _
          · exact Nat.le_add_right _ _
set_option maxRecDepth 100000 in
set_option maxHeartbeats 4000000 in
theorem c_R_canDoChoice {i f t : Nat} {S : Int64} (hC : CD l D E f (d - 1 - 1)) (hT : TC E st) (hi : i < eN E) (hs : eS E i = 1) (hdp : eD E i + 1 + f = 21) (hA : st.2.1 0 i 13 = S) (hB : st.2.1 0 i 14 = S) (h16 : st.1 0 i 16 = nI i) (htr : st.1 3 0 2 = nI (t + 1)) (ht : t + 1 ≤ 20000) (hd : 2 ≤ d) : MC l D mR_canDoChoice d 0 0 [vR (some (3, 0)), vR (some (0, i))] st (cQ E i S (f + 1) t st) := by
  refine jm_start (ls0 := [some (vR (some (3, 0))), some (vR (some (0, i))), none, none, none, none, none]) (by decide) (Nat.le_of_ble_eq_true rfl) rfl ?_
  refine jm_ldc2 (pc := 0) dR_canDoChoice_0 klR_91 ?_
  refine jm_lstore_n (pc := 3) dR_canDoChoice_3 (by decide) ?_
  refine jm_lconst (pc := 4) (v := 0) dR_canDoChoice_4 (by decide) ?_
  refine jm_lstore (pc := 5) dR_canDoChoice_5 (by decide) ?_
  refine jm_aload_n (pc := 7) dR_canDoChoice_7 rfl ?_
  refine jm_getr (pc := 8) lR_64 dR_canDoChoice_8 rfl rfl ?_
  rw [(hT.2.2.2 i hi).2.2.2.1]
  refine jm_astore (pc := 11) dR_canDoChoice_11 (by decide) ?_
  refine MS.mono (lp_R_canDoChoice hC hi hdp hd (eK E i) 0 st (t + 1) (-1) 0 rfl hT hA h16 htr ht (fun _ h => by cases h)) (fun v s9 h => ?_)
  refine bQ_cQ ?_ ?_ (by omega) (by omega) h
  · conv => lhs; unfold tryF
    rw [if_neg (by omega), if_pos hs]
    try rfl
  · conv => lhs; unfold finF
    rw [if_neg (by omega), if_pos hs]
    try rfl
set_option maxRecDepth 100000 in
set_option maxHeartbeats 4000000 in
theorem c_R_canDoNot {i f t : Nat} {S : Int64} (hC : CD l D E f (d - 1 - 1)) (hT : TC E st) (hi : i < eN E) (hs : eS E i = 2) (hdp : eD E i + 1 + f = 21) (hA : st.2.1 0 i 13 = S) (hB : st.2.1 0 i 14 = S) (h16 : st.1 0 i 16 = nI i) (htr : st.1 3 0 2 = nI (t + 1)) (ht : t + 1 ≤ 20000) (hd : 2 ≤ d) : MC l D mR_canDoNot d 0 0 [vR (some (3, 0)), vR (some (0, i))] st (cQ E i S (f + 1) t st) := by
  refine jm_start (ls0 := [some (vR (some (3, 0))), some (vR (some (0, i))), none]) (by decide) (Nat.le_of_ble_eq_true rfl) rfl ?_
  refine jm_aload_n (pc := 0) dR_canDoNot_0 rfl ?_
  refine jm_getr (pc := 1) lR_64 dR_canDoNot_1 rfl rfl ?_
  rw [(hT.2.2.2 i hi).2.2.2.1]
  refine jm_astore_n (pc := 4) dR_canDoNot_4 (by decide) ?_
  refine jm_aload_n (pc := 5) dR_canDoNot_5 rfl ?_
  refine jm_ifnull (pc := 6) (tgt := 22) dR_canDoNot_6 (by decide) (fun h6 => ?_) (fun q6 h6 => ?_)
  · refine jm_iconst (pc := 22) (v := 0) dR_canDoNot_22 (by decide) ?_
    refine jm_zret (pc := 23) dR_canDoNot_23 rfl (by first | exact Or.inl rfl | exact Or.inr rfl | assumption) ⟨Nat.le_refl _, Nat.le_refl _⟩ ?_
    have hk : eK E i = [] := by
      cases hk : eK E i with
      | nil => rfl
      | cons p r => rw [hk] at h6; cases h6
    refine bQ_cQ (r := (.inr i, 0)) (L := []) ?_ ?_ (by omega) (by omega) ⟨TF.rf, Or.inl ⟨⟨ht, htr, rfl⟩, rfl, h16⟩⟩
    · conv => lhs; unfold tryF
      rw [if_neg (by omega), if_neg (by omega), if_pos hs, hk]
      try rfl
    · conv => lhs; unfold finF
      rw [if_neg (by omega), if_neg (by omega), if_pos hs, hk]
      try rfl
  · obtain ⟨p, r, hk⟩ : ∃ p r, eK E i = p :: r := by
      cases hk : eK E i with
      | nil => rw [hk] at h6; cases h6
      | cons p r => exact ⟨p, r, rfl⟩
    have hpk : p ∈ eK E i := by rw [hk]; exact List.mem_cons_self
    rw [show (eK E i).head? = some p by rw [hk]; rfl]
    refine jm_aload_n (pc := 9) dR_canDoNot_9 rfl ?_
    refine jm_aload_n (pc := 10) dR_canDoNot_10 rfl ?_
    refine jm_aload_n (pc := 11) dR_canDoNot_11 rfl ?_
    refine jm_aload_n (pc := 12) dR_canDoNot_12 rfl ?_
    refine jm_getl (pc := 13) lR_31 dR_canDoNot_13 rfl (fun _ => rfl) ?_
    rw [hA]
    refine jm_callV (pc := 16) (c_R_canDoPart (d := d - 1) hC hT hi hpk hdp htr ht (by omega)) fR_canDoPart vR_canDoPart cR_93 dR_canDoNot_16 rfl rfl rfl rfl (by omega) ⟨Nat.le_refl _, Nat.le_refl _⟩ rfl (Nat.le_of_ble_eq_true rfl) (fun v s2 hq => ?_)
    obtain ⟨b, rfl, hb⟩ := pQ_v hq
    refine jm_if_ne (pc := 19) (tgt := 24) dR_canDoNot_19 (by decide) (fun h19 => ?_) (fun h19 => ?_)
    · obtain ⟨B, e1, hn, tf, g1, g2, g3⟩ := pQ_1 hq h19
      have ha := tf.at hT.tr hi hpk
      have hO2 := ((hT.mv tf.1).2.2.2 i hi).2.2.2.2.2.2.1
      refine jm_aload_n (pc := 24) dR_canDoNot_24 rfl ?_
      refine jm_callS (pc := 25) (c_R_madeBy (d := d - 1)) fR_madeBy sR_madeBy cR_101 dR_canDoNot_25 rfl (by omega) ⟨Nat.le_refl _, Nat.le_refl _⟩ rfl (Nat.le_of_ble_eq_true rfl) (fun v s2 hq => ?_)
      obtain ⟨rfl, rfl⟩ := hq
      rw [g1, g2]
      refine jm_aload_n (pc := 28) dR_canDoNot_28 rfl ?_
      refine jm_aload_n (pc := 29) dR_canDoNot_29 rfl ?_
      refine jm_callV (pc := 30) (c_R_outerOf (d := d - 1)) fR_outerOf vR_outerOf cR_105 dR_canDoNot_30 rfl rfl rfl rfl (by omega) ⟨Nat.le_refl _, Nat.le_refl _⟩ rfl (Nat.le_of_ble_eq_true rfl) (fun v s2 hq => ?_)
      obtain ⟨rfl, rfl⟩ := hq
      rw [hO2]
      refine jm_land (pc := 33) dR_canDoNot_33 ?_
      refine jm_lconst (pc := 34) (v := 0) dR_canDoNot_34 (by decide) ?_
      refine jm_lcmp (pc := 35) dR_canDoNot_35 ?_
      refine jm_if_ne (pc := 36) (tgt := 43) dR_canDoNot_36 (by decide) (fun h36 => ?_) (fun h36 => ?_)
      · refine jm_iconst (pc := 43) (v := 0) dR_canDoNot_43 (by decide) ?_
        refine jm_zret (pc := 44) dR_canDoNot_44 rfl (by first | exact Or.inl rfl | exact Or.inr rfl | assumption) ⟨Nat.le_refl _, Nat.le_refl _⟩ ?_
        have hbq : ∀ v, (v = some (vI 1) ∧ (B &&& nt S) &&& eO E i = 0) ∨ (v = some (vI 0) ∧ ¬ ((B &&& nt S) &&& eO E i = 0)) → bQ E i S (notF i S (eO E i) (tryF E f p S).1, (tryF E f p S).2) (finF E f p S) (t + 1) st v s2 := by
          intro v hv
          refine ⟨tf.up hT.tr hi hpk, Or.inl ⟨hn, ?_⟩⟩
          rw [e1]
          rcases hv with ⟨rfl, hz⟩ | ⟨rfl, hz⟩
          · show match (if (B &&& nt S) &&& eO E i = 0 then (.inl S : Int64 ⊕ Nat) else .inr i) with | .inl B => _ | .inr k => _
            rw [if_pos hz]
            exact ⟨rfl, (ha 14).2.1.trans hB, (ha 13).2.1.trans hA, g3⟩
          · show match (if (B &&& nt S) &&& eO E i = 0 then (.inl S : Int64 ⊕ Nat) else .inr i) with | .inl B => _ | .inr k => _
            rw [if_neg hz]
            exact ⟨rfl, (ha 16).1.trans h16⟩
        refine bQ_cQ (r := (notF i S (eO E i) (tryF E f p S).1, (tryF E f p S).2)) (L := finF E f p S) ?_ ?_ (by omega) (by omega) (hbq _ (by first | exact Or.inl ⟨rfl, lg0.mp h36⟩ | exact Or.inr ⟨rfl, fun q => h36 (lg0.mpr q)⟩))
        · conv => lhs; unfold tryF
          rw [if_neg (by omega), if_neg (by omega), if_pos hs, hk]
          try rfl
        · conv => lhs; unfold finF
          rw [if_neg (by omega), if_neg (by omega), if_pos hs, hk]
          try rfl
      · refine jm_iconst (pc := 39) (v := 1) dR_canDoNot_39 (by decide) ?_
        refine jm_goto (pc := 40) (tgt := 44) dR_canDoNot_40 (by decide) ?_
        refine jm_zret (pc := 44) dR_canDoNot_44 rfl (by first | exact Or.inl rfl | exact Or.inr rfl | assumption) ⟨Nat.le_refl _, Nat.le_refl _⟩ ?_
        have hbq : ∀ v, (v = some (vI 1) ∧ (B &&& nt S) &&& eO E i = 0) ∨ (v = some (vI 0) ∧ ¬ ((B &&& nt S) &&& eO E i = 0)) → bQ E i S (notF i S (eO E i) (tryF E f p S).1, (tryF E f p S).2) (finF E f p S) (t + 1) st v s2 := by
          intro v hv
          refine ⟨tf.up hT.tr hi hpk, Or.inl ⟨hn, ?_⟩⟩
          rw [e1]
          rcases hv with ⟨rfl, hz⟩ | ⟨rfl, hz⟩
          · show match (if (B &&& nt S) &&& eO E i = 0 then (.inl S : Int64 ⊕ Nat) else .inr i) with | .inl B => _ | .inr k => _
            rw [if_pos hz]
            exact ⟨rfl, (ha 14).2.1.trans hB, (ha 13).2.1.trans hA, g3⟩
          · show match (if (B &&& nt S) &&& eO E i = 0 then (.inl S : Int64 ⊕ Nat) else .inr i) with | .inl B => _ | .inr k => _
            rw [if_neg hz]
            exact ⟨rfl, (ha 16).1.trans h16⟩
        refine bQ_cQ (r := (notF i S (eO E i) (tryF E f p S).1, (tryF E f p S).2)) (L := finF E f p S) ?_ ?_ (by omega) (by omega) (hbq _ (by first | exact Or.inl ⟨rfl, lg0.mp h36⟩ | exact Or.inr ⟨rfl, fun q => h36 (lg0.mpr q)⟩))
        · conv => lhs; unfold tryF
          rw [if_neg (by omega), if_neg (by omega), if_pos hs, hk]
          try rfl
        · conv => lhs; unfold finF
          rw [if_neg (by omega), if_neg (by omega), if_pos hs, hk]
          try rfl
    · refine jm_iconst (pc := 22) (v := 0) dR_canDoNot_22 (by decide) ?_
      refine jm_zret (pc := 23) dR_canDoNot_23 rfl (by first | exact Or.inl rfl | exact Or.inr rfl | assumption) ⟨Nat.le_refl _, Nat.le_refl _⟩ ?_
      refine bQ_cQ (r := (notF i S (eO E i) (tryF E f p S).1, (tryF E f p S).2)) (L := finF E f p S) ?_ ?_ (by omega) (by omega) (bQ_fail (pQ_0 hq h19) (fun k2 hk2 => by rw [hk2]; rfl) (Nat.le_refl _))
      · conv => lhs; unfold tryF
        rw [if_neg (by omega), if_neg (by omega), if_pos hs, hk]
        try rfl
      · conv => lhs; unfold finF
        rw [if_neg (by omega), if_neg (by omega), if_pos hs, hk]
        try rfl
end CCho
