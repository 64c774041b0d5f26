section CRow
variable {l : Launch} {D : mD} {d : Nat} {st : aS} {E : EE}
set_option maxRecDepth 100000 in
set_option maxHeartbeats 4000000 in
theorem la_R_canDoRow {i : Nat} {Q : Option aV → aS → Prop} (hi : i < eN E) : ∀ (ps : List Nat) (k : Nat) (sc : aS), ps = (eK E i).drop k → TC E sc → (∀ s', RS E i ps sc s' → MS l D mR_canDoRow d 0 0 Q 0 0 27 [some (vR (some (3, 0))), some (vR (some (0, i))), some (vR none), none, none] [] s') → MS l D mR_canDoRow d 0 0 Q 0 0 5 [some (vR (some (3, 0))), some (vR (some (0, i))), some (vR (ps.head?.map (Prod.mk 0))), none, none] [] sc := by
  intro ps
  induction ps with
  | nil =>
    intro k sc hk hT hgo
    refine jm_aload_n (pc := 5) dR_canDoRow_5 rfl ?_
    refine jm_ifnull (pc := 6) (tgt := 27) dR_canDoRow_6 (by decide) (fun h6 => ?_) (fun q6 h6 => ?_)
    · exact hgo sc RS.nil
    · exact absurd h6 (by simp)
  | cons p ps ih =>
    intro k sc hk hT hgo
    have hkp : (eK E i)[k]? = some p := by
      have := congrArg List.head? hk
      rw [List.head?_drop] at this
      exact this.symm
    have hps : ps = (eK E i).drop (k + 1) := by
      have := congrArg List.tail hk
      rw [List.tail_drop] at this
      exact this
    have hpk : p ∈ eK E i := List.mem_of_getElem? hkp
    have hnd : p ∉ ps := by
      have h1 := (hT.tr.2.2 i hi).2.2.1
      rw [← List.take_append_drop k (eK E i), ← hk] at h1
      exact (List.nodup_cons.mp (List.nodup_append.mp h1).2.1).1
    have hpsK : ∀ q ∈ ps, q ∈ eK E i := fun q hq => List.mem_of_mem_drop (by rw [← hps]; exact hq)
    have hnx : sc.2.2.1 0 p 10 = ps.head? := by
      rw [(hT.2.2.2 i hi).2.2.2.2.1 k p hkp, hps, List.head?_drop]
    refine jm_aload_n (pc := 5) dR_canDoRow_5 rfl ?_
    refine jm_ifnull (pc := 6) (tgt := 27) dR_canDoRow_6 (by decide) (fun h6 => ?_) (fun q6 h6 => ?_)
    · exact absurd h6 (by simp)
    · refine jm_aload_n (pc := 9) dR_canDoRow_9 rfl ?_
      refine jm_iconst (pc := 10) (v := 0) dR_canDoRow_10 (by decide) ?_
      refine jm_putz (pc := 11) pR_canDoRow_68 dR_canDoRow_11 rfl rfl (by first | exact Or.inl rfl | exact Or.inr rfl | assumption) ?_
      refine jm_aload_n (pc := 14) dR_canDoRow_14 rfl ?_
      refine jm_null (pc := 15) dR_canDoRow_15 ?_
      first | refine jm_putr (pc := 16) none rfl pR_canDoRow_71 dR_canDoRow_16 rfl rfl (fun w => by cases w <;> exact ⟨rfl, rfl⟩) ?_ | refine jm_putr (pc := 16) (some _) rfl pR_canDoRow_71 dR_canDoRow_16 rfl rfl (fun w => by cases w <;> exact ⟨rfl, rfl⟩) ?_ | refine jm_putr (pc := 16) _ rfl pR_canDoRow_71 dR_canDoRow_16 rfl rfl (fun w => by cases w <;> exact ⟨rfl, rfl⟩) ?_
      refine jm_aload_n (pc := 19) dR_canDoRow_19 rfl ?_
      refine jm_getr (pc := 20) lR_74 dR_canDoRow_20 rfl rfl ?_
      refine jm_astore_n (pc := 23) dR_canDoRow_23 (by decide) ?_
      refine jm_goto (pc := 24) (tgt := 5) dR_canDoRow_24 (by decide) ?_
      exact MS.to (ih (k + 1) _ hps (hT.mv (((TF.pI (E := E) (i := i) (a := p) (j := 17) (v := 0) (hT.tr.sub hi hpk subP_self) (Or.inr (Or.inr ⟨rfl, by have := (hT.tr.kid hi hpk).2.1; omega⟩))).tr (TF.pR (hT.tr.sub hi hpk subP_self) (Or.inr ⟨rfl, by have := (hT.tr.kid hi hpk).2.1; omega⟩))).1)) (fun s' h => hgo s' (RS.cons hT.tr hi hpk h))) (by rw [← hnx, sR_ne (st := sI sc 0 p 17 0) (k := 0) (i := p) (j := 19) (v := none) (a := 0) (b := p) (c := 10) (by omega)]; rfl) rfl rfl
set_option maxRecDepth 100000 in
set_option maxHeartbeats 4000000 in
theorem lb_R_canDoRow {i f : Nat} (hC : CD l D E f (d - 1 - 1)) (hi : i < eN E) (hdp : eD E i + 1 + f = 21) (hd : 2 ≤ d) : ∀ (n : Nat) (od : List (Nat × Int64)) (sc : aS) (t : Nat) (S' : Int64) (x2 : Option (Nat × Nat)) (x3 : Int32) (x4 : Option aV), (lf sc (eK E i)).length = n → TC E sc → WI E i f od S' sc → sc.1 3 0 2 = nI t → t ≤ 20000 → x2 = (od.map Prod.fst).getLast?.map (Prod.mk 0) → x3 = nI od.length → MS l D mR_canDoRow d 0 0 (wQ E i f t sc od (lf sc (eK E i)) S') 0 0 36 [some (vR (some (3, 0))), some (vR (some (0, i))), some (vR x2), some (vI x3), x4] [] sc := by
  intro n
  induction n with
  | zero =>
    intro od sc t S' x2 x3 x4 hn hT hW htr ht hx2 hx3
    have hl := hW.2.2.2.2.2.1
    have h250 : (eK E i).length ≤ 250 := eK_len hT.tr hi
    have e6 := (hT.2.2.2 i hi).2.2.1
    refine jm_iload_n (pc := 36) dR_canDoRow_36 rfl ?_
    refine jm_aload_n (pc := 37) dR_canDoRow_37 rfl ?_
    refine jm_geti (pc := 38) lR_80 dR_canDoRow_38 rfl (fun _ => rfl) ?_
    refine jm_icmp_ge (pc := 41) (tgt := 94) dR_canDoRow_41 (by decide) (fun h41 => ?_) (fun h41 => ?_)
    · refine jm_iconst (pc := 94) (v := 1) dR_canDoRow_94 (by decide) ?_
      refine jm_zret (pc := 95) dR_canDoRow_95 rfl (by first | exact Or.inl rfl | exact Or.inr rfl | assumption) ⟨Nat.le_refl _, Nat.le_refl _⟩ ?_
      exact wQ_end hW ht htr (List.eq_nil_of_length_eq_zero hn)
    · exact absurd (by rw [e6, hx3]; exact nI_le (by omega) (by omega)) h41
  | succ n ih =>
    intro od sc t S' x2 x3 x4 hn hT hW htr ht hx2 hx3
    have hl := hW.2.2.2.2.2.1
    have h250 : (eK E i).length ≤ 250 := eK_len hT.tr hi
    have e6 := (hT.2.2.2 i hi).2.2.1
    refine jm_iload_n (pc := 36) dR_canDoRow_36 rfl ?_
    refine jm_aload_n (pc := 37) dR_canDoRow_37 rfl ?_
    refine jm_geti (pc := 38) lR_80 dR_canDoRow_38 rfl (fun _ => rfl) ?_
    refine jm_icmp_ge (pc := 41) (tgt := 94) dR_canDoRow_41 (by decide) (fun h41 => ?_) (fun h41 => ?_)
    · exact absurd h41 (by rw [e6, hx3]; exact nI_ge (by omega) (by omega))
    · refine jm_aload_n (pc := 44) dR_canDoRow_44 rfl ?_
      refine jm_aload_n (pc := 45) dR_canDoRow_45 rfl ?_
      refine jm_callV (pc := 46) (c_R_doLeftmost (d := d - 1) hC hT hi hdp hW.2.2.2.2.2.2 htr ht (by omega)) fR_doLeftmost vR_doLeftmost cR_83 dR_canDoRow_46 rfl rfl rfl rfl (by omega) ⟨Nat.le_refl _, Nat.le_refl _⟩ rfl (Nat.le_of_ble_eq_true rfl) (fun v s2 hq => ?_)
      obtain ⟨⟨x, rfl⟩, hse⟩ := dQ_x hq
      have hq9 := hq
      refine jm_astore (pc := 49) dR_canDoRow_49 (by decide) ?_
      refine jm_aload (pc := 51) dR_canDoRow_51 rfl ?_
      refine jm_ifnonnull (pc := 53) (tgt := 66) dR_canDoRow_53 (by decide) (fun q53 h53 => ?_) (fun h53 => ?_)
      · subst h53
        obtain ⟨p, B, rfl, z1, z2, z3, z4, z5, z6, z7, z8, z9, z10⟩ := dQ_some hq
        refine jm_aload_n (pc := 66) dR_canDoRow_66 rfl ?_
        refine jm_ifnonnull (pc := 67) (tgt := 79) dR_canDoRow_67 (by decide) (fun q67 h67 => ?_) (fun h67 => ?_)
        · obtain ⟨y, hy, rfl⟩ : ∃ y, (od.map Prod.fst).getLast? = some y ∧ (0, y) = q67 := by
            rw [h67] at hx2
            cases hg : (od.map Prod.fst).getLast? with
            | none => rw [hg] at hx2; cases hx2
            | some y => rw [hg] at hx2; exact ⟨y, rfl, (Option.some.inj hx2).symm⟩
          subst h67
          have hw := WI_step hT.tr hi hW z1 z2 z3 z4 z5 z6 z7 z8 z9 z10 (Or.inr ⟨y, hy, rfl⟩)
          refine jm_aload_n (pc := 79) dR_canDoRow_79 rfl ?_
          refine jm_aload (pc := 80) dR_canDoRow_80 rfl ?_
          first | refine jm_putr (pc := 82) none rfl pR_canDoRow_71 dR_canDoRow_82 rfl rfl (fun w => by cases w <;> exact ⟨rfl, rfl⟩) ?_ | refine jm_putr (pc := 82) (some _) rfl pR_canDoRow_71 dR_canDoRow_82 rfl rfl (fun w => by cases w <;> exact ⟨rfl, rfl⟩) ?_ | refine jm_putr (pc := 82) _ rfl pR_canDoRow_71 dR_canDoRow_82 rfl rfl (fun w => by cases w <;> exact ⟨rfl, rfl⟩) ?_
          refine jm_aload (pc := 85) dR_canDoRow_85 rfl ?_
          refine jm_astore_n (pc := 87) dR_canDoRow_87 (by decide) ?_
          refine jm_iinc (pc := 88) dR_canDoRow_88 rfl (by decide) ?_
          refine jm_goto (pc := 91) (tgt := 36) dR_canDoRow_91 (by decide) ?_
          obtain ⟨g1, g2, g3, g4, g5, g6⟩ := hw
          refine MS.mono (ih (od ++ [(p, S')]) _ (t + (scanF (tryF E f) S' (lf sc (eK E i))).2) B _ _ _ (by omega) (hT.mv g2.1) g1 (by rw [g5]; exact z2.2.1) z2.1 (by rw [List.map_append, List.getLast?_append]; rfl) (by rw [hx3, ni1, List.length_append]; rfl)) (fun v s9 h => ?_)
          rw [g3] at h
          exact wQ_step z1 (scanF_mem z1).1 ⟨z2.1, by rw [g5]; exact z2.2.1, by rw [g5]; exact z2.2.2⟩ g2 (by rw [g6]; exact (z6 13).2.2 (by decide)) h
        · have hod : od = [] := by
            cases od with
            | nil => rfl
            | cons a r =>
              rw [h67] at hx2
              have := congrArg Option.isNone hx2
              simp at this
          have hw := WI_step hT.tr hi hW z1 z2 z3 z4 z5 z6 z7 z8 z9 z10 (Or.inl ⟨hod, rfl⟩)
          refine jm_aload_n (pc := 70) dR_canDoRow_70 rfl ?_
          refine jm_aload (pc := 71) dR_canDoRow_71 rfl ?_
          first | refine jm_putr (pc := 73) none rfl pR_canDoRow_77 dR_canDoRow_73 rfl rfl (fun w => by cases w <;> exact ⟨rfl, rfl⟩) ?_ | refine jm_putr (pc := 73) (some _) rfl pR_canDoRow_77 dR_canDoRow_73 rfl rfl (fun w => by cases w <;> exact ⟨rfl, rfl⟩) ?_ | refine jm_putr (pc := 73) _ rfl pR_canDoRow_77 dR_canDoRow_73 rfl rfl (fun w => by cases w <;> exact ⟨rfl, rfl⟩) ?_
          refine jm_goto (pc := 76) (tgt := 85) dR_canDoRow_76 (by decide) ?_
          refine jm_aload (pc := 85) dR_canDoRow_85 rfl ?_
          refine jm_astore_n (pc := 87) dR_canDoRow_87 (by decide) ?_
          refine jm_iinc (pc := 88) dR_canDoRow_88 rfl (by decide) ?_
          refine jm_goto (pc := 91) (tgt := 36) dR_canDoRow_91 (by decide) ?_
          obtain ⟨g1, g2, g3, g4, g5, g6⟩ := hw
          refine MS.mono (ih (od ++ [(p, S')]) _ (t + (scanF (tryF E f) S' (lf sc (eK E i))).2) B _ _ _ (by omega) (hT.mv g2.1) g1 (by rw [g5]; exact z2.2.1) z2.1 (by rw [List.map_append, List.getLast?_append]; rfl) (by rw [hx3, ni1, List.length_append]; rfl)) (fun v s9 h => ?_)
          rw [g3] at h
          exact wQ_step z1 (scanF_mem z1).1 ⟨z2.1, by rw [g5]; exact z2.2.1, by rw [g5]; exact z2.2.2⟩ g2 (by rw [g6]; exact (z6 13).2.2 (by decide)) h
      · subst h53
        refine jm_aload_n (pc := 56) dR_canDoRow_56 rfl ?_
        refine jm_aload_n (pc := 57) dR_canDoRow_57 rfl ?_
        refine jm_callS (pc := 58) (c_R_stuckOfLeftmost (d := d - 1) (hT.mv hse) hi) fR_stuckOfLeftmost sR_stuckOfLeftmost cR_87 dR_canDoRow_58 rfl (by omega) ⟨Nat.le_refl _, Nat.le_refl _⟩ rfl (Nat.le_of_ble_eq_true rfl) (fun v s2 hq => ?_)
        obtain ⟨rfl, x9, rfl, hx9⟩ := hq
        refine jm_puti (pc := 61) pR_canDoRow_42 dR_canDoRow_61 rfl rfl ?_
        refine jm_iconst (pc := 64) (v := 0) dR_canDoRow_64 (by decide) ?_
        refine jm_zret (pc := 65) dR_canDoRow_65 rfl (by first | exact Or.inl rfl | exact Or.inr rfl | assumption) ⟨Nat.le_refl _, Nat.le_refl _⟩ ?_
        exact wQ_none hT.tr hi (fun e => by rw [e] at hn; cases hn) hq9 hx9
set_option maxRecDepth 100000 in
set_option maxHeartbeats 4000000 in
theorem c_R_canDoRow {i f t : Nat} {S : Int64} (hC : CD l D E f (d - 1 - 1)) (hT : TC E st) (hi : i < eN E) (hs : eS E i = 0) (hdp : eD E i + 1 + f = 21) (hA : st.2.1 0 i 13 = S) (hB : st.2.1 0 i 14 = S) (htr : st.1 3 0 2 = nI (t + 1)) (ht : t + 1 ≤ 20000) (hd : 2 ≤ d) : MC l D mR_canDoRow d 0 0 [vR (some (3, 0)), vR (some (0, i))] st (cQ E i S (f + 1) t st) := by
  refine jm_start (ls0 := [some (vR (some (3, 0))), some (vR (some (0, i))), none, none, none]) (by decide) (Nat.le_of_ble_eq_true rfl) rfl ?_
  refine jm_aload_n (pc := 0) dR_canDoRow_0 rfl ?_
  refine jm_getr (pc := 1) lR_64 dR_canDoRow_1 rfl rfl ?_
  rw [(hT.2.2.2 i hi).2.2.2.1]
  refine jm_astore_n (pc := 4) dR_canDoRow_4 (by decide) ?_
  refine la_R_canDoRow hi (eK E i) 0 st rfl hT (fun s1 hR => ?_)
  refine jm_aload_n (pc := 27) dR_canDoRow_27 rfl ?_
  refine jm_null (pc := 28) dR_canDoRow_28 ?_
  first | refine jm_putr (pc := 29) none rfl pR_canDoRow_77 dR_canDoRow_29 rfl rfl (fun w => by cases w <;> exact ⟨rfl, rfl⟩) ?_ | refine jm_putr (pc := 29) (some _) rfl pR_canDoRow_77 dR_canDoRow_29 rfl rfl (fun w => by cases w <;> exact ⟨rfl, rfl⟩) ?_ | refine jm_putr (pc := 29) _ rfl pR_canDoRow_77 dR_canDoRow_29 rfl rfl (fun w => by cases w <;> exact ⟨rfl, rfl⟩) ?_
  refine jm_null (pc := 32) dR_canDoRow_32 ?_
  refine jm_astore_n (pc := 33) dR_canDoRow_33 (by decide) ?_
  refine jm_iconst (pc := 34) (v := 0) dR_canDoRow_34 (by decide) ?_
  refine jm_istore_n (pc := 35) dR_canDoRow_35 (by decide) ?_
  obtain ⟨r1, r2, r3, r4, r5, r6, r7⟩ := hR
  have tf : TF E i st (sR s1 0 i 18 none) := r1.tr (TF.pR subP_self (Or.inl rfl))
  have hl : lf (sR s1 0 i 18 none) (eK E i) = eK E i := by
    unfold lf
    exact List.filter_eq_self.mpr (fun q hq => decide_eq_true (show s1.1 0 q 17 = 0 from (r2 q hq).1))
  have hW : WI E i f [] S (sR s1 0 i 18 none) := ⟨fun _ h => (by cases h), List.nodup_nil, ⟨sR_eq, fun k p hk => (by simp at hk)⟩, fun q hq _ => (sR_ne (by omega)).trans (r2 q hq).2, fun _ h => (by cases h), (by rw [hl]; simp), by show s1.2.1 0 i 14 = S; rw [r6]; exact hB⟩
  refine MS.mono (lb_R_canDoRow hC hi hdp hd _ [] _ (t + 1) S _ _ _ rfl (hT.mv tf.1) hW ((r5 2).trans htr) ht rfl rfl) (fun v s9 h => ?_)
  rw [hl] at h
  exact wQ_cQ hs tf (by show s1.2.1 0 i 13 = S; rw [r6]; exact hA) (r5 3) h
end CRow
