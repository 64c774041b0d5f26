section CTest
variable {l : Launch} {D : mD} {d : Nat} {st : aS} {E : EE}
set_option maxRecDepth 100000 in
set_option maxHeartbeats 4000000 in
theorem lp_N_kthPart {i m : Nat} {L : List Nat} (hnx : ∀ k p, L[k]? = some p → st.2.2.1 0 p 10 = L[k + 1]?) (hm : m < 2 ^ 31) : ∀ (n : Nat) (j : Nat) (x3 : Int32) (x2 : Option (Nat × Nat)), x3 = nI j → j ≤ m → m - j < n → x2 = (L[j]?).map (Prod.mk 0) → MS l D mN_kthPart d 0 0 (fun v s' => st = s' ∧ v = some (vR ((L[m]?).map (Prod.mk 0)))) 0 0 7 [some (vR (some (0, i))), some (vI (nI m)), some (vR x2), some (vI x3)] [] st := by
  intro n
  induction n with
  | zero =>
    intro j x3 x2 hx3 hj hn hx2
    omega
  | succ n ih =>
    intro j x3 x2 hx3 hj hn hx2
    refine jm_iload_n (pc := 7) dN_kthPart_7 rfl ?_
    refine jm_iload_n (pc := 8) dN_kthPart_8 rfl ?_
    refine jm_icmp_ge (pc := 9) (tgt := 27) dN_kthPart_9 (by decide) (fun h9 => ?_) (fun h9 => ?_)
    · refine jm_aload_n (pc := 27) dN_kthPart_27 rfl ?_
      refine jm_aret (pc := 28) dN_kthPart_28 rfl ⟨Nat.le_refl _, Nat.le_refl _⟩ ?_
      first
        | (have e : j = m := by
             rcases Nat.lt_or_ge j m with q | q
             · exact absurd (by rw [hx3] at h9; exact h9) (nI_ge q hm)
             · omega
           rw [← e]
           exact ⟨rfl, by rw [hx2]⟩)
        | (have e : L[j]? = none := by
             cases hL : L[j]? with
             | none => rfl
             | some p => rw [hL] at hx2; rw [hx2] at h13; cases h13
           have e2 : L[m]? = none := by
             rw [List.getElem?_eq_none_iff] at e ⊢
             omega
           exact ⟨rfl, by rw [e2, h13]; rfl⟩)
    · refine jm_aload_n (pc := 12) dN_kthPart_12 rfl ?_
      refine jm_ifnull (pc := 13) (tgt := 27) dN_kthPart_13 (by decide) (fun h13 => ?_) (fun q13 h13 => ?_)
      · refine jm_aload_n (pc := 27) dN_kthPart_27 rfl ?_
        refine jm_aret (pc := 28) dN_kthPart_28 rfl ⟨Nat.le_refl _, Nat.le_refl _⟩ ?_
        first
          | (have e : j = m := by
               rcases Nat.lt_or_ge j m with q | q
               · exact absurd (by rw [hx3] at h9; exact h9) (nI_ge q hm)
               · omega
             rw [← e]
             exact ⟨rfl, by rw [hx2]⟩)
          | (have e : L[j]? = none := by
               cases hL : L[j]? with
               | none => rfl
               | some p => rw [hL] at hx2; rw [hx2] at h13; cases h13
             have e2 : L[m]? = none := by
               rw [List.getElem?_eq_none_iff] at e ⊢
               omega
             exact ⟨rfl, by rw [e2, h13]; rfl⟩)
      · have hjm : j < m := Nat.lt_of_not_le fun q => h9 (by rw [hx3]; exact nI_le q (by omega))
        obtain ⟨p, hp, rfl⟩ : ∃ p, L[j]? = some p ∧ (0, p) = q13 := by
          cases hL : L[j]? with
          | none => rw [hL] at hx2; rw [hx2] at h13; cases h13
          | some p => rw [hL] at hx2; rw [hx2] at h13; exact ⟨p, rfl, Option.some.inj h13⟩
        subst h13
        refine jm_aload_n (pc := 16) dN_kthPart_16 rfl ?_
        refine jm_getr (pc := 17) lN_44 dN_kthPart_17 rfl rfl ?_
        refine jm_astore_n (pc := 20) dN_kthPart_20 (by decide) ?_
        refine jm_iinc (pc := 21) dN_kthPart_21 rfl (by decide) ?_
        refine jm_goto (pc := 24) (tgt := 7) dN_kthPart_24 (by decide) ?_
        exact ih (j + 1) _ _ (by rw [hx3]; exact ni1 j) hjm (by omega) (by rw [hnx j p hp])
set_option maxRecDepth 100000 in
set_option maxHeartbeats 4000000 in
theorem c_N_kthPart {i m : Nat} {L : List Nat} (hf : st.2.2.1 0 i 8 = L.head?) (hnx : ∀ k p, L[k]? = some p → st.2.2.1 0 p 10 = L[k + 1]?) (hm : m < 2 ^ 31) : MC l D mN_kthPart d 0 0 [vR (some (0, i)), vI (nI m)] st (fun v s' => st = s' ∧ v = some (vR ((L[m]?).map (Prod.mk 0)))) := by
  refine jm_start (ls0 := [some (vR (some (0, i))), some (vI (nI m)), none, none]) (by decide) (Nat.le_of_ble_eq_true rfl) rfl ?_
  refine jm_aload_n (pc := 0) dN_kthPart_0 rfl ?_
  refine jm_getr (pc := 1) lN_38 dN_kthPart_1 rfl rfl ?_
  refine jm_astore_n (pc := 4) dN_kthPart_4 (by decide) ?_
  refine jm_iconst (pc := 5) (v := 0) dN_kthPart_5 (by decide) ?_
  refine jm_istore_n (pc := 6) dN_kthPart_6 (by decide) ?_
  exact lp_N_kthPart hnx hm (m + 1) 0 _ _ rfl (by omega) (by omega) (by rw [hf, List.head?_eq_getElem?])
set_option maxRecDepth 100000 in
set_option maxHeartbeats 4000000 in
theorem lp_N_kthDone {i m : Nat} {L : List Nat} (hnx : ∀ k p, L[k]? = some p → st.2.2.1 0 p 19 = L[k + 1]?) (hm : m < 2 ^ 31) : ∀ (n : Nat) (j : Nat) (x3 : Int32) (x2 : Option (Nat × Nat)), x3 = nI j → j ≤ m → m - j < n → x2 = (L[j]?).map (Prod.mk 0) → MS l D mN_kthDone d 0 0 (fun v s' => st = s' ∧ v = some (vR ((L[m]?).map (Prod.mk 0)))) 0 0 7 [some (vR (some (0, i))), some (vI (nI m)), some (vR x2), some (vI x3)] [] st := by
  intro n
  induction n with
  | zero =>
    intro j x3 x2 hx3 hj hn hx2
    omega
  | succ n ih =>
    intro j x3 x2 hx3 hj hn hx2
    refine jm_iload_n (pc := 7) dN_kthDone_7 rfl ?_
    refine jm_iload_n (pc := 8) dN_kthDone_8 rfl ?_
    refine jm_icmp_ge (pc := 9) (tgt := 27) dN_kthDone_9 (by decide) (fun h9 => ?_) (fun h9 => ?_)
    · refine jm_aload_n (pc := 27) dN_kthDone_27 rfl ?_
      refine jm_aret (pc := 28) dN_kthDone_28 rfl ⟨Nat.le_refl _, Nat.le_refl _⟩ ?_
      first
        | (have e : j = m := by
             rcases Nat.lt_or_ge j m with q | q
             · exact absurd (by rw [hx3] at h9; exact h9) (nI_ge q hm)
             · omega
           rw [← e]
           exact ⟨rfl, by rw [hx2]⟩)
        | (have e : L[j]? = none := by
             cases hL : L[j]? with
             | none => rfl
             | some p => rw [hL] at hx2; rw [hx2] at h13; cases h13
           have e2 : L[m]? = none := by
             rw [List.getElem?_eq_none_iff] at e ⊢
             omega
           exact ⟨rfl, by rw [e2, h13]; rfl⟩)
    · refine jm_aload_n (pc := 12) dN_kthDone_12 rfl ?_
      refine jm_ifnull (pc := 13) (tgt := 27) dN_kthDone_13 (by decide) (fun h13 => ?_) (fun q13 h13 => ?_)
      · refine jm_aload_n (pc := 27) dN_kthDone_27 rfl ?_
        refine jm_aret (pc := 28) dN_kthDone_28 rfl ⟨Nat.le_refl _, Nat.le_refl _⟩ ?_
        first
          | (have e : j = m := by
               rcases Nat.lt_or_ge j m with q | q
               · exact absurd (by rw [hx3] at h9; exact h9) (nI_ge q hm)
               · omega
             rw [← e]
             exact ⟨rfl, by rw [hx2]⟩)
          | (have e : L[j]? = none := by
               cases hL : L[j]? with
               | none => rfl
               | some p => rw [hL] at hx2; rw [hx2] at h13; cases h13
             have e2 : L[m]? = none := by
               rw [List.getElem?_eq_none_iff] at e ⊢
               omega
             exact ⟨rfl, by rw [e2, h13]; rfl⟩)
      · have hjm : j < m := Nat.lt_of_not_le fun q => h9 (by rw [hx3]; exact nI_le q (by omega))
        obtain ⟨p, hp, rfl⟩ : ∃ p, L[j]? = some p ∧ (0, p) = q13 := by
          cases hL : L[j]? with
          | none => rw [hL] at hx2; rw [hx2] at h13; cases h13
          | some p => rw [hL] at hx2; rw [hx2] at h13; exact ⟨p, rfl, Option.some.inj h13⟩
        subst h13
        refine jm_aload_n (pc := 16) dN_kthDone_16 rfl ?_
        refine jm_getr (pc := 17) lN_61 dN_kthDone_17 rfl rfl ?_
        refine jm_astore_n (pc := 20) dN_kthDone_20 (by decide) ?_
        refine jm_iinc (pc := 21) dN_kthDone_21 rfl (by decide) ?_
        refine jm_goto (pc := 24) (tgt := 7) dN_kthDone_24 (by decide) ?_
        exact ih (j + 1) _ _ (by rw [hx3]; exact ni1 j) hjm (by omega) (by rw [hnx j p hp])
set_option maxRecDepth 100000 in
set_option maxHeartbeats 4000000 in
theorem c_N_kthDone {i m : Nat} {L : List Nat} (hf : st.2.2.1 0 i 18 = L.head?) (hnx : ∀ k p, L[k]? = some p → st.2.2.1 0 p 19 = L[k + 1]?) (hm : m < 2 ^ 31) : MC l D mN_kthDone d 0 0 [vR (some (0, i)), vI (nI m)] st (fun v s' => st = s' ∧ v = some (vR ((L[m]?).map (Prod.mk 0)))) := by
  refine jm_start (ls0 := [some (vR (some (0, i))), some (vI (nI m)), none, none]) (by decide) (Nat.le_of_ble_eq_true rfl) rfl ?_
  refine jm_aload_n (pc := 0) dN_kthDone_0 rfl ?_
  refine jm_getr (pc := 1) lN_58 dN_kthDone_1 rfl rfl ?_
  refine jm_astore_n (pc := 4) dN_kthDone_4 (by decide) ?_
  refine jm_iconst (pc := 5) (v := 0) dN_kthDone_5 (by decide) ?_
  refine jm_istore_n (pc := 6) dN_kthDone_6 (by decide) ?_
  exact lp_N_kthDone hnx hm (m + 1) 0 _ _ rfl (by omega) (by omega) (by rw [hf, List.head?_eq_getElem?])
set_option maxRecDepth 100000 in
set_option maxHeartbeats 4000000 in
theorem c_R_canDoTest {i f t : Nat} {S : Int64} (hC : CD l D E f (d - 1 - 1)) (hT : TC E st) (hi : i < eN E) (hs : eS E i = 3) (hdp : eD E i + 1 + f = 21) (hA : st.2.1 0 i 13 = S) (hB : st.2.1 0 i 14 = S) (h16 : st.1 0 i 16 = nI i) (htr : st.1 3 0 2 = nI (t + 1)) (ht : t + 1 ≤ 20000) (hd : 2 ≤ d) : MC l D mR_canDoTest d 0 0 [vR (some (3, 0)), vR (some (0, i))] st (cQ E i S (f + 1) t st) := by
  refine jm_start (ls0 := [some (vR (some (3, 0))), some (vR (some (0, i))), none, none, none]) (by decide) (Nat.le_of_ble_eq_true rfl) rfl ?_
  refine jm_aload_n (pc := 0) dR_canDoTest_0 rfl ?_
  refine jm_iconst (pc := 1) (v := 0) dR_canDoTest_1 (by decide) ?_
  refine jm_callV (pc := 2) (c_N_kthPart (d := d - 1) (m := 0) (hT.2.2.2 i hi).2.2.2.1 (hT.2.2.2 i hi).2.2.2.2.1 (by decide)) fN_kthPart vN_kthPart cR_108 dR_canDoTest_2 rfl rfl rfl rfl (by omega) ⟨Nat.le_refl _, Nat.le_refl _⟩ rfl (Nat.le_of_ble_eq_true rfl) (fun v s2 hq => ?_)
  obtain ⟨rfl, rfl⟩ := hq
  refine jm_astore_n (pc := 5) dR_canDoTest_5 (by decide) ?_
  refine jm_aload_n (pc := 6) dR_canDoTest_6 rfl ?_
  refine jm_iconst (pc := 7) (v := 1) dR_canDoTest_7 (by decide) ?_
  refine jm_callV (pc := 8) (c_N_kthPart (d := d - 1) (m := 1) (hT.2.2.2 i hi).2.2.2.1 (hT.2.2.2 i hi).2.2.2.2.1 (by decide)) fN_kthPart vN_kthPart cR_108 dR_canDoTest_8 rfl rfl rfl rfl (by omega) ⟨Nat.le_refl _, Nat.le_refl _⟩ rfl (Nat.le_of_ble_eq_true rfl) (fun v s2 hq => ?_)
  obtain ⟨rfl, rfl⟩ := hq
  refine jm_astore_n (pc := 11) dR_canDoTest_11 (by decide) ?_
  refine jm_aload_n (pc := 12) dR_canDoTest_12 rfl ?_
  refine jm_iconst (pc := 13) (v := 2) dR_canDoTest_13 (by decide) ?_
  refine jm_callV (pc := 14) (c_N_kthPart (d := d - 1) (m := 2) (hT.2.2.2 i hi).2.2.2.1 (hT.2.2.2 i hi).2.2.2.2.1 (by decide)) fN_kthPart vN_kthPart cR_108 dR_canDoTest_14 rfl rfl rfl rfl (by omega) ⟨Nat.le_refl _, Nat.le_refl _⟩ rfl (Nat.le_of_ble_eq_true rfl) (fun v s2 hq => ?_)
  obtain ⟨rfl, rfl⟩ := hq
  refine jm_astore (pc := 17) dR_canDoTest_17 (by decide) ?_
  refine jm_aload_n (pc := 19) dR_canDoTest_19 rfl ?_
  refine jm_ifnull (pc := 20) (tgt := 32) dR_canDoTest_20 (by decide) (fun h20 => ?_) (fun q20 h20 => ?_)
  · refine jm_iconst (pc := 32) (v := 0) dR_canDoTest_32 (by decide) ?_
    refine jm_zret (pc := 33) dR_canDoTest_33 rfl (by first | exact Or.inl rfl | exact Or.inr rfl | assumption) ⟨Nat.le_refl _, Nat.le_refl _⟩ ?_
    have hns : ∀ a b c r, eK E i ≠ a :: b :: c :: r := by
      intro a b c r hk
      rw [hk] at h20
      cases h20
    rcases hK : eK E i with _ | ⟨a, _ | ⟨b, _ | ⟨c, r⟩⟩⟩
    · refine bQ_cQ (r := (.inr i, 0)) (L := []) ?_ ?_ (by omega) (by omega) ?_
      · conv => lhs; unfold tryF
        rw [if_neg (by omega), if_neg (by omega), if_neg (by omega), if_pos hs, hK]
        try rfl
      · conv => lhs; unfold finF
        rw [if_neg (by omega), if_neg (by omega), if_neg (by omega), if_pos hs, hK]
        try rfl
      exact ⟨TF.rf, Or.inl ⟨⟨ht, htr, rfl⟩, rfl, h16⟩⟩
    · refine bQ_cQ (r := (.inr i, 0)) (L := []) ?_ ?_ (by omega) (by omega) ?_
      · conv => lhs; unfold tryF
        rw [if_neg (by omega), if_neg (by omega), if_neg (by omega), if_pos hs, hK]
        try rfl
      · conv => lhs; unfold finF
        rw [if_neg (by omega), if_neg (by omega), if_neg (by omega), if_pos hs, hK]
        try rfl
      exact ⟨TF.rf, Or.inl ⟨⟨ht, htr, rfl⟩, rfl, h16⟩⟩
    · refine bQ_cQ (r := (.inr i, 0)) (L := []) ?_ ?_ (by omega) (by omega) ?_
      · conv => lhs; unfold tryF
        rw [if_neg (by omega), if_neg (by omega), if_neg (by omega), if_pos hs, hK]
        try rfl
      · conv => lhs; unfold finF
        rw [if_neg (by omega), if_neg (by omega), if_neg (by omega), if_pos hs, hK]
        try rfl
      exact ⟨TF.rf, Or.inl ⟨⟨ht, htr, rfl⟩, rfl, h16⟩⟩
    · exact absurd hK (hns a b c r)
  · refine jm_aload_n (pc := 23) dR_canDoTest_23 rfl ?_
    refine jm_ifnull (pc := 24) (tgt := 32) dR_canDoTest_24 (by decide) (fun h24 => ?_) (fun q24 h24 => ?_)
    · refine jm_iconst (pc := 32) (v := 0) dR_canDoTest_32 (by decide) ?_
      refine jm_zret (pc := 33) dR_canDoTest_33 rfl (by first | exact Or.inl rfl | exact Or.inr rfl | assumption) ⟨Nat.le_refl _, Nat.le_refl _⟩ ?_
      have hns : ∀ a b c r, eK E i ≠ a :: b :: c :: r := by
        intro a b c r hk
        rw [hk] at h24
        cases h24
      rcases hK : eK E i with _ | ⟨a, _ | ⟨b, _ | ⟨c, r⟩⟩⟩
      · refine bQ_cQ (r := (.inr i, 0)) (L := []) ?_ ?_ (by omega) (by omega) ?_
        · conv => lhs; unfold tryF
          rw [if_neg (by omega), if_neg (by omega), if_neg (by omega), if_pos hs, hK]
          try rfl
        · conv => lhs; unfold finF
          rw [if_neg (by omega), if_neg (by omega), if_neg (by omega), if_pos hs, hK]
          try rfl
        exact ⟨TF.rf, Or.inl ⟨⟨ht, htr, rfl⟩, rfl, h16⟩⟩
      · refine bQ_cQ (r := (.inr i, 0)) (L := []) ?_ ?_ (by omega) (by omega) ?_
        · conv => lhs; unfold tryF
          rw [if_neg (by omega), if_neg (by omega), if_neg (by omega), if_pos hs, hK]
          try rfl
        · conv => lhs; unfold finF
          rw [if_neg (by omega), if_neg (by omega), if_neg (by omega), if_pos hs, hK]
          try rfl
        exact ⟨TF.rf, Or.inl ⟨⟨ht, htr, rfl⟩, rfl, h16⟩⟩
      · refine bQ_cQ (r := (.inr i, 0)) (L := []) ?_ ?_ (by omega) (by omega) ?_
        · conv => lhs; unfold tryF
          rw [if_neg (by omega), if_neg (by omega), if_neg (by omega), if_pos hs, hK]
          try rfl
        · conv => lhs; unfold finF
          rw [if_neg (by omega), if_neg (by omega), if_neg (by omega), if_pos hs, hK]
          try rfl
        exact ⟨TF.rf, Or.inl ⟨⟨ht, htr, rfl⟩, rfl, h16⟩⟩
      · exact absurd hK (hns a b c r)
    · refine jm_aload (pc := 27) dR_canDoTest_27 rfl ?_
      refine jm_ifnonnull (pc := 29) (tgt := 34) dR_canDoTest_29 (by decide) (fun q29 h29 => ?_) (fun h29 => ?_)
      · obtain ⟨a, b, c, r, hk⟩ : ∃ a b c r, eK E i = a :: b :: c :: r := by
          rcases hK : eK E i with _ | ⟨a, _ | ⟨b, _ | ⟨c, r⟩⟩⟩
          · rw [hK] at h20; cases h20
          · rw [hK] at h24; cases h24
          · rw [hK] at h29; cases h29
          · exact ⟨a, b, c, r, rfl⟩
        have hka : a ∈ eK E i := by rw [hk]; simp
        have hkb : b ∈ eK E i := by rw [hk]; simp
        have hkc : c ∈ eK E i := by rw [hk]; simp
        have hnd := (hT.tr.2.2 i hi).2.2.1
        rw [hk] at hnd
        have hab' : a ≠ b := fun e => by subst e; simp at hnd
        have hac' : a ≠ c := fun e => by subst e; simp at hnd
        have hbc' : b ≠ c := fun e => by subst e; simp at hnd
        rw [show (eK E i)[0]? = some a by rw [hk]; rfl, show (eK E i)[1]? = some b by rw [hk]; rfl, show (eK E i)[2]? = some c by rw [hk]; rfl]
        refine jm_aload_n (pc := 34) dR_canDoTest_34 rfl ?_
        refine jm_aload_n (pc := 35) dR_canDoTest_35 rfl ?_
        refine jm_aload_n (pc := 36) dR_canDoTest_36 rfl ?_
        refine jm_aload_n (pc := 37) dR_canDoTest_37 rfl ?_
        refine jm_getl (pc := 38) lR_31 dR_canDoTest_38 rfl (fun _ => rfl) ?_
        rw [hA]
        refine jm_callV (pc := 41) (c_R_canDoPart (d := d - 1) hC hT hi hka hdp htr ht (by omega)) fR_canDoPart vR_canDoPart cR_93 dR_canDoTest_41 rfl rfl rfl rfl (by omega) ⟨Nat.le_refl _, Nat.le_refl _⟩ rfl (Nat.le_of_ble_eq_true rfl) (fun v s2 hq => ?_)
        obtain ⟨b1, rfl, hb1⟩ := pQ_v hq
        have hqa := hq
        refine jm_if_ne (pc := 44) (tgt := 49) dR_canDoTest_44 (by decide) (fun h44 => ?_) (fun h44 => ?_)
        · obtain ⟨A, ea, hna, tfa, ga1, ga2, ga3⟩ := pQ_1 hqa h44
          have haa := tfa.at hT.tr hi hka
          have hTa := hT.mv tfa.1
          refine jm_aload_n (pc := 49) dR_canDoTest_49 rfl ?_
          refine jm_callS (pc := 50) (c_R_madeBy (d := d - 1)) fR_madeBy sR_madeBy cR_101 dR_canDoTest_50 rfl (by omega) ⟨Nat.le_refl _, Nat.le_refl _⟩ rfl (Nat.le_of_ble_eq_true rfl) (fun v s2 hq => ?_)
          obtain ⟨rfl, rfl⟩ := hq
          rw [ga1, ga2]
          refine jm_aload_n (pc := 53) dR_canDoTest_53 rfl ?_
          refine jm_aload_n (pc := 54) dR_canDoTest_54 rfl ?_
          refine jm_callV (pc := 55) (c_R_outerOf (d := d - 1)) fR_outerOf vR_outerOf cR_105 dR_canDoTest_55 rfl rfl rfl rfl (by omega) ⟨Nat.le_refl _, Nat.le_refl _⟩ rfl (Nat.le_of_ble_eq_true rfl) (fun v s2 hq => ?_)
          obtain ⟨rfl, rfl⟩ := hq
          rw [(hTa.2.2.2 i hi).2.2.2.2.2.2.1]
          refine jm_aload (pc := 58) dR_canDoTest_58 rfl ?_
          refine jm_getl (pc := 60) lR_112 dR_canDoTest_60 rfl (fun _ => rfl) ?_
          rw [(hTa.2.2.2 c (hT.tr.kid hi hkc).1).2.2.2.2.2.1]
          refine jm_lor (pc := 63) dR_canDoTest_63 ?_
          refine jm_land (pc := 64) dR_canDoTest_64 ?_
          refine jm_lconst (pc := 65) (v := 0) dR_canDoTest_65 (by decide) ?_
          refine jm_lcmp (pc := 66) dR_canDoTest_66 ?_
          refine jm_if_eq (pc := 67) (tgt := 72) dR_canDoTest_67 (by decide) (fun h67 => ?_) (fun h67 => ?_)
          · refine jm_aload_n (pc := 72) dR_canDoTest_72 rfl ?_
            refine jm_aload_n (pc := 73) dR_canDoTest_73 rfl ?_
            refine jm_aload_n (pc := 74) dR_canDoTest_74 rfl ?_
            refine jm_aload_n (pc := 75) dR_canDoTest_75 rfl ?_
            refine jm_getl (pc := 76) lR_36 dR_canDoTest_76 rfl (fun _ => rfl) ?_
            rw [ga1]
            refine jm_callV (pc := 79) (c_R_canDoPart (d := d - 1) hC hTa hi hkb hdp hna.2.1 hna.1 (by omega)) fR_canDoPart vR_canDoPart cR_93 dR_canDoTest_79 rfl rfl rfl rfl (by omega) ⟨Nat.le_refl _, Nat.le_refl _⟩ rfl (Nat.le_of_ble_eq_true rfl) (fun v s2 hq => ?_)
            obtain ⟨b2, rfl, hb2⟩ := pQ_v hq
            have hqb := hq
            refine jm_if_eq (pc := 82) (tgt := 99) dR_canDoTest_82 (by decide) (fun h82 => ?_) (fun h82 => ?_)
            · refine jm_iconst (pc := 99) (v := 0) dR_canDoTest_99 (by decide) ?_
              refine jm_zret (pc := 100) dR_canDoTest_100 rfl (by first | exact Or.inl rfl | exact Or.inr rfl | assumption) ⟨Nat.le_refl _, Nat.le_refl _⟩ ?_
              refine bQ_cQ (r := testF (tryF E f) i S (eO E i) (eI E c) a b c) (L := (match (tryF E f a S).1 with | .inl A => finF E f a S ++ finF E f b A ++ finF E f c S | .inr _ => [])) ?_ ?_ (by omega) (by omega) ?_
              · conv => lhs; unfold tryF
                rw [if_neg (by omega), if_neg (by omega), if_neg (by omega), if_pos hs, hk]
                try rfl
              · conv => lhs; unfold finF
                rw [if_neg (by omega), if_neg (by omega), if_neg (by omega), if_pos hs, hk]
                try rfl
              rw [testF_b ea (lg0.mp h67)]
              refine bQ_step (r := tB (tryF E f) i S (eO E i) A b c) (tfa.up hT.tr hi hka) hna ?_
              first
                | exact bQ_fail (pQ_0 hqb h82) (fun k2 hk2 => by unfold tB; rw [hk2]) tB_le
                | (have eB : tB (tryF E f) i S (eO E i) A b c = ((tC (tryF E f) i S (eO E i) B c).1, (tryF E f b A).2 + (tC (tryF E f) i S (eO E i) B c).2) := by
                     conv => lhs; unfold tB
                     rw [eb]
                   rw [eB]
                   exact bQ_step (r := tC (tryF E f) i S (eO E i) B c) (tfb.up hT.tr hi hkb) hnb (bQ_fail (pQ_0 hqc h96) (fun k2 hk2 => by unfold tC; rw [hk2]) (by rw [tC_eq]; exact Nat.le_refl _)))
            · obtain ⟨B, eb, hnb, tfb, gb1, gb2, gb3⟩ := pQ_1 hqb h82
              have hab := tfb.at hT.tr hi hkb
              have hTb := hTa.mv tfb.1
              refine jm_aload_n (pc := 85) dR_canDoTest_85 rfl ?_
              refine jm_aload_n (pc := 86) dR_canDoTest_86 rfl ?_
              refine jm_aload (pc := 87) dR_canDoTest_87 rfl ?_
              refine jm_aload_n (pc := 89) dR_canDoTest_89 rfl ?_
              refine jm_getl (pc := 90) lR_31 dR_canDoTest_90 rfl (fun _ => rfl) ?_
              rw [(hab 13).2.1.trans ((haa 13).2.1.trans hA)]
              refine jm_callV (pc := 93) (c_R_canDoPart (d := d - 1) hC hTb hi hkc hdp hnb.2.1 hnb.1 (by omega)) fR_canDoPart vR_canDoPart cR_93 dR_canDoTest_93 rfl rfl rfl rfl (by omega) ⟨Nat.le_refl _, Nat.le_refl _⟩ rfl (Nat.le_of_ble_eq_true rfl) (fun v s2 hq => ?_)
              obtain ⟨b3, rfl, hb3⟩ := pQ_v hq
              have hqc := hq
              refine jm_if_ne (pc := 96) (tgt := 101) dR_canDoTest_96 (by decide) (fun h96 => ?_) (fun h96 => ?_)
              · obtain ⟨C, ec, hnc, tfc, gc1, gc2, gc3⟩ := pQ_1 hqc h96
                have hac := tfc.at hT.tr hi hkc
                have hTc := hTb.mv tfc.1
                have hB3 := (tfc.sib hT.tr hi hkc hkb (Ne.symm hbc') subP_self 14).2.1.trans gb1
                refine jm_aload_n (pc := 101) dR_canDoTest_101 rfl ?_
                refine jm_aload_n (pc := 102) dR_canDoTest_102 rfl ?_
                refine jm_aload_n (pc := 103) dR_canDoTest_103 rfl ?_
                refine jm_getl (pc := 104) lR_36 dR_canDoTest_104 rfl (fun _ => rfl) ?_
                refine jm_aload (pc := 107) dR_canDoTest_107 rfl ?_
                refine jm_getl (pc := 109) lR_36 dR_canDoTest_109 rfl (fun _ => rfl) ?_
                rw [hB3, gc1]
                refine jm_land (pc := 112) dR_canDoTest_112 ?_
                refine jm_aload_n (pc := 113) dR_canDoTest_113 rfl ?_
                refine jm_getl (pc := 114) lR_36 dR_canDoTest_114 rfl (fun _ => rfl) ?_
                refine jm_aload (pc := 117) dR_canDoTest_117 rfl ?_
                refine jm_getl (pc := 119) lR_36 dR_canDoTest_119 rfl (fun _ => rfl) ?_
                rw [hB3, gc1]
                refine jm_lor (pc := 122) dR_canDoTest_122 ?_
                refine jm_callV (pc := 123) (c_R_canJoin (d := d - 1) ((hac 13).2.1.trans ((hab 13).2.1.trans ((haa 13).2.1.trans hA))) (hTc.2.2.2 i hi).2.2.2.2.2.2.1 (by omega)) fR_canJoin vR_canJoin cR_97 dR_canDoTest_123 rfl rfl rfl rfl (by omega) ⟨Nat.le_refl _, Nat.le_refl _⟩ rfl (Nat.le_of_ble_eq_true rfl) (fun v s2 hq => ?_)
                obtain ⟨b4, rfl, hb4⟩ := jQ_v hq
                refine jm_zret (pc := 126) dR_canDoTest_126 rfl (hb4) ⟨Nat.le_refl _, Nat.le_refl _⟩ ?_
                refine bQ_cQ (r := testF (tryF E f) i S (eO E i) (eI E c) a b c) (L := (match (tryF E f a S).1 with | .inl A => finF E f a S ++ finF E f b A ++ finF E f c S | .inr _ => [])) ?_ ?_ (by omega) (by omega) ?_
                · conv => lhs; unfold tryF
                  rw [if_neg (by omega), if_neg (by omega), if_neg (by omega), if_pos hs, hk]
                  try rfl
                · conv => lhs; unfold finF
                  rw [if_neg (by omega), if_neg (by omega), if_neg (by omega), if_pos hs, hk]
                  try rfl
                rw [testF_b ea (lg0.mp h67), ea]
                have eB : tB (tryF E f) i S (eO E i) A b c = ((tC (tryF E f) i S (eO E i) B c).1, (tryF E f b A).2 + (tC (tryF E f) i S (eO E i) B c).2) := by
                  conv => lhs; unfold tB
                  rw [eb]
                have eC : tC (tryF E f) i S (eO E i) B c = (joinF i S (eO E i) (B &&& C) (B ||| C), (tryF E f c S).2 + 0) := by
                  unfold tC
                  rw [ec]
                  rfl
                refine bQ_step (r := tB (tryF E f) i S (eO E i) A b c) (tfa.up hT.tr hi hka) hna ?_
                rw [eB]
                refine bQ_step (r := tC (tryF E f) i S (eO E i) B c) (tfb.up hT.tr hi hkb) hnb ?_
                rw [eC]
                refine bQ_step (r := (joinF i S (eO E i) (B &&& C) (B ||| C), 0)) (tfc.up hT.tr hi hkc) hnc ?_
                refine bQ_join hT.tr hi (fun q hq2 => ?_) ?_ hnc.2.1 hnc.1 ((hac 13).2.1.trans ((hab 13).2.1.trans ((haa 13).2.1.trans hA))) ((hac 16).1.trans ((hab 16).1.trans ((haa 16).1.trans h16))) hq
                · rcases List.mem_append.mp hq2 with h | h
                  · rcases List.mem_append.mp h with h | h
                    · exact finF_ne hT.tr hi hka q h
                    · exact finF_ne hT.tr hi hkb q h
                  · exact finF_ne hT.tr hi hkc q h
                · refine gd.app (gd.app ?_ ?_) gc3
                  · exact gd.sib hT.tr hi hkc hka (Ne.symm hac') tfc (gd.sib hT.tr hi hkb hka (Ne.symm hab') tfb ga3)
                  · exact gd.sib hT.tr hi hkc hkb (Ne.symm hbc') tfc gb3
              · refine jm_iconst (pc := 99) (v := 0) dR_canDoTest_99 (by decide) ?_
                refine jm_zret (pc := 100) dR_canDoTest_100 rfl (by first | exact Or.inl rfl | exact Or.inr rfl | assumption) ⟨Nat.le_refl _, Nat.le_refl _⟩ ?_
                refine bQ_cQ (r := testF (tryF E f) i S (eO E i) (eI E c) a b c) (L := (match (tryF E f a S).1 with | .inl A => finF E f a S ++ finF E f b A ++ finF E f c S | .inr _ => [])) ?_ ?_ (by omega) (by omega) ?_
                · conv => lhs; unfold tryF
                  rw [if_neg (by omega), if_neg (by omega), if_neg (by omega), if_pos hs, hk]
                  try rfl
                · conv => lhs; unfold finF
                  rw [if_neg (by omega), if_neg (by omega), if_neg (by omega), if_pos hs, hk]
                  try rfl
                rw [testF_b ea (lg0.mp h67)]
                refine bQ_step (r := tB (tryF E f) i S (eO E i) A b c) (tfa.up hT.tr hi hka) hna ?_
                first
                  | exact bQ_fail (pQ_0 hqb h82) (fun k2 hk2 => by unfold tB; rw [hk2]) tB_le
                  | (have eB : tB (tryF E f) i S (eO E i) A b c = ((tC (tryF E f) i S (eO E i) B c).1, (tryF E f b A).2 + (tC (tryF E f) i S (eO E i) B c).2) := by
                       conv => lhs; unfold tB
                       rw [eb]
                     rw [eB]
                     exact bQ_step (r := tC (tryF E f) i S (eO E i) B c) (tfb.up hT.tr hi hkb) hnb (bQ_fail (pQ_0 hqc h96) (fun k2 hk2 => by unfold tC; rw [hk2]) (by rw [tC_eq]; exact Nat.le_refl _)))
          · refine jm_iconst (pc := 70) (v := 0) dR_canDoTest_70 (by decide) ?_
            refine jm_zret (pc := 71) dR_canDoTest_71 rfl (by first | exact Or.inl rfl | exact Or.inr rfl | assumption) ⟨Nat.le_refl _, Nat.le_refl _⟩ ?_
            refine bQ_cQ (r := testF (tryF E f) i S (eO E i) (eI E c) a b c) (L := (match (tryF E f a S).1 with | .inl A => finF E f a S ++ finF E f b A ++ finF E f c S | .inr _ => [])) ?_ ?_ (by omega) (by omega) ?_
            · conv => lhs; unfold tryF
              rw [if_neg (by omega), if_neg (by omega), if_neg (by omega), if_pos hs, hk]
              try rfl
            · conv => lhs; unfold finF
              rw [if_neg (by omega), if_neg (by omega), if_neg (by omega), if_pos hs, hk]
              try rfl
            rw [testF_m ea (fun q => h67 (lg0.mpr q))]
            exact ⟨tfa.up hT.tr hi hka, Or.inl ⟨hna, rfl, (haa 16).1.trans h16⟩⟩
        · refine jm_iconst (pc := 47) (v := 0) dR_canDoTest_47 (by decide) ?_
          refine jm_zret (pc := 48) dR_canDoTest_48 rfl (by first | exact Or.inl rfl | exact Or.inr rfl | assumption) ⟨Nat.le_refl _, Nat.le_refl _⟩ ?_
          refine bQ_cQ (r := testF (tryF E f) i S (eO E i) (eI E c) a b c) (L := (match (tryF E f a S).1 with | .inl A => finF E f a S ++ finF E f b A ++ finF E f c S | .inr _ => [])) ?_ ?_ (by omega) (by omega) ?_
          · conv => lhs; unfold tryF
            rw [if_neg (by omega), if_neg (by omega), if_neg (by omega), if_pos hs, hk]
            try rfl
          · conv => lhs; unfold finF
            rw [if_neg (by omega), if_neg (by omega), if_neg (by omega), if_pos hs, hk]
            try rfl
          exact bQ_fail (pQ_0 hqa h44) (fun k2 hk2 => testF_a hk2) testF_le
      · refine jm_iconst (pc := 32) (v := 0) dR_canDoTest_32 (by decide) ?_
        refine jm_zret (pc := 33) dR_canDoTest_33 rfl (by first | exact Or.inl rfl | exact Or.inr rfl | assumption) ⟨Nat.le_refl _, Nat.le_refl _⟩ ?_
        have hns : ∀ a b c r, eK E i ≠ a :: b :: c :: r := by
          intro a b c r hk
          rw [hk] at h29
          cases h29
        rcases hK : eK E i with _ | ⟨a, _ | ⟨b, _ | ⟨c, r⟩⟩⟩
        · refine bQ_cQ (r := (.inr i, 0)) (L := []) ?_ ?_ (by omega) (by omega) ?_
          · conv => lhs; unfold tryF
            rw [if_neg (by omega), if_neg (by omega), if_neg (by omega), if_pos hs, hK]
            try rfl
          · conv => lhs; unfold finF
            rw [if_neg (by omega), if_neg (by omega), if_neg (by omega), if_pos hs, hK]
            try rfl
          exact ⟨TF.rf, Or.inl ⟨⟨ht, htr, rfl⟩, rfl, h16⟩⟩
        · refine bQ_cQ (r := (.inr i, 0)) (L := []) ?_ ?_ (by omega) (by omega) ?_
          · conv => lhs; unfold tryF
            rw [if_neg (by omega), if_neg (by omega), if_neg (by omega), if_pos hs, hK]
            try rfl
          · conv => lhs; unfold finF
            rw [if_neg (by omega), if_neg (by omega), if_neg (by omega), if_pos hs, hK]
            try rfl
          exact ⟨TF.rf, Or.inl ⟨⟨ht, htr, rfl⟩, rfl, h16⟩⟩
        · refine bQ_cQ (r := (.inr i, 0)) (L := []) ?_ ?_ (by omega) (by omega) ?_
          · conv => lhs; unfold tryF
            rw [if_neg (by omega), if_neg (by omega), if_neg (by omega), if_pos hs, hK]
            try rfl
          · conv => lhs; unfold finF
            rw [if_neg (by omega), if_neg (by omega), if_neg (by omega), if_pos hs, hK]
            try rfl
          exact ⟨TF.rf, Or.inl ⟨⟨ht, htr, rfl⟩, rfl, h16⟩⟩
        · exact absurd hK (hns a b c r)
end CTest
