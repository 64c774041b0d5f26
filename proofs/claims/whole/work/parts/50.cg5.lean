section CG5
variable {l : Launch} {D : mD} {d : Nat} {st : aS} {E : EE}
theorem itp {P : Prop} [Decidable P] {a b : Int32} (h : P) : (some (vI a) : Option aV) = some (vI (if P then a else b)) := by rw [if_pos h]
theorem itn {P : Prop} [Decidable P] {a b : Int32} (h : ¬ P) : (some (vI b) : Option aV) = some (vI (if P then a else b)) := by rw [if_neg h]
theorem q3 {q : Int32} (h : ¬ q < 3) : ∃ t, t + 3 < 2 ^ 31 ∧ q = nI (t + 3) ∧ q - 3 = nI t := by
  have h0 : ¬ q < 0 := fun z => h (Int32.lt_trans z (by decide))
  obtain ⟨j, hj, rfl⟩ := nI_of h0
  have h3 : 3 ≤ j := Nat.le_of_not_lt fun z => h (nI_lt (b := 3) z (by decide))
  obtain ⟨t, rfl⟩ : ∃ t, j = t + 3 := ⟨j - 3, by omega⟩
  refine ⟨t, hj, rfl, ?_⟩
  rw [show nI (t + 3) = nI t + 3 from (nI_add t 3).symm, Int32.add_sub_cancel]
abbrev ndV (od : Int32) (S len W : Nat) (way : Int32) (V : Nat → Nat) (q : Int32) : Int32 := if q = -1 then (if ¬ od = 0 ∧ 3 < S then way else -1) else if q = 0 then nI S else if q = 1 then nI len else if q = 2 then nI W else if ¬ q < 3 ∧ ¬ nI W ≤ q - 3 then nI (V (q - 3).toNatClampNeg) else -1
set_option maxRecDepth 100000 in
set_option maxHeartbeats 4000000 in
theorem c_G_part_n {x k : Int32} (hF : CF st) (hA : CA E st) (hc : st.1 2 0 2 = nI (eN E)) (hx : ¬ isN (eN E) x) (hd : 1 ≤ d) : MC l D mG_part d 0 0 [vR (some (4, 0)), vI x, vI k] st (fun v s' => v = some (vI (-1)) ∧ st = s') := by
  refine jm_start (ls0 := [some (vR (some (4, 0))), some (vI x), some (vI k), none, none]) (by decide) (Nat.le_of_ble_eq_true rfl) rfl ?_
  obtain ⟨k0_, k1_, k2_, k3_, k4_, k5_, k6_⟩ := hF
  refine jm_aload_n (pc := 0) dG_part_0 rfl ?_
  refine jm_getq (pc := 1) lG_19 dG_part_1 rfl rfl (k1_) ?_
  refine jm_iload_n (pc := 4) dG_part_4 rfl ?_
  refine jm_callV (pc := 5) (c_T_find_n (d := d - 1) (n := eN E) hc hx) fT_find vT_find cG_72 dG_part_5 rfl rfl rfl rfl (by omega) ⟨Nat.le_refl _, Nat.le_refl _⟩ rfl (Nat.le_of_ble_eq_true rfl) (fun v s2 hq => ?_)
  obtain ⟨rfl, rfl⟩ := hq
  refine jm_astore_n (pc := 8) dG_part_8 (by decide) ?_
  refine jm_aload_n (pc := 9) dG_part_9 rfl ?_
  refine jm_geti (pc := 10) lG_47 dG_part_10 rfl (fun _ => rfl) ?_
  refine jm_if_eq (pc := 13) (tgt := 32) dG_part_13 (by decide) (fun h13 => ?_) (fun h13 => ?_)
  · refine jm_iconst (pc := 32) (v := -1) dG_part_32 (by decide) ?_
    refine jm_iret (pc := 33) dG_part_33 rfl ⟨Nat.le_refl _, Nat.le_refl _⟩ ?_
    exact ⟨rfl, rfl⟩
  · refine jm_aload_n (pc := 16) dG_part_16 rfl ?_
    refine jm_ifnull (pc := 17) (tgt := 32) dG_part_17 (by decide) (fun h17 => ?_) (fun q17 h17 => ?_)
    · refine jm_iconst (pc := 32) (v := -1) dG_part_32 (by decide) ?_
      refine jm_iret (pc := 33) dG_part_33 rfl ⟨Nat.le_refl _, Nat.le_refl _⟩ ?_
      exact ⟨rfl, rfl⟩
    · cases h17
set_option maxRecDepth 100000 in
set_option maxHeartbeats 4000000 in
theorem c_G_part_f {i len : Nat} {od k : Int32} (hF : CF st) (hA : CA E st) (hc : st.1 2 0 2 = nI (eN E)) (hi : i < eN E) (ho : st.1 4 0 7 = od) (hL : st.1 0 i 6 = nI len) (hx : ¬ (¬ od = 0 ∧ isN len k)) (hd : 1 ≤ d) : MC l D mG_part d 0 0 [vR (some (4, 0)), vI (nI i), vI k] st (fun v s' => v = some (vI (-1)) ∧ st = s') := by
  refine jm_start (ls0 := [some (vR (some (4, 0))), some (vI (nI i)), some (vI k), none, none]) (by decide) (Nat.le_of_ble_eq_true rfl) rfl ?_
  obtain ⟨k0_, k1_, k2_, k3_, k4_, k5_, k6_⟩ := hF
  refine jm_aload_n (pc := 0) dG_part_0 rfl ?_
  refine jm_getq (pc := 1) lG_19 dG_part_1 rfl rfl (k1_) ?_
  refine jm_iload_n (pc := 4) dG_part_4 rfl ?_
  refine jm_callV (pc := 5) (c_T_find (d := d - 1) (E := E) hc ⟨k0_, k1_, k2_, k3_, k4_, k5_, k6_⟩ hA hi) fT_find vT_find cG_72 dG_part_5 rfl rfl rfl rfl (by omega) ⟨Nat.le_refl _, Nat.le_refl _⟩ rfl (Nat.le_of_ble_eq_true rfl) (fun v s2 hq => ?_)
  obtain ⟨rfl, rfl⟩ := hq
  refine jm_astore_n (pc := 8) dG_part_8 (by decide) ?_
  refine jm_aload_n (pc := 9) dG_part_9 rfl ?_
  refine jm_geti (pc := 10) lG_47 dG_part_10 rfl (fun _ => rfl) ?_
  rw [ho]
  refine jm_if_eq (pc := 13) (tgt := 32) dG_part_13 (by decide) (fun h13 => ?_) (fun h13 => ?_)
  · refine jm_iconst (pc := 32) (v := -1) dG_part_32 (by decide) ?_
    refine jm_iret (pc := 33) dG_part_33 rfl ⟨Nat.le_refl _, Nat.le_refl _⟩ ?_
    exact ⟨rfl, rfl⟩
  · refine jm_aload_n (pc := 16) dG_part_16 rfl ?_
    refine jm_ifnull (pc := 17) (tgt := 32) dG_part_17 (by decide) (fun h17 => ?_) (fun q17 h17 => ?_)
    · cases h17
    · refine jm_iload_n (pc := 20) dG_part_20 rfl ?_
      refine jm_if_lt (pc := 21) (tgt := 32) dG_part_21 (by decide) (fun h21 => ?_) (fun h21 => ?_)
      · refine jm_iconst (pc := 32) (v := -1) dG_part_32 (by decide) ?_
        refine jm_iret (pc := 33) dG_part_33 rfl ⟨Nat.le_refl _, Nat.le_refl _⟩ ?_
        exact ⟨rfl, rfl⟩
      · refine jm_iload_n (pc := 24) dG_part_24 rfl ?_
        refine jm_aload_n (pc := 25) dG_part_25 rfl ?_
        refine jm_geti (pc := 26) lG_120 dG_part_26 rfl (fun _ => rfl) ?_
        rw [hL]
        refine jm_icmp_lt (pc := 29) (tgt := 34) dG_part_29 (by decide) (fun h29 => ?_) (fun h29 => ?_)
        · exact absurd ⟨h13, h21, fun z => Int32.not_lt.mpr z h29⟩ hx
        · refine jm_iconst (pc := 32) (v := -1) dG_part_32 (by decide) ?_
          refine jm_iret (pc := 33) dG_part_33 rfl ⟨Nat.le_refl _, Nat.le_refl _⟩ ?_
          exact ⟨rfl, rfl⟩
set_option maxRecDepth 100000 in
set_option maxHeartbeats 4000000 in
theorem c_G_part_r {i len j p : Nat} {L : List Nat} (hF : CF st) (hA : CA E st) (hc : st.1 2 0 2 = nI (eN E)) (hi : i < eN E) (ho : st.1 4 0 7 = 1) (hL : st.1 0 i 6 = nI len) (hj : j < len) (hlen : len ≤ 250) (hs : st.1 0 i 3 = 0) (hf : st.2.2.1 0 i 18 = L.head?) (hnx : ∀ k p, L[k]? = some p → st.2.2.1 0 p 19 = L[k + 1]?) (hp : L[j]? = some p) (hn : st.1 0 p 0 = nI p) (hd : 1 ≤ d) : MC l D mG_part d 0 0 [vR (some (4, 0)), vI (nI i), vI (nI j)] st (fun v s' => v = some (vI (nI p)) ∧ st = s') := by
  refine jm_start (ls0 := [some (vR (some (4, 0))), some (vI (nI i)), some (vI (nI j)), none, none]) (by decide) (Nat.le_of_ble_eq_true rfl) rfl ?_
  obtain ⟨k0_, k1_, k2_, k3_, k4_, k5_, k6_⟩ := hF
  refine jm_aload_n (pc := 0) dG_part_0 rfl ?_
  refine jm_getq (pc := 1) lG_19 dG_part_1 rfl rfl (k1_) ?_
  refine jm_iload_n (pc := 4) dG_part_4 rfl ?_
  refine jm_callV (pc := 5) (c_T_find (d := d - 1) (E := E) hc ⟨k0_, k1_, k2_, k3_, k4_, k5_, k6_⟩ hA hi) fT_find vT_find cG_72 dG_part_5 rfl rfl rfl rfl (by omega) ⟨Nat.le_refl _, Nat.le_refl _⟩ rfl (Nat.le_of_ble_eq_true rfl) (fun v s2 hq => ?_)
  obtain ⟨rfl, rfl⟩ := hq
  refine jm_astore_n (pc := 8) dG_part_8 (by decide) ?_
  refine jm_aload_n (pc := 9) dG_part_9 rfl ?_
  refine jm_geti (pc := 10) lG_47 dG_part_10 rfl (fun _ => rfl) ?_
  rw [ho]
  refine jm_if_eq (pc := 13) (tgt := 32) dG_part_13 (by decide) (fun h13 => ?_) (fun h13 => ?_)
  · exact absurd h13 (by decide)
  · refine jm_aload_n (pc := 16) dG_part_16 rfl ?_
    refine jm_ifnull (pc := 17) (tgt := 32) dG_part_17 (by decide) (fun h17 => ?_) (fun q17 h17 => ?_)
    · cases h17
    · refine jm_iload_n (pc := 20) dG_part_20 rfl ?_
      refine jm_if_lt (pc := 21) (tgt := 32) dG_part_21 (by decide) (fun h21 => ?_) (fun h21 => ?_)
      · exact absurd h21 (nI_pos (by omega))
      · refine jm_iload_n (pc := 24) dG_part_24 rfl ?_
        refine jm_aload_n (pc := 25) dG_part_25 rfl ?_
        refine jm_geti (pc := 26) lG_120 dG_part_26 rfl (fun _ => rfl) ?_
        rw [hL]
        refine jm_icmp_lt (pc := 29) (tgt := 34) dG_part_29 (by decide) (fun h29 => ?_) (fun h29 => ?_)
        · refine jm_aload_n (pc := 34) dG_part_34 rfl ?_
          refine jm_geti (pc := 35) lG_123 dG_part_35 rfl (fun _ => rfl) ?_
          refine jm_if_ne (pc := 38) (tgt := 49) dG_part_38 (by decide) (fun h38 => ?_) (fun h38 => ?_)
          · exact absurd hs h38
          · refine jm_aload_n (pc := 41) dG_part_41 rfl ?_
            refine jm_iload_n (pc := 42) dG_part_42 rfl ?_
            refine jm_callV (pc := 43) (c_N_kthDone (d := d - 1) (L := L) hf hnx (by omega)) fN_kthDone vN_kthDone cG_126 dG_part_43 rfl rfl rfl rfl (by omega) ⟨Nat.le_refl _, Nat.le_refl _⟩ rfl (Nat.le_of_ble_eq_true rfl) (fun v s2 hq => ?_)
            obtain ⟨rfl, rfl⟩ := hq
            rw [hp]
            refine jm_goto (pc := 46) (tgt := 54) dG_part_46 (by decide) ?_
            refine jm_astore (pc := 54) dG_part_54 (by decide) ?_
            refine jm_aload (pc := 56) dG_part_56 rfl ?_
            refine jm_ifnonnull (pc := 58) (tgt := 65) dG_part_58 (by decide) (fun q58 h58 => ?_) (fun h58 => ?_)
            · refine jm_aload (pc := 65) dG_part_65 rfl ?_
              refine jm_geti (pc := 67) lG_132 dG_part_67 rfl (fun _ => rfl) ?_
              rw [hn]
              refine jm_iret (pc := 70) dG_part_70 rfl ⟨Nat.le_refl _, Nat.le_refl _⟩ ?_
              exact ⟨rfl, rfl⟩
            · cases h58
        · exact absurd (nI_lt hj (by omega)) h29
set_option maxRecDepth 100000 in
set_option maxHeartbeats 4000000 in
theorem c_G_part_k {i len j p : Nat} {L : List Nat} (hF : CF st) (hA : CA E st) (hc : st.1 2 0 2 = nI (eN E)) (hi : i < eN E) (ho : st.1 4 0 7 = 1) (hL : st.1 0 i 6 = nI len) (hj : j < len) (hlen : len ≤ 250) (hs : ¬ st.1 0 i 3 = 0) (hf : st.2.2.1 0 i 8 = L.head?) (hnx : ∀ k p, L[k]? = some p → st.2.2.1 0 p 10 = L[k + 1]?) (hp : L[j]? = some p) (hn : st.1 0 p 0 = nI p) (hd : 1 ≤ d) : MC l D mG_part d 0 0 [vR (some (4, 0)), vI (nI i), vI (nI j)] st (fun v s' => v = some (vI (nI p)) ∧ st = s') := by
  refine jm_start (ls0 := [some (vR (some (4, 0))), some (vI (nI i)), some (vI (nI j)), none, none]) (by decide) (Nat.le_of_ble_eq_true rfl) rfl ?_
  obtain ⟨k0_, k1_, k2_, k3_, k4_, k5_, k6_⟩ := hF
  refine jm_aload_n (pc := 0) dG_part_0 rfl ?_
  refine jm_getq (pc := 1) lG_19 dG_part_1 rfl rfl (k1_) ?_
  refine jm_iload_n (pc := 4) dG_part_4 rfl ?_
  refine jm_callV (pc := 5) (c_T_find (d := d - 1) (E := E) hc ⟨k0_, k1_, k2_, k3_, k4_, k5_, k6_⟩ hA hi) fT_find vT_find cG_72 dG_part_5 rfl rfl rfl rfl (by omega) ⟨Nat.le_refl _, Nat.le_refl _⟩ rfl (Nat.le_of_ble_eq_true rfl) (fun v s2 hq => ?_)
  obtain ⟨rfl, rfl⟩ := hq
  refine jm_astore_n (pc := 8) dG_part_8 (by decide) ?_
  refine jm_aload_n (pc := 9) dG_part_9 rfl ?_
  refine jm_geti (pc := 10) lG_47 dG_part_10 rfl (fun _ => rfl) ?_
  rw [ho]
  refine jm_if_eq (pc := 13) (tgt := 32) dG_part_13 (by decide) (fun h13 => ?_) (fun h13 => ?_)
  · exact absurd h13 (by decide)
  · refine jm_aload_n (pc := 16) dG_part_16 rfl ?_
    refine jm_ifnull (pc := 17) (tgt := 32) dG_part_17 (by decide) (fun h17 => ?_) (fun q17 h17 => ?_)
    · cases h17
    · refine jm_iload_n (pc := 20) dG_part_20 rfl ?_
      refine jm_if_lt (pc := 21) (tgt := 32) dG_part_21 (by decide) (fun h21 => ?_) (fun h21 => ?_)
      · exact absurd h21 (nI_pos (by omega))
      · refine jm_iload_n (pc := 24) dG_part_24 rfl ?_
        refine jm_aload_n (pc := 25) dG_part_25 rfl ?_
        refine jm_geti (pc := 26) lG_120 dG_part_26 rfl (fun _ => rfl) ?_
        rw [hL]
        refine jm_icmp_lt (pc := 29) (tgt := 34) dG_part_29 (by decide) (fun h29 => ?_) (fun h29 => ?_)
        · refine jm_aload_n (pc := 34) dG_part_34 rfl ?_
          refine jm_geti (pc := 35) lG_123 dG_part_35 rfl (fun _ => rfl) ?_
          refine jm_if_ne (pc := 38) (tgt := 49) dG_part_38 (by decide) (fun h38 => ?_) (fun h38 => ?_)
          · refine jm_aload_n (pc := 49) dG_part_49 rfl ?_
            refine jm_iload_n (pc := 50) dG_part_50 rfl ?_
            refine jm_callV (pc := 51) (c_N_kthPart (d := d - 1) (L := L) hf hnx (by omega)) fN_kthPart vN_kthPart cG_129 dG_part_51 rfl rfl rfl rfl (by omega) ⟨Nat.le_refl _, Nat.le_refl _⟩ rfl (Nat.le_of_ble_eq_true rfl) (fun v s2 hq => ?_)
            obtain ⟨rfl, rfl⟩ := hq
            rw [hp]
            refine jm_astore (pc := 54) dG_part_54 (by decide) ?_
            refine jm_aload (pc := 56) dG_part_56 rfl ?_
            refine jm_ifnonnull (pc := 58) (tgt := 65) dG_part_58 (by decide) (fun q58 h58 => ?_) (fun h58 => ?_)
            · refine jm_aload (pc := 65) dG_part_65 rfl ?_
              refine jm_geti (pc := 67) lG_132 dG_part_67 rfl (fun _ => rfl) ?_
              rw [hn]
              refine jm_iret (pc := 70) dG_part_70 rfl ⟨Nat.le_refl _, Nat.le_refl _⟩ ?_
              exact ⟨rfl, rfl⟩
            · cases h58
          · exact absurd h38 hs
        · exact absurd (nI_lt hj (by omega)) h29
set_option maxRecDepth 100000 in
set_option maxHeartbeats 4000000 in
theorem c_G_node_n {x q : Int32} (hF : CF st) (hA : CA E st) (hc : st.1 2 0 2 = nI (eN E)) (hx : ¬ isN (eN E) x) (hd : 1 ≤ d) : MC l D mG_node d 0 0 [vR (some (4, 0)), vI x, vI q] st (fun v s' => v = some (vI (-1)) ∧ st = s') := by
  refine jm_start (ls0 := [some (vR (some (4, 0))), some (vI x), some (vI q), none]) (by decide) (Nat.le_of_ble_eq_true rfl) rfl ?_
  obtain ⟨k0_, k1_, k2_, k3_, k4_, k5_, k6_⟩ := hF
  refine jm_aload_n (pc := 0) dG_node_0 rfl ?_
  refine jm_getq (pc := 1) lG_19 dG_node_1 rfl rfl (k1_) ?_
  refine jm_iload_n (pc := 4) dG_node_4 rfl ?_
  refine jm_callV (pc := 5) (c_T_find_n (d := d - 1) (n := eN E) hc hx) fT_find vT_find cG_72 dG_node_5 rfl rfl rfl rfl (by omega) ⟨Nat.le_refl _, Nat.le_refl _⟩ rfl (Nat.le_of_ble_eq_true rfl) (fun v s2 hq => ?_)
  obtain ⟨rfl, rfl⟩ := hq
  refine jm_astore_n (pc := 8) dG_node_8 (by decide) ?_
  refine jm_aload_n (pc := 9) dG_node_9 rfl ?_
  refine jm_ifnonnull (pc := 10) (tgt := 15) dG_node_10 (by decide) (fun q10 h10 => ?_) (fun h10 => ?_)
  · cases h10
  · refine jm_iconst (pc := 13) (v := -1) dG_node_13 (by decide) ?_
    refine jm_iret (pc := 14) dG_node_14 rfl ⟨Nat.le_refl _, Nat.le_refl _⟩ ?_
    exact ⟨rfl, rfl⟩
set_option maxRecDepth 100000 in
set_option maxHeartbeats 4000000 in
theorem c_G_node_a {i S len W : Nat} {od way : Int32} {V : Nat → Nat} (hF : CF st) (hA : CA E st) (hc : st.1 2 0 2 = nI (eN E)) (hi : i < eN E) (ho : st.1 4 0 7 = od) (hs : st.1 0 i 3 = nI S) (hs12 : S ≤ 12) (hL : st.1 0 i 6 = nI len) (hV : nV st i W V) (hw : st.1 0 i 15 = way) (hd : 1 ≤ d) : MC l D mG_node d 0 0 [vR (some (4, 0)), vI (nI i), vI (-1)] st (fun v s' => v = some (vI (if ¬ od = 0 ∧ 3 < S then way else -1)) ∧ st = s') := by
  refine jm_start (ls0 := [some (vR (some (4, 0))), some (vI (nI i)), some (vI (-1)), none]) (by decide) (Nat.le_of_ble_eq_true rfl) rfl ?_
  obtain ⟨k0_, k1_, k2_, k3_, k4_, k5_, k6_⟩ := hF
  refine jm_aload_n (pc := 0) dG_node_0 rfl ?_
  refine jm_getq (pc := 1) lG_19 dG_node_1 rfl rfl (k1_) ?_
  refine jm_iload_n (pc := 4) dG_node_4 rfl ?_
  refine jm_callV (pc := 5) (c_T_find (d := d - 1) (E := E) hc ⟨k0_, k1_, k2_, k3_, k4_, k5_, k6_⟩ hA hi) fT_find vT_find cG_72 dG_node_5 rfl rfl rfl rfl (by omega) ⟨Nat.le_refl _, Nat.le_refl _⟩ rfl (Nat.le_of_ble_eq_true rfl) (fun v s2 hq => ?_)
  obtain ⟨rfl, rfl⟩ := hq
  refine jm_astore_n (pc := 8) dG_node_8 (by decide) ?_
  refine jm_aload_n (pc := 9) dG_node_9 rfl ?_
  refine jm_ifnonnull (pc := 10) (tgt := 15) dG_node_10 (by decide) (fun q10 h10 => ?_) (fun h10 => ?_)
  · refine jm_iload_n (pc := 15) dG_node_15 rfl ?_
    skip
    · refine jm_tableIn (pc := 16) (tgt := 48) (off := 32) dG_node_16 (by decide) (by decide) rfl (by decide) ?_
      refine jm_aload_n (pc := 48) dG_node_48 rfl ?_
      refine jm_geti (pc := 49) lG_47 dG_node_49 rfl (fun _ => rfl) ?_
      rw [ho]
      refine jm_if_eq (pc := 52) (tgt := 69) dG_node_52 (by decide) (fun h52 => ?_) (fun h52 => ?_)
      · refine jm_iconst (pc := 69) (v := -1) dG_node_69 (by decide) ?_
        refine jm_iret (pc := 70) dG_node_70 rfl ⟨Nat.le_refl _, Nat.le_refl _⟩ ?_
        first
          | exact ⟨itn (fun z => z.1 h52), rfl⟩
          | exact ⟨itn (fun z => jb_eq0 h59 z.2), rfl⟩
          | exact ⟨itp ⟨h52, jb_ne0 h59⟩, rfl⟩
      · refine jm_aload_n (pc := 55) dG_node_55 rfl ?_
        refine jm_callV (pc := 56) (c_N_isAtom (d := d - 1) hs hs12) fN_isAtom vN_isAtom cG_135 dG_node_56 rfl rfl rfl rfl (by omega) ⟨Nat.le_refl _, Nat.le_refl _⟩ rfl (Nat.le_of_ble_eq_true rfl) (fun v s2 hq => ?_)
        obtain ⟨rfl, rfl⟩ := hq
        refine jm_if_eq (pc := 59) (tgt := 69) dG_node_59 (by decide) (fun h59 => ?_) (fun h59 => ?_)
        · refine jm_iconst (pc := 69) (v := -1) dG_node_69 (by decide) ?_
          refine jm_iret (pc := 70) dG_node_70 rfl ⟨Nat.le_refl _, Nat.le_refl _⟩ ?_
          first
            | exact ⟨itn (fun z => z.1 h52), rfl⟩
            | exact ⟨itn (fun z => jb_eq0 h59 z.2), rfl⟩
            | exact ⟨itp ⟨h52, jb_ne0 h59⟩, rfl⟩
        · refine jm_aload_n (pc := 62) dG_node_62 rfl ?_
          refine jm_geti (pc := 63) lG_138 dG_node_63 rfl (fun _ => rfl) ?_
          rw [hw]
          refine jm_goto (pc := 66) (tgt := 70) dG_node_66 (by decide) ?_
          refine jm_iret (pc := 70) dG_node_70 rfl ⟨Nat.le_refl _, Nat.le_refl _⟩ ?_
          first
            | exact ⟨itn (fun z => z.1 h52), rfl⟩
            | exact ⟨itn (fun z => jb_eq0 h59 z.2), rfl⟩
            | exact ⟨itp ⟨h52, jb_ne0 h59⟩, rfl⟩
  · cases h10
set_option maxRecDepth 100000 in
set_option maxHeartbeats 4000000 in
theorem c_G_node_b {i S len W : Nat} {od way : Int32} {V : Nat → Nat} (hF : CF st) (hA : CA E st) (hc : st.1 2 0 2 = nI (eN E)) (hi : i < eN E) (ho : st.1 4 0 7 = od) (hs : st.1 0 i 3 = nI S) (hs12 : S ≤ 12) (hL : st.1 0 i 6 = nI len) (hV : nV st i W V) (hw : st.1 0 i 15 = way) (hd : 1 ≤ d) : MC l D mG_node d 0 0 [vR (some (4, 0)), vI (nI i), vI (0)] st (fun v s' => v = some (vI (nI S)) ∧ st = s') := by
  refine jm_start (ls0 := [some (vR (some (4, 0))), some (vI (nI i)), some (vI (0)), none]) (by decide) (Nat.le_of_ble_eq_true rfl) rfl ?_
  obtain ⟨k0_, k1_, k2_, k3_, k4_, k5_, k6_⟩ := hF
  refine jm_aload_n (pc := 0) dG_node_0 rfl ?_
  refine jm_getq (pc := 1) lG_19 dG_node_1 rfl rfl (k1_) ?_
  refine jm_iload_n (pc := 4) dG_node_4 rfl ?_
  refine jm_callV (pc := 5) (c_T_find (d := d - 1) (E := E) hc ⟨k0_, k1_, k2_, k3_, k4_, k5_, k6_⟩ hA hi) fT_find vT_find cG_72 dG_node_5 rfl rfl rfl rfl (by omega) ⟨Nat.le_refl _, Nat.le_refl _⟩ rfl (Nat.le_of_ble_eq_true rfl) (fun v s2 hq => ?_)
  obtain ⟨rfl, rfl⟩ := hq
  refine jm_astore_n (pc := 8) dG_node_8 (by decide) ?_
  refine jm_aload_n (pc := 9) dG_node_9 rfl ?_
  refine jm_ifnonnull (pc := 10) (tgt := 15) dG_node_10 (by decide) (fun q10 h10 => ?_) (fun h10 => ?_)
  · refine jm_iload_n (pc := 15) dG_node_15 rfl ?_
    skip
    · refine jm_tableIn (pc := 16) (tgt := 71) (off := 55) dG_node_16 (by decide) (by decide) rfl (by decide) ?_
      refine jm_aload_n (pc := 71) dG_node_71 rfl ?_
      refine jm_geti (pc := 72) lG_123 dG_node_72 rfl (fun _ => rfl) ?_
      rw [hs]
      refine jm_iret (pc := 75) dG_node_75 rfl ⟨Nat.le_refl _, Nat.le_refl _⟩ ?_
      exact ⟨rfl, rfl⟩
  · cases h10
set_option maxRecDepth 100000 in
set_option maxHeartbeats 4000000 in
theorem c_G_node_c {i S len W : Nat} {od way : Int32} {V : Nat → Nat} (hF : CF st) (hA : CA E st) (hc : st.1 2 0 2 = nI (eN E)) (hi : i < eN E) (ho : st.1 4 0 7 = od) (hs : st.1 0 i 3 = nI S) (hs12 : S ≤ 12) (hL : st.1 0 i 6 = nI len) (hV : nV st i W V) (hw : st.1 0 i 15 = way) (hd : 1 ≤ d) : MC l D mG_node d 0 0 [vR (some (4, 0)), vI (nI i), vI (1)] st (fun v s' => v = some (vI (nI len)) ∧ st = s') := by
  refine jm_start (ls0 := [some (vR (some (4, 0))), some (vI (nI i)), some (vI (1)), none]) (by decide) (Nat.le_of_ble_eq_true rfl) rfl ?_
  obtain ⟨k0_, k1_, k2_, k3_, k4_, k5_, k6_⟩ := hF
  refine jm_aload_n (pc := 0) dG_node_0 rfl ?_
  refine jm_getq (pc := 1) lG_19 dG_node_1 rfl rfl (k1_) ?_
  refine jm_iload_n (pc := 4) dG_node_4 rfl ?_
  refine jm_callV (pc := 5) (c_T_find (d := d - 1) (E := E) hc ⟨k0_, k1_, k2_, k3_, k4_, k5_, k6_⟩ hA hi) fT_find vT_find cG_72 dG_node_5 rfl rfl rfl rfl (by omega) ⟨Nat.le_refl _, Nat.le_refl _⟩ rfl (Nat.le_of_ble_eq_true rfl) (fun v s2 hq => ?_)
  obtain ⟨rfl, rfl⟩ := hq
  refine jm_astore_n (pc := 8) dG_node_8 (by decide) ?_
  refine jm_aload_n (pc := 9) dG_node_9 rfl ?_
  refine jm_ifnonnull (pc := 10) (tgt := 15) dG_node_10 (by decide) (fun q10 h10 => ?_) (fun h10 => ?_)
  · refine jm_iload_n (pc := 15) dG_node_15 rfl ?_
    skip
    · refine jm_tableIn (pc := 16) (tgt := 76) (off := 60) dG_node_16 (by decide) (by decide) rfl (by decide) ?_
      refine jm_aload_n (pc := 76) dG_node_76 rfl ?_
      refine jm_geti (pc := 77) lG_120 dG_node_77 rfl (fun _ => rfl) ?_
      rw [hL]
      refine jm_iret (pc := 80) dG_node_80 rfl ⟨Nat.le_refl _, Nat.le_refl _⟩ ?_
      exact ⟨rfl, rfl⟩
  · cases h10
set_option maxRecDepth 100000 in
set_option maxHeartbeats 4000000 in
theorem c_G_node_d {i S len W : Nat} {od way : Int32} {V : Nat → Nat} (hF : CF st) (hA : CA E st) (hc : st.1 2 0 2 = nI (eN E)) (hi : i < eN E) (ho : st.1 4 0 7 = od) (hs : st.1 0 i 3 = nI S) (hs12 : S ≤ 12) (hL : st.1 0 i 6 = nI len) (hV : nV st i W V) (hw : st.1 0 i 15 = way) (hd : 1 ≤ d) : MC l D mG_node d 0 0 [vR (some (4, 0)), vI (nI i), vI (2)] st (fun v s' => v = some (vI (nI W)) ∧ st = s') := by
  refine jm_start (ls0 := [some (vR (some (4, 0))), some (vI (nI i)), some (vI (2)), none]) (by decide) (Nat.le_of_ble_eq_true rfl) rfl ?_
  obtain ⟨k0_, k1_, k2_, k3_, k4_, k5_, k6_⟩ := hF
  refine jm_aload_n (pc := 0) dG_node_0 rfl ?_
  refine jm_getq (pc := 1) lG_19 dG_node_1 rfl rfl (k1_) ?_
  refine jm_iload_n (pc := 4) dG_node_4 rfl ?_
  refine jm_callV (pc := 5) (c_T_find (d := d - 1) (E := E) hc ⟨k0_, k1_, k2_, k3_, k4_, k5_, k6_⟩ hA hi) fT_find vT_find cG_72 dG_node_5 rfl rfl rfl rfl (by omega) ⟨Nat.le_refl _, Nat.le_refl _⟩ rfl (Nat.le_of_ble_eq_true rfl) (fun v s2 hq => ?_)
  obtain ⟨rfl, rfl⟩ := hq
  refine jm_astore_n (pc := 8) dG_node_8 (by decide) ?_
  refine jm_aload_n (pc := 9) dG_node_9 rfl ?_
  refine jm_ifnonnull (pc := 10) (tgt := 15) dG_node_10 (by decide) (fun q10 h10 => ?_) (fun h10 => ?_)
  · refine jm_iload_n (pc := 15) dG_node_15 rfl ?_
    skip
    · refine jm_tableIn (pc := 16) (tgt := 81) (off := 65) dG_node_16 (by decide) (by decide) rfl (by decide) ?_
      refine jm_aload_n (pc := 81) dG_node_81 rfl ?_
      refine jm_geti (pc := 82) lG_141 dG_node_82 rfl (fun _ => rfl) ?_
      rw [hV.1]
      refine jm_iret (pc := 85) dG_node_85 rfl ⟨Nat.le_refl _, Nat.le_refl _⟩ ?_
      exact ⟨rfl, rfl⟩
  · cases h10
set_option maxRecDepth 100000 in
set_option maxHeartbeats 4000000 in
theorem c_G_node_o {i S len W : Nat} {od way : Int32} {V : Nat → Nat} {q : Int32} (hF : CF st) (hA : CA E st) (hc : st.1 2 0 2 = nI (eN E)) (hi : i < eN E) (ho : st.1 4 0 7 = od) (hs : st.1 0 i 3 = nI S) (hs12 : S ≤ 12) (hL : st.1 0 i 6 = nI len) (hV : nV st i W V) (hw : st.1 0 i 15 = way) (h1 : ¬ q = -1) (h2 : ¬ q = 0) (h3 : ¬ q = 1) (h4 : ¬ q = 2) (hd : 1 ≤ d) : MC l D mG_node d 0 0 [vR (some (4, 0)), vI (nI i), vI q] st (fun v s' => v = some (vI (if ¬ q < 3 ∧ ¬ nI W ≤ q - 3 then nI (V (q - 3).toNatClampNeg) else -1)) ∧ st = s') := by
  refine jm_start (ls0 := [some (vR (some (4, 0))), some (vI (nI i)), some (vI q), none]) (by decide) (Nat.le_of_ble_eq_true rfl) rfl ?_
  obtain ⟨k0_, k1_, k2_, k3_, k4_, k5_, k6_⟩ := hF
  refine jm_aload_n (pc := 0) dG_node_0 rfl ?_
  refine jm_getq (pc := 1) lG_19 dG_node_1 rfl rfl (k1_) ?_
  refine jm_iload_n (pc := 4) dG_node_4 rfl ?_
  refine jm_callV (pc := 5) (c_T_find (d := d - 1) (E := E) hc ⟨k0_, k1_, k2_, k3_, k4_, k5_, k6_⟩ hA hi) fT_find vT_find cG_72 dG_node_5 rfl rfl rfl rfl (by omega) ⟨Nat.le_refl _, Nat.le_refl _⟩ rfl (Nat.le_of_ble_eq_true rfl) (fun v s2 hq => ?_)
  obtain ⟨rfl, rfl⟩ := hq
  refine jm_astore_n (pc := 8) dG_node_8 (by decide) ?_
  refine jm_aload_n (pc := 9) dG_node_9 rfl ?_
  refine jm_ifnonnull (pc := 10) (tgt := 15) dG_node_10 (by decide) (fun q10 h10 => ?_) (fun h10 => ?_)
  · refine jm_iload_n (pc := 15) dG_node_15 rfl ?_
    have hout : q.toInt < -1 ∨ 2 < q.toInt := by
      have a1 : q.toInt ≠ -1 := fun h => h1 (Int32.toInt_inj.mp h)
      have a2 : q.toInt ≠ 0 := fun h => h2 (Int32.toInt_inj.mp h)
      have a3 : q.toInt ≠ 1 := fun h => h3 (Int32.toInt_inj.mp h)
      have a4 : q.toInt ≠ 2 := fun h => h4 (Int32.toInt_inj.mp h)
      omega
    · refine jm_tableOut (pc := 16) (tgt := 86) dG_node_16 (hout) (by decide) ?_
      refine jm_iload_n (pc := 86) dG_node_86 rfl ?_
      refine jm_iconst (pc := 87) (v := 3) dG_node_87 (by decide) ?_
      refine jm_icmp_lt (pc := 88) (tgt := 112) dG_node_88 (by decide) (fun h88 => ?_) (fun h88 => ?_)
      · refine jm_iconst (pc := 112) (v := -1) dG_node_112 (by decide) ?_
        refine jm_iret (pc := 113) dG_node_113 rfl ⟨Nat.le_refl _, Nat.le_refl _⟩ ?_
        first
          | exact ⟨itn (fun z => z.1 h88), rfl⟩
          | exact ⟨itn (fun z => z.2 h98), rfl⟩
          | exact ⟨itp ⟨h88, h98x⟩, rfl⟩
      · refine jm_iload_n (pc := 91) dG_node_91 rfl ?_
        refine jm_iconst (pc := 92) (v := 3) dG_node_92 (by decide) ?_
        refine jm_isub (pc := 93) dG_node_93 ?_
        refine jm_aload_n (pc := 94) dG_node_94 rfl ?_
        refine jm_geti (pc := 95) lG_141 dG_node_95 rfl (fun _ => rfl) ?_
        rw [hV.1]
        refine jm_icmp_ge (pc := 98) (tgt := 112) dG_node_98 (by decide) (fun h98 => ?_) (fun h98 => ?_)
        · refine jm_iconst (pc := 112) (v := -1) dG_node_112 (by decide) ?_
          refine jm_iret (pc := 113) dG_node_113 rfl ⟨Nat.le_refl _, Nat.le_refl _⟩ ?_
          first
            | exact ⟨itn (fun z => z.1 h88), rfl⟩
            | exact ⟨itn (fun z => z.2 h98), rfl⟩
            | exact ⟨itp ⟨h88, h98x⟩, rfl⟩
        · obtain ⟨t, ht, e1, e2⟩ := q3 h88
          have htW : t < W := Nat.lt_of_not_le fun z => h98 (by rw [e2]; exact nI_le z (by omega))
          have h7 := hV.2.1
          have h98x := h98
          rw [e2] at h98x
          refine jm_aload_n (pc := 101) dG_node_101 rfl ?_
          refine jm_getq (pc := 102) lG_144 dG_node_102 rfl rfl (hV.2.2.1) ?_
          refine jm_iload_n (pc := 105) dG_node_105 rfl ?_
          refine jm_iconst (pc := 106) (v := 3) dG_node_106 (by decide) ?_
          refine jm_isub (pc := 107) dG_node_107 ?_
          refine jm_iald (pc := 108) dG_node_108 rfl (by decide) rfl (fun _ => rfl) ?hin ?_
          case hin =>
            rw [e2]; exact vp_in_nI (N := 7) (by omega) (by decide)
          rw [e2, nI_clamp (by omega), (hV.2.2.2 t htW).1]
          refine jm_goto (pc := 109) (tgt := 113) dG_node_109 (by decide) ?_
          refine jm_iret (pc := 113) dG_node_113 rfl ⟨Nat.le_refl _, Nat.le_refl _⟩ ?_
          first
            | exact ⟨itn (fun z => z.1 h88), rfl⟩
            | exact ⟨itn (fun z => z.2 h98), rfl⟩
            | exact ⟨itp ⟨h88, h98x⟩, rfl⟩
  · cases h10
theorem c_G_node {i S len W : Nat} {od way : Int32} {V : Nat → Nat} {q : Int32} (hF : CF st) (hA : CA E st) (hc : st.1 2 0 2 = nI (eN E)) (hi : i < eN E) (ho : st.1 4 0 7 = od) (hs : st.1 0 i 3 = nI S) (hs12 : S ≤ 12) (hL : st.1 0 i 6 = nI len) (hV : nV st i W V) (hw : st.1 0 i 15 = way) (hd : 1 ≤ d) : MC l D mG_node d 0 0 [vR (some (4, 0)), vI (nI i), vI q] st (fun v s' => v = some (vI (ndV od S len W way V q)) ∧ st = s') := by
  by_cases h1 : q = -1
  · subst h1
    rw [show ndV od S len W way V (-1) = (if ¬ od = 0 ∧ 3 < S then way else -1) from if_pos rfl]
    exact c_G_node_a hF hA hc hi ho hs hs12 hL hV hw hd
  by_cases h2 : q = 0
  · subst h2
    exact c_G_node_b hF hA hc hi ho hs hs12 hL hV hw hd
  by_cases h3 : q = 1
  · subst h3
    exact c_G_node_c hF hA hc hi ho hs hs12 hL hV hw hd
  by_cases h4 : q = 2
  · subst h4
    exact c_G_node_d hF hA hc hi ho hs hs12 hL hV hw hd
  rw [show ndV od S len W way V q = _ from (if_neg h1).trans ((if_neg h2).trans ((if_neg h3).trans (if_neg h4)))]
  exact c_G_node_o hF hA hc hi ho hs hs12 hL hV hw h1 h2 h3 h4 hd
set_option maxRecDepth 100000 in
set_option maxHeartbeats 4000000 in
theorem lp_N_meets {i W x : Nat} {V : Nat → Nat} {mk : Int32} {S0 : Int64} (hV : nV st i W V) (hx : x < W) (hmk : ¬ hP mk (nI x) = 0) (hd : 1 ≤ d) : ∀ (n : Nat) (k : Nat) (S : Int64), k ≤ x → x - k < n → rsF V (x - k) k S = rsF V x 0 S0 → MS l D mN_meets d 0 0 (fun v s' => st = s' ∧ v = some (vI (jb (¬ hP mk (nI x) = 0 ∧ ¬ b1 (V x) &&& rsF V x 0 S0 = 0)))) 0 0 18 [some (vR (some (0, i))), some (vI (nI x)), some (vI mk), some (vL S), none, some (vI (nI k))] [] st := by
  intro n
  induction n with
  | zero =>
    intro k S hk hn hS
    omega
  | succ n ih =>
    intro k S hk hn hS
    have h7 := hV.2.1
    refine jm_iload (pc := 18) dN_meets_18 rfl ?_
    refine jm_iload_n (pc := 20) dN_meets_20 rfl ?_
    refine jm_icmp_ge (pc := 21) (tgt := 39) dN_meets_21 (by decide) (fun h21 => ?_) (fun h21 => ?_)
    · obtain rfl : k = x := Nat.le_antisymm hk (Nat.le_of_not_lt fun z => nI_ge z (by omega) h21)
      rw [Nat.sub_self] at hS
      have hS : S = rsF V k 0 S0 := hS
      refine jm_aload_n (pc := 39) dN_meets_39 rfl ?_
      refine jm_iload_n (pc := 40) dN_meets_40 rfl ?_
      refine jm_callV (pc := 41) (c_N_variableAt (d := d - 1) hV hx) fN_variableAt vN_variableAt cN_71 dN_meets_41 rfl rfl rfl rfl (by omega) ⟨Nat.le_refl _, Nat.le_refl _⟩ rfl (Nat.le_of_ble_eq_true rfl) (fun v s2 hq => ?_)
      obtain ⟨rfl, rfl⟩ := hq
      refine jm_lload_n (pc := 44) dN_meets_44 rfl ?_
      refine jm_land (pc := 45) dN_meets_45 ?_
      refine jm_lconst (pc := 46) (v := 0) dN_meets_46 (by decide) ?_
      refine jm_lcmp (pc := 47) dN_meets_47 ?_
      refine jm_if_eq (pc := 48) (tgt := 55) dN_meets_48 (by decide) (fun h48 => ?_) (fun h48 => ?_)
      · refine jm_iconst (pc := 55) (v := 0) dN_meets_55 (by decide) ?_
        refine jm_zret (pc := 56) dN_meets_56 rfl (by first | exact Or.inl rfl | exact Or.inr rfl | assumption) ⟨Nat.le_refl _, Nat.le_refl _⟩ ?_
        refine ⟨rfl, ?_⟩
        rw [hS] at h48
        first
          | exact jbf (fun q => q.2 (lg0.mp h48))
          | exact jbt ⟨hmk, fun q => h48 (lg0.mpr q)⟩
      · refine jm_iconst (pc := 51) (v := 1) dN_meets_51 (by decide) ?_
        refine jm_goto (pc := 52) (tgt := 56) dN_meets_52 (by decide) ?_
        refine jm_zret (pc := 56) dN_meets_56 rfl (by first | exact Or.inl rfl | exact Or.inr rfl | assumption) ⟨Nat.le_refl _, Nat.le_refl _⟩ ?_
        refine ⟨rfl, ?_⟩
        rw [hS] at h48
        first
          | exact jbf (fun q => q.2 (lg0.mp h48))
          | exact jbt ⟨hmk, fun q => h48 (lg0.mpr q)⟩
    · have hkx : k < x := Nat.lt_of_not_le fun z => h21 (nI_le z (by omega))
      refine jm_lload_n (pc := 24) dN_meets_24 rfl ?_
      refine jm_aload_n (pc := 25) dN_meets_25 rfl ?_
      refine jm_iload (pc := 26) dN_meets_26 rfl ?_
      refine jm_callV (pc := 28) (c_N_variableAt (d := d - 1) hV (j := k) (by omega)) fN_variableAt vN_variableAt cN_71 dN_meets_28 rfl rfl rfl rfl (by omega) ⟨Nat.le_refl _, Nat.le_refl _⟩ rfl (Nat.le_of_ble_eq_true rfl) (fun v s2 hq => ?_)
      obtain ⟨rfl, rfl⟩ := hq
      refine jm_lor (pc := 31) dN_meets_31 ?_
      refine jm_lstore_n (pc := 32) dN_meets_32 (by decide) ?_
      refine jm_iinc (pc := 33) dN_meets_33 rfl (by decide) ?_
      refine jm_goto (pc := 36) (tgt := 18) dN_meets_36 (by decide) ?_
      rw [show nI k + Int32.ofInt 1 = nI (k + 1) from ni1 k]
      refine ih (k + 1) _ (by omega) (by omega) ?_
      rw [← hS, show x - k = (x - (k + 1)) + 1 by omega]
      rfl
set_option maxRecDepth 100000 in
set_option maxHeartbeats 4000000 in
theorem c_N_meets {i W x : Nat} {V : Nat → Nat} {mk : Int32} {S0 : Int64} (hV : nV st i W V) (hx : x < W) (h13 : st.2.1 0 i 13 = S0) (hd : 1 ≤ d) : MC l D mN_meets d 0 0 [vR (some (0, i)), vI (nI x), vI mk] st (fun v s' => st = s' ∧ v = some (vI (jb (¬ hP mk (nI x) = 0 ∧ ¬ b1 (V x) &&& rsF V x 0 S0 = 0)))) := by
  refine jm_start (ls0 := [some (vR (some (0, i))), some (vI (nI x)), some (vI mk), none, none, none]) (by decide) (Nat.le_of_ble_eq_true rfl) rfl ?_
  refine jm_iload_n (pc := 0) dN_meets_0 rfl ?_
  refine jm_iload_n (pc := 1) dN_meets_1 rfl ?_
  refine jm_callS (pc := 2) (c_G_hasPlace (d := d - 1) mk (nI x)) fG_hasPlace sG_hasPlace cN_64 dN_meets_2 rfl (by omega) ⟨Nat.le_refl _, Nat.le_refl _⟩ rfl (Nat.le_of_ble_eq_true rfl) (fun v s2 hq => ?_)
  obtain ⟨rfl, rfl⟩ := hq
  refine jm_if_ne (pc := 5) (tgt := 10) dN_meets_5 (by decide) (fun h5 => ?_) (fun h5 => ?_)
  · refine jm_aload_n (pc := 10) dN_meets_10 rfl ?_
    refine jm_getl (pc := 11) lN_68 dN_meets_11 rfl (fun _ => rfl) ?_
    rw [h13]
    refine jm_lstore_n (pc := 14) dN_meets_14 (by decide) ?_
    refine jm_iconst (pc := 15) (v := 0) dN_meets_15 (by decide) ?_
    refine jm_istore (pc := 16) dN_meets_16 (by decide) ?_
    exact lp_N_meets hV hx (jb_ne0 h5) hd (x + 1) 0 S0 (by omega) (by omega) rfl
  · refine jm_iconst (pc := 8) (v := 0) dN_meets_8 (by decide) ?_
    refine jm_zret (pc := 9) dN_meets_9 rfl (by first | exact Or.inl rfl | exact Or.inr rfl | assumption) ⟨Nat.le_refl _, Nat.le_refl _⟩ ?_
    exact ⟨rfl, jbf (fun q => jb_eq0 h5 q.1)⟩
set_option maxRecDepth 100000 in
set_option maxHeartbeats 4000000 in
theorem c_G_madeAt_c {np : Nat} {ar md : Nat → Nat} {ou : Nat → Nat → Int32} {i Q m : Nat} (hF : CF st) (hp : pR st np ar md ou) (hs : st.1 0 i 3 = 12) (hQ : st.1 0 i 4 = nI Q) (hQn : Q < np) (hw : st.1 0 i 15 = nI m) (hm : m < md Q) (hd : 3 ≤ d) : MC l D mG_madeAt d 0 0 [vR (some (4, 0)), vR (some (0, i))] st (fun v s' => st = s' ∧ v = some (vI (ou Q m))) := by
  refine jm_start (ls0 := [some (vR (some (4, 0))), some (vR (some (0, i)))]) (by decide) (Nat.le_of_ble_eq_true rfl) rfl ?_
  obtain ⟨k0_, k1_, k2_, k3_, k4_, k5_, k6_⟩ := hF
  refine jm_aload_n (pc := 0) dG_madeAt_0 rfl ?_
  refine jm_geti (pc := 1) lG_123 dG_madeAt_1 rfl (fun _ => rfl) ?_
  rw [hs]
  refine jm_bipush (pc := 4) (v := 12) dG_madeAt_4 (by decide) ?_
  refine jm_icmp_ne (pc := 6) (tgt := 25) dG_madeAt_6 (by decide) (fun h6 => ?_) (fun h6 => ?_)
  · exact absurd rfl h6
  · refine jm_aload_n (pc := 9) dG_madeAt_9 rfl ?_
    refine jm_getq (pc := 10) lG_10 dG_madeAt_10 rfl rfl (k0_) ?_
    refine jm_aload_n (pc := 13) dG_madeAt_13 rfl ?_
    refine jm_geti (pc := 14) lG_173 dG_madeAt_14 rfl (fun _ => rfl) ?_
    rw [hQ]
    refine jm_aload_n (pc := 17) dG_madeAt_17 rfl ?_
    refine jm_geti (pc := 18) lG_138 dG_madeAt_18 rfl (fun _ => rfl) ?_
    rw [hw]
    refine jm_callV (pc := 21) (c_P_outsOf (d := d - 1) hp hQn hm (by omega)) fP_outsOf vP_outsOf cG_176 dG_madeAt_21 rfl rfl rfl rfl (by omega) ⟨Nat.le_refl _, Nat.le_refl _⟩ rfl (Nat.le_of_ble_eq_true rfl) (fun v s2 hq => ?_)
    obtain ⟨rfl, rfl⟩ := hq
    refine jm_iret (pc := 24) dG_madeAt_24 rfl ⟨Nat.le_refl _, Nat.le_refl _⟩ ?_
    exact ⟨rfl, rfl⟩
set_option maxRecDepth 100000 in
set_option maxHeartbeats 4000000 in
theorem c_G_madeAt_o {i S : Nat} {w : Int32} (hs : st.1 0 i 3 = nI S) (hS : S < 12) (hw : st.1 0 i 15 = w) : MC l D mG_madeAt d 0 0 [vR (some (4, 0)), vR (some (0, i))] st (fun v s' => st = s' ∧ v = some (vI (if S = 8 ∧ w = 1 then -2 else 0))) := by
  refine jm_start (ls0 := [some (vR (some (4, 0))), some (vR (some (0, i)))]) (by decide) (Nat.le_of_ble_eq_true rfl) rfl ?_
  refine jm_aload_n (pc := 0) dG_madeAt_0 rfl ?_
  refine jm_geti (pc := 1) lG_123 dG_madeAt_1 rfl (fun _ => rfl) ?_
  rw [hs]
  refine jm_bipush (pc := 4) (v := 12) dG_madeAt_4 (by decide) ?_
  refine jm_icmp_ne (pc := 6) (tgt := 25) dG_madeAt_6 (by decide) (fun h6 => ?_) (fun h6 => ?_)
  · refine jm_aload_n (pc := 25) dG_madeAt_25 rfl ?_
    refine jm_geti (pc := 26) lG_123 dG_madeAt_26 rfl (fun _ => rfl) ?_
    rw [hs]
    refine jm_bipush (pc := 29) (v := 8) dG_madeAt_29 (by decide) ?_
    refine jm_icmp_ne (pc := 31) (tgt := 47) dG_madeAt_31 (by decide) (fun h31 => ?_) (fun h31 => ?_)
    · refine jm_iconst (pc := 47) (v := 0) dG_madeAt_47 (by decide) ?_
      refine jm_iret (pc := 48) dG_madeAt_48 rfl ⟨Nat.le_refl _, Nat.le_refl _⟩ ?_
      first
        | exact ⟨rfl, itp ⟨(nI_eq (b := 8) (Nat.lt_trans hS (by decide)) (by decide)).mp h31, h39⟩⟩
        | exact ⟨rfl, itn (fun z => h39 z.2)⟩
        | exact ⟨rfl, itn (fun z => h31 (congrArg nI z.1))⟩
    · refine jm_aload_n (pc := 34) dG_madeAt_34 rfl ?_
      refine jm_geti (pc := 35) lG_138 dG_madeAt_35 rfl (fun _ => rfl) ?_
      rw [hw]
      refine jm_iconst (pc := 38) (v := 1) dG_madeAt_38 (by decide) ?_
      refine jm_icmp_ne (pc := 39) (tgt := 47) dG_madeAt_39 (by decide) (fun h39 => ?_) (fun h39 => ?_)
      · refine jm_iconst (pc := 47) (v := 0) dG_madeAt_47 (by decide) ?_
        refine jm_iret (pc := 48) dG_madeAt_48 rfl ⟨Nat.le_refl _, Nat.le_refl _⟩ ?_
        first
          | exact ⟨rfl, itp ⟨(nI_eq (b := 8) (Nat.lt_trans hS (by decide)) (by decide)).mp h31, h39⟩⟩
          | exact ⟨rfl, itn (fun z => h39 z.2)⟩
          | exact ⟨rfl, itn (fun z => h31 (congrArg nI z.1))⟩
      · refine jm_bipush (pc := 42) (v := -2) dG_madeAt_42 (by decide) ?_
        refine jm_goto (pc := 44) (tgt := 48) dG_madeAt_44 (by decide) ?_
        refine jm_iret (pc := 48) dG_madeAt_48 rfl ⟨Nat.le_refl _, Nat.le_refl _⟩ ?_
        first
          | exact ⟨rfl, itp ⟨(nI_eq (b := 8) (Nat.lt_trans hS (by decide)) (by decide)).mp h31, h39⟩⟩
          | exact ⟨rfl, itn (fun z => h39 z.2)⟩
          | exact ⟨rfl, itn (fun z => h31 (congrArg nI z.1))⟩
  · exact absurd ((nI_eq (b := 12) (by omega) (by decide)).mp h6) (by omega)
set_option maxRecDepth 100000 in
set_option maxHeartbeats 4000000 in
theorem c_G_compared_n {x k : Int32} (hF : CF st) (hA : CA E st) (hc : st.1 2 0 2 = nI (eN E)) (hx : ¬ isN (eN E) x) (hd : 1 ≤ d) : MC l D mG_compared d 0 0 [vR (some (4, 0)), vI x, vI k] st (fun v s' => v = some (vI 0) ∧ st = s') := by
  refine jm_start (ls0 := [some (vR (some (4, 0))), some (vI x), some (vI k), none]) (by decide) (Nat.le_of_ble_eq_true rfl) rfl ?_
  obtain ⟨k0_, k1_, k2_, k3_, k4_, k5_, k6_⟩ := hF
  refine jm_aload_n (pc := 0) dG_compared_0 rfl ?_
  refine jm_getq (pc := 1) lG_19 dG_compared_1 rfl rfl (k1_) ?_
  refine jm_iload_n (pc := 4) dG_compared_4 rfl ?_
  refine jm_callV (pc := 5) (c_T_find_n (d := d - 1) (n := eN E) hc hx) fT_find vT_find cG_72 dG_compared_5 rfl rfl rfl rfl (by omega) ⟨Nat.le_refl _, Nat.le_refl _⟩ rfl (Nat.le_of_ble_eq_true rfl) (fun v s2 hq => ?_)
  obtain ⟨rfl, rfl⟩ := hq
  refine jm_astore_n (pc := 8) dG_compared_8 (by decide) ?_
  refine jm_aload_n (pc := 9) dG_compared_9 rfl ?_
  refine jm_geti (pc := 10) lG_47 dG_compared_10 rfl (fun _ => rfl) ?_
  refine jm_if_eq (pc := 13) (tgt := 32) dG_compared_13 (by decide) (fun h13 => ?_) (fun h13 => ?_)
  · refine jm_iconst (pc := 32) (v := 0) dG_compared_32 (by decide) ?_
    refine jm_zret (pc := 33) dG_compared_33 rfl (by first | exact Or.inl rfl | exact Or.inr rfl | assumption) ⟨Nat.le_refl _, Nat.le_refl _⟩ ?_
    exact ⟨rfl, rfl⟩
  · refine jm_aload_n (pc := 16) dG_compared_16 rfl ?_
    refine jm_ifnull (pc := 17) (tgt := 32) dG_compared_17 (by decide) (fun h17 => ?_) (fun q17 h17 => ?_)
    · refine jm_iconst (pc := 32) (v := 0) dG_compared_32 (by decide) ?_
      refine jm_zret (pc := 33) dG_compared_33 rfl (by first | exact Or.inl rfl | exact Or.inr rfl | assumption) ⟨Nat.le_refl _, Nat.le_refl _⟩ ?_
      exact ⟨rfl, rfl⟩
    · cases h17
set_option maxRecDepth 100000 in
set_option maxHeartbeats 4000000 in
theorem c_G_compared_f {i W : Nat} {od k : Int32} (hF : CF st) (hA : CA E st) (hc : st.1 2 0 2 = nI (eN E)) (hi : i < eN E) (ho : st.1 4 0 7 = od) (hW : st.1 0 i 2 = nI W) (hx : ¬ (¬ od = 0 ∧ isN W k)) (hd : 1 ≤ d) : MC l D mG_compared d 0 0 [vR (some (4, 0)), vI (nI i), vI k] st (fun v s' => v = some (vI 0) ∧ st = s') := by
  refine jm_start (ls0 := [some (vR (some (4, 0))), some (vI (nI i)), some (vI k), none]) (by decide) (Nat.le_of_ble_eq_true rfl) rfl ?_
  obtain ⟨k0_, k1_, k2_, k3_, k4_, k5_, k6_⟩ := hF
  refine jm_aload_n (pc := 0) dG_compared_0 rfl ?_
  refine jm_getq (pc := 1) lG_19 dG_compared_1 rfl rfl (k1_) ?_
  refine jm_iload_n (pc := 4) dG_compared_4 rfl ?_
  refine jm_callV (pc := 5) (c_T_find (d := d - 1) (E := E) hc ⟨k0_, k1_, k2_, k3_, k4_, k5_, k6_⟩ hA hi) fT_find vT_find cG_72 dG_compared_5 rfl rfl rfl rfl (by omega) ⟨Nat.le_refl _, Nat.le_refl _⟩ rfl (Nat.le_of_ble_eq_true rfl) (fun v s2 hq => ?_)
  obtain ⟨rfl, rfl⟩ := hq
  refine jm_astore_n (pc := 8) dG_compared_8 (by decide) ?_
  refine jm_aload_n (pc := 9) dG_compared_9 rfl ?_
  refine jm_geti (pc := 10) lG_47 dG_compared_10 rfl (fun _ => rfl) ?_
  rw [ho]
  refine jm_if_eq (pc := 13) (tgt := 32) dG_compared_13 (by decide) (fun h13 => ?_) (fun h13 => ?_)
  · refine jm_iconst (pc := 32) (v := 0) dG_compared_32 (by decide) ?_
    refine jm_zret (pc := 33) dG_compared_33 rfl (by first | exact Or.inl rfl | exact Or.inr rfl | assumption) ⟨Nat.le_refl _, Nat.le_refl _⟩ ?_
    exact ⟨rfl, rfl⟩
  · refine jm_aload_n (pc := 16) dG_compared_16 rfl ?_
    refine jm_ifnull (pc := 17) (tgt := 32) dG_compared_17 (by decide) (fun h17 => ?_) (fun q17 h17 => ?_)
    · cases h17
    · refine jm_iload_n (pc := 20) dG_compared_20 rfl ?_
      refine jm_if_lt (pc := 21) (tgt := 32) dG_compared_21 (by decide) (fun h21 => ?_) (fun h21 => ?_)
      · refine jm_iconst (pc := 32) (v := 0) dG_compared_32 (by decide) ?_
        refine jm_zret (pc := 33) dG_compared_33 rfl (by first | exact Or.inl rfl | exact Or.inr rfl | assumption) ⟨Nat.le_refl _, Nat.le_refl _⟩ ?_
        exact ⟨rfl, rfl⟩
      · refine jm_iload_n (pc := 24) dG_compared_24 rfl ?_
        refine jm_aload_n (pc := 25) dG_compared_25 rfl ?_
        refine jm_geti (pc := 26) lG_141 dG_compared_26 rfl (fun _ => rfl) ?_
        rw [hW]
        refine jm_icmp_lt (pc := 29) (tgt := 34) dG_compared_29 (by decide) (fun h29 => ?_) (fun h29 => ?_)
        · exact absurd ⟨h13, h21, fun z => Int32.not_lt.mpr z h29⟩ hx
        · refine jm_iconst (pc := 32) (v := 0) dG_compared_32 (by decide) ?_
          refine jm_zret (pc := 33) dG_compared_33 rfl (by first | exact Or.inl rfl | exact Or.inr rfl | assumption) ⟨Nat.le_refl _, Nat.le_refl _⟩ ?_
          exact ⟨rfl, rfl⟩
set_option maxRecDepth 100000 in
set_option maxHeartbeats 4000000 in
theorem c_G_compared {i W x : Nat} {mk : Int32} {V : Nat → Nat} {S0 : Int64} (hF : CF st) (hA : CA E st) (hc : st.1 2 0 2 = nI (eN E)) (hi : i < eN E) (ho : st.1 4 0 7 = 1) (hV : nV st i W V) (hx : x < W) (h13_ : st.2.1 0 i 13 = S0) (hmk : MC l D mG_madeAt (d - 1) 0 0 [vR (some (4, 0)), vR (some (0, i))] st (fun v s' => st = s' ∧ v = some (vI mk))) (hd : 2 ≤ d) : MC l D mG_compared d 0 0 [vR (some (4, 0)), vI (nI i), vI (nI x)] st (fun v s' => v = some (vI (jb (¬ hP mk (nI x) = 0 ∧ ¬ b1 (V x) &&& rsF V x 0 S0 = 0))) ∧ st = s') := by
  refine jm_start (ls0 := [some (vR (some (4, 0))), some (vI (nI i)), some (vI (nI x)), none]) (by decide) (Nat.le_of_ble_eq_true rfl) rfl ?_
  obtain ⟨k0_, k1_, k2_, k3_, k4_, k5_, k6_⟩ := hF
  have h7 := hV.2.1
  refine jm_aload_n (pc := 0) dG_compared_0 rfl ?_
  refine jm_getq (pc := 1) lG_19 dG_compared_1 rfl rfl (k1_) ?_
  refine jm_iload_n (pc := 4) dG_compared_4 rfl ?_
  refine jm_callV (pc := 5) (c_T_find (d := d - 1) (E := E) hc ⟨k0_, k1_, k2_, k3_, k4_, k5_, k6_⟩ hA hi) fT_find vT_find cG_72 dG_compared_5 rfl rfl rfl rfl (by omega) ⟨Nat.le_refl _, Nat.le_refl _⟩ rfl (Nat.le_of_ble_eq_true rfl) (fun v s2 hq => ?_)
  obtain ⟨rfl, rfl⟩ := hq
  refine jm_astore_n (pc := 8) dG_compared_8 (by decide) ?_
  refine jm_aload_n (pc := 9) dG_compared_9 rfl ?_
  refine jm_geti (pc := 10) lG_47 dG_compared_10 rfl (fun _ => rfl) ?_
  rw [ho]
  refine jm_if_eq (pc := 13) (tgt := 32) dG_compared_13 (by decide) (fun h13 => ?_) (fun h13 => ?_)
  · exact absurd h13 (by decide)
  · refine jm_aload_n (pc := 16) dG_compared_16 rfl ?_
    refine jm_ifnull (pc := 17) (tgt := 32) dG_compared_17 (by decide) (fun h17 => ?_) (fun q17 h17 => ?_)
    · cases h17
    · refine jm_iload_n (pc := 20) dG_compared_20 rfl ?_
      refine jm_if_lt (pc := 21) (tgt := 32) dG_compared_21 (by decide) (fun h21 => ?_) (fun h21 => ?_)
      · exact absurd h21 (nI_pos (by omega))
      · refine jm_iload_n (pc := 24) dG_compared_24 rfl ?_
        refine jm_aload_n (pc := 25) dG_compared_25 rfl ?_
        refine jm_geti (pc := 26) lG_141 dG_compared_26 rfl (fun _ => rfl) ?_
        rw [hV.1]
        refine jm_icmp_lt (pc := 29) (tgt := 34) dG_compared_29 (by decide) (fun h29 => ?_) (fun h29 => ?_)
        · refine jm_aload_n (pc := 34) dG_compared_34 rfl ?_
          refine jm_iload_n (pc := 35) dG_compared_35 rfl ?_
          refine jm_aload_n (pc := 36) dG_compared_36 rfl ?_
          refine jm_aload_n (pc := 37) dG_compared_37 rfl ?_
          refine jm_callV (pc := 38) hmk fG_madeAt vG_madeAt cG_147 dG_compared_38 rfl rfl rfl rfl (by omega) ⟨Nat.le_refl _, Nat.le_refl _⟩ rfl (Nat.le_of_ble_eq_true rfl) (fun v s2 hq => ?_)
          obtain ⟨rfl, rfl⟩ := hq
          refine jm_callV (pc := 41) (c_N_meets (d := d - 1) hV hx h13_ (by omega)) fN_meets vN_meets cG_151 dG_compared_41 rfl rfl rfl rfl (by omega) ⟨Nat.le_refl _, Nat.le_refl _⟩ rfl (Nat.le_of_ble_eq_true rfl) (fun v s2 hq => ?_)
          obtain ⟨rfl, rfl⟩ := hq
          refine jm_zret (pc := 44) dG_compared_44 rfl (jb_01 _) ⟨Nat.le_refl _, Nat.le_refl _⟩ ?_
          exact ⟨rfl, rfl⟩
        · exact absurd (nI_lt hx (by omega)) h29
set_option maxRecDepth 100000 in
set_option maxHeartbeats 4000000 in
theorem c_G_ground_n {x k : Int32} (hF : CF st) (hA : CA E st) (hc : st.1 2 0 2 = nI (eN E)) (hx : ¬ isN (eN E) x) (hd : 1 ≤ d) : MC l D mG_ground d 0 0 [vR (some (4, 0)), vI x, vI k] st (fun v s' => v = some (vI 0) ∧ st = s') := by
  refine jm_start (ls0 := [some (vR (some (4, 0))), some (vI x), some (vI k), none]) (by decide) (Nat.le_of_ble_eq_true rfl) rfl ?_
  obtain ⟨k0_, k1_, k2_, k3_, k4_, k5_, k6_⟩ := hF
  refine jm_aload_n (pc := 0) dG_ground_0 rfl ?_
  refine jm_getq (pc := 1) lG_19 dG_ground_1 rfl rfl (k1_) ?_
  refine jm_iload_n (pc := 4) dG_ground_4 rfl ?_
  refine jm_callV (pc := 5) (c_T_find_n (d := d - 1) (n := eN E) hc hx) fT_find vT_find cG_72 dG_ground_5 rfl rfl rfl rfl (by omega) ⟨Nat.le_refl _, Nat.le_refl _⟩ rfl (Nat.le_of_ble_eq_true rfl) (fun v s2 hq => ?_)
  obtain ⟨rfl, rfl⟩ := hq
  refine jm_astore_n (pc := 8) dG_ground_8 (by decide) ?_
  refine jm_aload_n (pc := 9) dG_ground_9 rfl ?_
  refine jm_geti (pc := 10) lG_47 dG_ground_10 rfl (fun _ => rfl) ?_
  refine jm_if_eq (pc := 13) (tgt := 42) dG_ground_13 (by decide) (fun h13 => ?_) (fun h13 => ?_)
  · refine jm_iconst (pc := 42) (v := 0) dG_ground_42 (by decide) ?_
    refine jm_zret (pc := 43) dG_ground_43 rfl (by first | exact Or.inl rfl | exact Or.inr rfl | assumption) ⟨Nat.le_refl _, Nat.le_refl _⟩ ?_
    exact ⟨rfl, rfl⟩
  · refine jm_aload_n (pc := 16) dG_ground_16 rfl ?_
    refine jm_ifnull (pc := 17) (tgt := 42) dG_ground_17 (by decide) (fun h17 => ?_) (fun q17 h17 => ?_)
    · refine jm_iconst (pc := 42) (v := 0) dG_ground_42 (by decide) ?_
      refine jm_zret (pc := 43) dG_ground_43 rfl (by first | exact Or.inl rfl | exact Or.inr rfl | assumption) ⟨Nat.le_refl _, Nat.le_refl _⟩ ?_
      exact ⟨rfl, rfl⟩
    · cases h17
set_option maxRecDepth 100000 in
set_option maxHeartbeats 4000000 in
theorem c_G_ground {i : Nat} {od k : Int32} {S0 : Int64} (hF : CF st) (hA : CA E st) (hc : st.1 2 0 2 = nI (eN E)) (hi : i < eN E) (ho : st.1 4 0 7 = od) (h13_ : st.2.1 0 i 13 = S0) (hd : 1 ≤ d) : MC l D mG_ground d 0 0 [vR (some (4, 0)), vI (nI i), vI k] st (fun v s' => v = some (vI (jb (¬ od = 0 ∧ isV k ∧ ¬ hB S0 k = 0))) ∧ st = s') := by
  refine jm_start (ls0 := [some (vR (some (4, 0))), some (vI (nI i)), some (vI k), none]) (by decide) (Nat.le_of_ble_eq_true rfl) rfl ?_
  obtain ⟨k0_, k1_, k2_, k3_, k4_, k5_, k6_⟩ := hF
  refine jm_aload_n (pc := 0) dG_ground_0 rfl ?_
  refine jm_getq (pc := 1) lG_19 dG_ground_1 rfl rfl (k1_) ?_
  refine jm_iload_n (pc := 4) dG_ground_4 rfl ?_
  refine jm_callV (pc := 5) (c_T_find (d := d - 1) (E := E) hc ⟨k0_, k1_, k2_, k3_, k4_, k5_, k6_⟩ hA hi) fT_find vT_find cG_72 dG_ground_5 rfl rfl rfl rfl (by omega) ⟨Nat.le_refl _, Nat.le_refl _⟩ rfl (Nat.le_of_ble_eq_true rfl) (fun v s2 hq => ?_)
  obtain ⟨rfl, rfl⟩ := hq
  refine jm_astore_n (pc := 8) dG_ground_8 (by decide) ?_
  refine jm_aload_n (pc := 9) dG_ground_9 rfl ?_
  refine jm_geti (pc := 10) lG_47 dG_ground_10 rfl (fun _ => rfl) ?_
  rw [ho]
  refine jm_if_eq (pc := 13) (tgt := 42) dG_ground_13 (by decide) (fun h13 => ?_) (fun h13 => ?_)
  · refine jm_iconst (pc := 42) (v := 0) dG_ground_42 (by decide) ?_
    refine jm_zret (pc := 43) dG_ground_43 rfl (by first | exact Or.inl rfl | exact Or.inr rfl | assumption) ⟨Nat.le_refl _, Nat.le_refl _⟩ ?_
    refine ⟨?_, rfl⟩
    first
      | exact jbf (fun q => q.1 h13)
      | exact jbf (fun q => jb_eq0 h24 q.2.1)
      | exact jbf (fun q => jb_eq0 h35 q.2.2)
      | exact jbt ⟨h13, jb_ne0 h24, jb_ne0 h35⟩
  · refine jm_aload_n (pc := 16) dG_ground_16 rfl ?_
    refine jm_ifnull (pc := 17) (tgt := 42) dG_ground_17 (by decide) (fun h17 => ?_) (fun q17 h17 => ?_)
    · cases h17
    · refine jm_iload_n (pc := 20) dG_ground_20 rfl ?_
      refine jm_callS (pc := 21) (c_G_isVariable (d := d - 1) k) fG_isVariable sG_isVariable cG_68 dG_ground_21 rfl (by omega) ⟨Nat.le_refl _, Nat.le_refl _⟩ rfl (Nat.le_of_ble_eq_true rfl) (fun v s2 hq => ?_)
      obtain ⟨rfl, rfl⟩ := hq
      refine jm_if_eq (pc := 24) (tgt := 42) dG_ground_24 (by decide) (fun h24 => ?_) (fun h24 => ?_)
      · refine jm_iconst (pc := 42) (v := 0) dG_ground_42 (by decide) ?_
        refine jm_zret (pc := 43) dG_ground_43 rfl (by first | exact Or.inl rfl | exact Or.inr rfl | assumption) ⟨Nat.le_refl _, Nat.le_refl _⟩ ?_
        refine ⟨?_, rfl⟩
        first
          | exact jbf (fun q => q.1 h13)
          | exact jbf (fun q => jb_eq0 h24 q.2.1)
          | exact jbf (fun q => jb_eq0 h35 q.2.2)
          | exact jbt ⟨h13, jb_ne0 h24, jb_ne0 h35⟩
      · refine jm_aload_n (pc := 27) dG_ground_27 rfl ?_
        refine jm_getl (pc := 28) lG_155 dG_ground_28 rfl (fun _ => rfl) ?_
        rw [h13_]
        refine jm_iload_n (pc := 31) dG_ground_31 rfl ?_
        refine jm_callS (pc := 32) (c_G_holds (d := d - 1) S0 k) fG_holds sG_holds cG_93 dG_ground_32 rfl (by omega) ⟨Nat.le_refl _, Nat.le_refl _⟩ rfl (Nat.le_of_ble_eq_true rfl) (fun v s2 hq => ?_)
        obtain ⟨rfl, rfl⟩ := hq
        refine jm_if_eq (pc := 35) (tgt := 42) dG_ground_35 (by decide) (fun h35 => ?_) (fun h35 => ?_)
        · refine jm_iconst (pc := 42) (v := 0) dG_ground_42 (by decide) ?_
          refine jm_zret (pc := 43) dG_ground_43 rfl (by first | exact Or.inl rfl | exact Or.inr rfl | assumption) ⟨Nat.le_refl _, Nat.le_refl _⟩ ?_
          refine ⟨?_, rfl⟩
          first
            | exact jbf (fun q => q.1 h13)
            | exact jbf (fun q => jb_eq0 h24 q.2.1)
            | exact jbf (fun q => jb_eq0 h35 q.2.2)
            | exact jbt ⟨h13, jb_ne0 h24, jb_ne0 h35⟩
        · refine jm_iconst (pc := 38) (v := 1) dG_ground_38 (by decide) ?_
          refine jm_goto (pc := 39) (tgt := 43) dG_ground_39 (by decide) ?_
          refine jm_zret (pc := 43) dG_ground_43 rfl (by first | exact Or.inl rfl | exact Or.inr rfl | assumption) ⟨Nat.le_refl _, Nat.le_refl _⟩ ?_
          refine ⟨?_, rfl⟩
          first
            | exact jbf (fun q => q.1 h13)
            | exact jbf (fun q => jb_eq0 h24 q.2.1)
            | exact jbf (fun q => jb_eq0 h35 q.2.2)
            | exact jbt ⟨h13, jb_ne0 h24, jb_ne0 h35⟩
set_option maxRecDepth 100000 in
set_option maxHeartbeats 4000000 in
theorem c_G_outer_n {x k : Int32} (hF : CF st) (hA : CA E st) (hc : st.1 2 0 2 = nI (eN E)) (hx : ¬ isN (eN E) x) (hd : 1 ≤ d) : MC l D mG_outer d 0 0 [vR (some (4, 0)), vI x, vI k] st (fun v s' => v = some (vI 0) ∧ st = s') := by
  refine jm_start (ls0 := [some (vR (some (4, 0))), some (vI x), some (vI k), none]) (by decide) (Nat.le_of_ble_eq_true rfl) rfl ?_
  obtain ⟨k0_, k1_, k2_, k3_, k4_, k5_, k6_⟩ := hF
  refine jm_aload_n (pc := 0) dG_outer_0 rfl ?_
  refine jm_getq (pc := 1) lG_19 dG_outer_1 rfl rfl (k1_) ?_
  refine jm_iload_n (pc := 4) dG_outer_4 rfl ?_
  refine jm_callV (pc := 5) (c_T_find_n (d := d - 1) (n := eN E) hc hx) fT_find vT_find cG_72 dG_outer_5 rfl rfl rfl rfl (by omega) ⟨Nat.le_refl _, Nat.le_refl _⟩ rfl (Nat.le_of_ble_eq_true rfl) (fun v s2 hq => ?_)
  obtain ⟨rfl, rfl⟩ := hq
  refine jm_astore_n (pc := 8) dG_outer_8 (by decide) ?_
  refine jm_aload_n (pc := 9) dG_outer_9 rfl ?_
  refine jm_ifnull (pc := 10) (tgt := 40) dG_outer_10 (by decide) (fun h10 => ?_) (fun q10 h10 => ?_)
  · refine jm_iconst (pc := 40) (v := 0) dG_outer_40 (by decide) ?_
    refine jm_zret (pc := 41) dG_outer_41 rfl (by first | exact Or.inl rfl | exact Or.inr rfl | assumption) ⟨Nat.le_refl _, Nat.le_refl _⟩ ?_
    exact ⟨rfl, rfl⟩
  · cases h10
set_option maxRecDepth 100000 in
set_option maxHeartbeats 4000000 in
theorem c_G_outer {i : Nat} {k : Int32} {w S0 : Int64} (hF : CF st) (hA : CA E st) (hc : st.1 2 0 2 = nI (eN E)) (hi : i < eN E) (hw : st.2.1 4 0 6 = w) (h12 : st.2.1 0 i 12 ||| w = S0) (hd : 1 ≤ d) : MC l D mG_outer d 0 0 [vR (some (4, 0)), vI (nI i), vI k] st (fun v s' => v = some (vI (jb (isV k ∧ ¬ hB S0 k = 0))) ∧ st = s') := by
  refine jm_start (ls0 := [some (vR (some (4, 0))), some (vI (nI i)), some (vI k), none]) (by decide) (Nat.le_of_ble_eq_true rfl) rfl ?_
  obtain ⟨k0_, k1_, k2_, k3_, k4_, k5_, k6_⟩ := hF
  refine jm_aload_n (pc := 0) dG_outer_0 rfl ?_
  refine jm_getq (pc := 1) lG_19 dG_outer_1 rfl rfl (k1_) ?_
  refine jm_iload_n (pc := 4) dG_outer_4 rfl ?_
  refine jm_callV (pc := 5) (c_T_find (d := d - 1) (E := E) hc ⟨k0_, k1_, k2_, k3_, k4_, k5_, k6_⟩ hA hi) fT_find vT_find cG_72 dG_outer_5 rfl rfl rfl rfl (by omega) ⟨Nat.le_refl _, Nat.le_refl _⟩ rfl (Nat.le_of_ble_eq_true rfl) (fun v s2 hq => ?_)
  obtain ⟨rfl, rfl⟩ := hq
  refine jm_astore_n (pc := 8) dG_outer_8 (by decide) ?_
  refine jm_aload_n (pc := 9) dG_outer_9 rfl ?_
  refine jm_ifnull (pc := 10) (tgt := 40) dG_outer_10 (by decide) (fun h10 => ?_) (fun q10 h10 => ?_)
  · cases h10
  · refine jm_iload_n (pc := 13) dG_outer_13 rfl ?_
    refine jm_callS (pc := 14) (c_G_isVariable (d := d - 1) k) fG_isVariable sG_isVariable cG_68 dG_outer_14 rfl (by omega) ⟨Nat.le_refl _, Nat.le_refl _⟩ rfl (Nat.le_of_ble_eq_true rfl) (fun v s2 hq => ?_)
    obtain ⟨rfl, rfl⟩ := hq
    refine jm_if_eq (pc := 17) (tgt := 40) dG_outer_17 (by decide) (fun h17 => ?_) (fun h17 => ?_)
    · refine jm_iconst (pc := 40) (v := 0) dG_outer_40 (by decide) ?_
      refine jm_zret (pc := 41) dG_outer_41 rfl (by first | exact Or.inl rfl | exact Or.inr rfl | assumption) ⟨Nat.le_refl _, Nat.le_refl _⟩ ?_
      refine ⟨?_, rfl⟩
      first
        | exact jbf (fun q => jb_eq0 h17 q.1)
        | exact jbf (fun q => jb_eq0 h33 q.2)
        | exact jbt ⟨jb_ne0 h17, jb_ne0 h33⟩
    · refine jm_aload_n (pc := 20) dG_outer_20 rfl ?_
      refine jm_getl (pc := 21) lG_158 dG_outer_21 rfl (fun _ => rfl) ?_
      refine jm_aload_n (pc := 24) dG_outer_24 rfl ?_
      refine jm_getl (pc := 25) lG_44 dG_outer_25 rfl (fun _ => rfl) ?_
      rw [hw]
      refine jm_lor (pc := 28) dG_outer_28 ?_
      rw [h12]
      refine jm_iload_n (pc := 29) dG_outer_29 rfl ?_
      refine jm_callS (pc := 30) (c_G_holds (d := d - 1) S0 k) fG_holds sG_holds cG_93 dG_outer_30 rfl (by omega) ⟨Nat.le_refl _, Nat.le_refl _⟩ rfl (Nat.le_of_ble_eq_true rfl) (fun v s2 hq => ?_)
      obtain ⟨rfl, rfl⟩ := hq
      refine jm_if_eq (pc := 33) (tgt := 40) dG_outer_33 (by decide) (fun h33 => ?_) (fun h33 => ?_)
      · refine jm_iconst (pc := 40) (v := 0) dG_outer_40 (by decide) ?_
        refine jm_zret (pc := 41) dG_outer_41 rfl (by first | exact Or.inl rfl | exact Or.inr rfl | assumption) ⟨Nat.le_refl _, Nat.le_refl _⟩ ?_
        refine ⟨?_, rfl⟩
        first
          | exact jbf (fun q => jb_eq0 h17 q.1)
          | exact jbf (fun q => jb_eq0 h33 q.2)
          | exact jbt ⟨jb_ne0 h17, jb_ne0 h33⟩
      · refine jm_iconst (pc := 36) (v := 1) dG_outer_36 (by decide) ?_
        refine jm_goto (pc := 37) (tgt := 41) dG_outer_37 (by decide) ?_
        refine jm_zret (pc := 41) dG_outer_41 rfl (by first | exact Or.inl rfl | exact Or.inr rfl | assumption) ⟨Nat.le_refl _, Nat.le_refl _⟩ ?_
        refine ⟨?_, rfl⟩
        first
          | exact jbf (fun q => jb_eq0 h17 q.1)
          | exact jbf (fun q => jb_eq0 h33 q.2)
          | exact jbt ⟨jb_ne0 h17, jb_ne0 h33⟩
end CG5
