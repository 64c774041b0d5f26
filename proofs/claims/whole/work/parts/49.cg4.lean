section CG4
variable {l : Launch} {D : mD} {d : Nat} {st : aS} {E : EE}
set_option maxRecDepth 100000 in
set_option maxHeartbeats 4000000 in
theorem c_G_add_x {rm : Nat} {x s p : Int32} (hF : CF st) (hA : CA E st) (hc : st.1 2 0 2 = nI (eN E)) (hr : st.1 4 0 4 = nI rm) (hx : ¬ isN (eN E) x) (hd : 1 ≤ d) : MC l D mG_add d 2 27 [vR (some (4, 0)), vI x, vI s, vI p] st (fun v s' => v = some (vI (-1)) ∧ s' = (sI st 4 0 4 0)) := by
  refine jm_start (ls0 := [some (vR (some (4, 0))), some (vI x), some (vI s), some (vI p), none, none]) (by decide) (Nat.le_of_ble_eq_true rfl) rfl ?_
  obtain ⟨k0_, k1_, k2_, k3_, k4_, k5_, k6_⟩ := hF
  refine jm_aload_n (pc := 0) dG_add_0 rfl ?_
  refine jm_geti (pc := 1) lG_36 dG_add_1 rfl (fun _ => rfl) ?_
  rw [hr]
  refine jm_istore (pc := 4) dG_add_4 (by decide) ?_
  refine jm_aload_n (pc := 6) dG_add_6 rfl ?_
  refine jm_iconst (pc := 7) (v := 0) dG_add_7 (by decide) ?_
  refine jm_puti (pc := 8) pG_add_36 dG_add_8 rfl rfl ?_
  refine jm_aload_n (pc := 11) dG_add_11 rfl ?_
  refine jm_getq (pc := 12) lG_19 dG_add_12 rfl rfl (k1_) ?_
  refine jm_iload_n (pc := 15) dG_add_15 rfl ?_
  refine jm_callV (pc := 16) (c_T_find_n (d := d - 1) (n := eN E) ((sI_ne (by omega)).trans hc) hx) fT_find vT_find cG_72 dG_add_16 rfl rfl rfl rfl (by omega) (by decide) rfl (Nat.le_of_ble_eq_true rfl) (fun v s2 hq => ?_)
  obtain ⟨rfl, rfl⟩ := hq
  refine jm_astore (pc := 19) dG_add_19 (by decide) ?_
  refine jm_aload (pc := 21) dG_add_21 rfl ?_
  refine jm_ifnull (pc := 23) (tgt := 55) dG_add_23 (by decide) (fun h23 => ?_) (fun q23 h23 => ?_)
  · refine jm_iconst (pc := 55) (v := -1) dG_add_55 (by decide) ?_
    refine jm_iret (pc := 56) dG_add_56 rfl (by decide) ?_
    exact ⟨rfl, rfl⟩
  · cases h23
set_option maxRecDepth 100000 in
set_option maxHeartbeats 4000000 in
theorem c_G_add_f {rm i : Nat} {s p : Int32} {Fp : Prop} [Decidable Fp] (hF : CF st) (hA : CA E st) (hc : st.1 2 0 2 = nI (eN E)) (hr : st.1 4 0 4 = nI rm) (hT : TR E) (hi : i < eN E) (hN : st.1 0 i 3 = nI (eS E i) ∧ st.1 0 i 5 = nI (eD E i) ∧ st.1 0 i 6 = nI (eK E i).length) (hfit : MC l D mG_fits (d - 1) 0 0 [vR (some (4, 0)), vI s, vI p, vI (nI rm)] (sI st 4 0 4 0) (fun v s' => (sI st 4 0 4 0) = s' ∧ v = some (vI (jb Fp)))) (hx : ¬ (eN E < 250 ∧ tkP E i ∧ Fp)) (hd : 3 ≤ d) : MC l D mG_add d 2 27 [vR (some (4, 0)), vI (nI i), vI s, vI p] st (fun v s' => v = some (vI (-1)) ∧ s' = (sI st 4 0 4 0)) := by
  refine jm_start (ls0 := [some (vR (some (4, 0))), some (vI (nI i)), some (vI s), some (vI p), none, none]) (by decide) (Nat.le_of_ble_eq_true rfl) rfl ?_
  obtain ⟨k0_, k1_, k2_, k3_, k4_, k5_, k6_⟩ := hF
  refine jm_aload_n (pc := 0) dG_add_0 rfl ?_
  refine jm_geti (pc := 1) lG_36 dG_add_1 rfl (fun _ => rfl) ?_
  rw [hr]
  refine jm_istore (pc := 4) dG_add_4 (by decide) ?_
  refine jm_aload_n (pc := 6) dG_add_6 rfl ?_
  refine jm_iconst (pc := 7) (v := 0) dG_add_7 (by decide) ?_
  refine jm_puti (pc := 8) pG_add_36 dG_add_8 rfl rfl ?_
  refine jm_aload_n (pc := 11) dG_add_11 rfl ?_
  refine jm_getq (pc := 12) lG_19 dG_add_12 rfl rfl (k1_) ?_
  refine jm_iload_n (pc := 15) dG_add_15 rfl ?_
  refine jm_callV (pc := 16) (c_T_find (d := d - 1) (E := E) ((sI_ne (by omega)).trans hc) ⟨k0_, k1_, k2_, k3_, k4_, k5_, k6_⟩ ⟨hA.1, hA.2.1, hA.2.2.1, hA.2.2.2.1, fun j hj => ⟨(sI_ne (by omega)).trans (hA.2.2.2.2 j hj).1, (hA.2.2.2.2 j hj).2⟩⟩ hi) fT_find vT_find cG_72 dG_add_16 rfl rfl rfl rfl (by omega) (by decide) rfl (Nat.le_of_ble_eq_true rfl) (fun v s2 hq => ?_)
  obtain ⟨rfl, rfl⟩ := hq
  refine jm_astore (pc := 19) dG_add_19 (by decide) ?_
  refine jm_aload (pc := 21) dG_add_21 rfl ?_
  refine jm_ifnull (pc := 23) (tgt := 55) dG_add_23 (by decide) (fun h23 => ?_) (fun q23 h23 => ?_)
  · cases h23
  · refine jm_aload_n (pc := 26) dG_add_26 rfl ?_
    refine jm_getq (pc := 27) lG_19 dG_add_27 rfl rfl (k1_) ?_
    refine jm_callV (pc := 30) (c_T_isFull (d := d - 1) ((sI_ne (by omega)).trans hc) (Nat.le_trans hA.1 hA.2.1)) fT_isFull vT_isFull cG_76 dG_add_30 rfl rfl rfl rfl (by omega) (by decide) rfl (Nat.le_of_ble_eq_true rfl) (fun v s2 hq => ?_)
    obtain ⟨rfl, rfl⟩ := hq
    refine jm_if_ne (pc := 33) (tgt := 55) dG_add_33 (by decide) (fun h33 => ?_) (fun h33 => ?_)
    · refine jm_iconst (pc := 55) (v := -1) dG_add_55 (by decide) ?_
      refine jm_iret (pc := 56) dG_add_56 rfl (by decide) ?_
      exact ⟨rfl, rfl⟩
    · refine jm_aload (pc := 36) dG_add_36 rfl ?_
      refine jm_callV (pc := 38) (c_N_takesPart (d := d - 1) hT hi ((sI_ne (by omega)).trans hN.1) ((sI_ne (by omega)).trans hN.2.1) ((sI_ne (by omega)).trans hN.2.2) (by omega)) fN_takesPart vN_takesPart cG_80 dG_add_38 rfl rfl rfl rfl (by omega) (by decide) rfl (Nat.le_of_ble_eq_true rfl) (fun v s2 hq => ?_)
      obtain ⟨rfl, rfl⟩ := hq
      refine jm_if_eq (pc := 41) (tgt := 55) dG_add_41 (by decide) (fun h41 => ?_) (fun h41 => ?_)
      · refine jm_iconst (pc := 55) (v := -1) dG_add_55 (by decide) ?_
        refine jm_iret (pc := 56) dG_add_56 rfl (by decide) ?_
        exact ⟨rfl, rfl⟩
      · refine jm_aload_n (pc := 44) dG_add_44 rfl ?_
        refine jm_iload_n (pc := 45) dG_add_45 rfl ?_
        refine jm_iload_n (pc := 46) dG_add_46 rfl ?_
        refine jm_iload (pc := 47) dG_add_47 rfl ?_
        refine jm_callV (pc := 49) hfit fG_fits vG_fits cG_85 dG_add_49 rfl rfl rfl rfl (by omega) (by decide) rfl (Nat.le_of_ble_eq_true rfl) (fun v s2 hq => ?_)
        obtain ⟨rfl, rfl⟩ := hq
        refine jm_if_ne (pc := 52) (tgt := 57) dG_add_52 (by decide) (fun h52 => ?_) (fun h52 => ?_)
        · exact absurd ⟨Nat.lt_of_not_le (jb_eq0 h33), jb_ne0 h41, jb_ne0 h52⟩ hx
        · refine jm_iconst (pc := 55) (v := -1) dG_add_55 (by decide) ?_
          refine jm_iret (pc := 56) dG_add_56 rfl (by decide) ?_
          exact ⟨rfl, rfl⟩
set_option maxRecDepth 100000 in
set_option maxHeartbeats 4000000 in
theorem c_G_add_s {rm i : Nat} {s p : Int32} {Fp : Prop} [Decidable Fp] {Q : Option aV → aS → Prop} (hF : CF st) (hA : CA E st) (hc : st.1 2 0 2 = nI (eN E)) (hr : st.1 4 0 4 = nI rm) (hT : TR E) (hi : i < eN E) (hN : st.1 0 i 3 = nI (eS E i) ∧ st.1 0 i 5 = nI (eD E i) ∧ st.1 0 i 6 = nI (eK E i).length) (hfit : MC l D mG_fits (d - 1) 0 0 [vR (some (4, 0)), vI s, vI p, vI (nI rm)] (sI st 4 0 4 0) (fun v s' => (sI st 4 0 4 0) = s' ∧ v = some (vI (jb Fp)))) (hx : eN E < 250 ∧ tkP E i ∧ Fp) (hg : MC l D mT_grow (d - 1) 2 27 [vR (some (2, 0)), vR (some (0, i)), vI s, vI p, vR (some (11, 0)), vI (nI rm)] (fgt (sI st 4 0 4 0)) Q) (hv : ∀ v s', Q v s' → ∃ b : Int32, v = some (vI b)) (hd : 3 ≤ d) : MC l D mG_add d 2 27 [vR (some (4, 0)), vI (nI i), vI s, vI p] st (Q) := by
  refine jm_start (ls0 := [some (vR (some (4, 0))), some (vI (nI i)), some (vI s), some (vI p), none, none]) (by decide) (Nat.le_of_ble_eq_true rfl) rfl ?_
  obtain ⟨k0_, k1_, k2_, k3_, k4_, k5_, k6_⟩ := hF
  refine jm_aload_n (pc := 0) dG_add_0 rfl ?_
  refine jm_geti (pc := 1) lG_36 dG_add_1 rfl (fun _ => rfl) ?_
  rw [hr]
  refine jm_istore (pc := 4) dG_add_4 (by decide) ?_
  refine jm_aload_n (pc := 6) dG_add_6 rfl ?_
  refine jm_iconst (pc := 7) (v := 0) dG_add_7 (by decide) ?_
  refine jm_puti (pc := 8) pG_add_36 dG_add_8 rfl rfl ?_
  refine jm_aload_n (pc := 11) dG_add_11 rfl ?_
  refine jm_getq (pc := 12) lG_19 dG_add_12 rfl rfl (k1_) ?_
  refine jm_iload_n (pc := 15) dG_add_15 rfl ?_
  refine jm_callV (pc := 16) (c_T_find (d := d - 1) (E := E) ((sI_ne (by omega)).trans hc) ⟨k0_, k1_, k2_, k3_, k4_, k5_, k6_⟩ ⟨hA.1, hA.2.1, hA.2.2.1, hA.2.2.2.1, fun j hj => ⟨(sI_ne (by omega)).trans (hA.2.2.2.2 j hj).1, (hA.2.2.2.2 j hj).2⟩⟩ hi) fT_find vT_find cG_72 dG_add_16 rfl rfl rfl rfl (by omega) (by decide) rfl (Nat.le_of_ble_eq_true rfl) (fun v s2 hq => ?_)
  obtain ⟨rfl, rfl⟩ := hq
  refine jm_astore (pc := 19) dG_add_19 (by decide) ?_
  refine jm_aload (pc := 21) dG_add_21 rfl ?_
  refine jm_ifnull (pc := 23) (tgt := 55) dG_add_23 (by decide) (fun h23 => ?_) (fun q23 h23 => ?_)
  · cases h23
  · refine jm_aload_n (pc := 26) dG_add_26 rfl ?_
    refine jm_getq (pc := 27) lG_19 dG_add_27 rfl rfl (k1_) ?_
    refine jm_callV (pc := 30) (c_T_isFull (d := d - 1) ((sI_ne (by omega)).trans hc) (Nat.le_trans hA.1 hA.2.1)) fT_isFull vT_isFull cG_76 dG_add_30 rfl rfl rfl rfl (by omega) (by decide) rfl (Nat.le_of_ble_eq_true rfl) (fun v s2 hq => ?_)
    obtain ⟨rfl, rfl⟩ := hq
    refine jm_if_ne (pc := 33) (tgt := 55) dG_add_33 (by decide) (fun h33 => ?_) (fun h33 => ?_)
    · exact absurd (jb_ne0 h33) (by have := hx.1; omega)
    · refine jm_aload (pc := 36) dG_add_36 rfl ?_
      refine jm_callV (pc := 38) (c_N_takesPart (d := d - 1) hT hi ((sI_ne (by omega)).trans hN.1) ((sI_ne (by omega)).trans hN.2.1) ((sI_ne (by omega)).trans hN.2.2) (by omega)) fN_takesPart vN_takesPart cG_80 dG_add_38 rfl rfl rfl rfl (by omega) (by decide) rfl (Nat.le_of_ble_eq_true rfl) (fun v s2 hq => ?_)
      obtain ⟨rfl, rfl⟩ := hq
      refine jm_if_eq (pc := 41) (tgt := 55) dG_add_41 (by decide) (fun h41 => ?_) (fun h41 => ?_)
      · exact absurd hx.2.1 (jb_eq0 h41)
      · refine jm_aload_n (pc := 44) dG_add_44 rfl ?_
        refine jm_iload_n (pc := 45) dG_add_45 rfl ?_
        refine jm_iload_n (pc := 46) dG_add_46 rfl ?_
        refine jm_iload (pc := 47) dG_add_47 rfl ?_
        refine jm_callV (pc := 49) hfit fG_fits vG_fits cG_85 dG_add_49 rfl rfl rfl rfl (by omega) (by decide) rfl (Nat.le_of_ble_eq_true rfl) (fun v s2 hq => ?_)
        obtain ⟨rfl, rfl⟩ := hq
        refine jm_if_ne (pc := 52) (tgt := 57) dG_add_52 (by decide) (fun h52 => ?_) (fun h52 => ?_)
        · refine jm_aload_n (pc := 57) dG_add_57 rfl ?_
          refine jm_callV (pc := 58) (c_G_forgetOrdering (d := d - 1)) fG_forgetOrdering vG_forgetOrdering cG_62 dG_add_58 rfl rfl rfl rfl (by omega) (by decide) rfl (Nat.le_of_ble_eq_true rfl) (fun v s2 hq => ?_)
          obtain ⟨rfl, rfl⟩ := hq
          refine jm_aload_n (pc := 61) dG_add_61 rfl ?_
          refine jm_getq (pc := 62) lG_19 dG_add_62 rfl rfl (k1_) ?_
          refine jm_aload (pc := 65) dG_add_65 rfl ?_
          refine jm_iload_n (pc := 67) dG_add_67 rfl ?_
          refine jm_iload_n (pc := 68) dG_add_68 rfl ?_
          refine jm_aload_n (pc := 69) dG_add_69 rfl ?_
          refine jm_getq (pc := 70) lG_32 dG_add_70 rfl rfl (k3_) ?_
          refine jm_iload (pc := 73) dG_add_73 rfl ?_
          refine jm_callV (pc := 75) hg fT_grow vT_grow cG_89 dG_add_75 rfl rfl rfl rfl (by omega) (by decide) rfl (Nat.le_of_ble_eq_true rfl) (fun v s2 hq => ?_)
          obtain ⟨b, rfl⟩ := hv _ _ hq
          refine jm_iret (pc := 78) dG_add_78 rfl (by decide) ?_
          exact hq
        · exact absurd hx.2.2 (jb_eq0 h52)
/-- the least variable of a set, from k on -/
def lsF (S : Int64) : Nat → Nat → Option Nat
  | 0, _ => none
  | n + 1, k => if ¬ hB S (nI k) = 0 then some k else lsF S n (k + 1)
set_option maxRecDepth 100000 in
set_option maxHeartbeats 4000000 in
theorem lp_G_leastOf {S : Int64} (hd : 1 ≤ d) : ∀ (n k : Nat), k + n = 60 → MS l D mG_leastOf d 0 0 (fun v s' => st = s' ∧ v = some (vI (nx (lsF S n k)))) 0 0 2 [some (vL S), none, some (vI (nI k))] [] st := by
  intro n
  induction n with
  | zero =>
    intro k hk
    obtain rfl : k = 60 := by omega
    refine jm_iload_n (pc := 2) dG_leastOf_2 rfl ?_
    refine jm_bipush (pc := 3) (v := 60) dG_leastOf_3 (by decide) ?_
    refine jm_icmp_ge (pc := 5) (tgt := 24) dG_leastOf_5 (by decide) (fun h5 => ?_) (fun h5 => ?_)
    · refine jm_iconst (pc := 24) (v := -1) dG_leastOf_24 (by decide) ?_
      refine jm_iret (pc := 25) dG_leastOf_25 rfl ⟨Nat.le_refl _, Nat.le_refl _⟩ ?_
      exact ⟨rfl, rfl⟩
    · exact absurd (by decide) h5
  | succ n ih =>
    intro k hk
    refine jm_iload_n (pc := 2) dG_leastOf_2 rfl ?_
    refine jm_bipush (pc := 3) (v := 60) dG_leastOf_3 (by decide) ?_
    refine jm_icmp_ge (pc := 5) (tgt := 24) dG_leastOf_5 (by decide) (fun h5 => ?_) (fun h5 => ?_)
    · exact absurd h5 (nI_ge (b := 60) (by omega) (by decide))
    · refine jm_lload_n (pc := 8) dG_leastOf_8 rfl ?_
      refine jm_iload_n (pc := 9) dG_leastOf_9 rfl ?_
      refine jm_callS (pc := 10) (c_G_holds (d := d - 1) S (nI k)) fG_holds sG_holds cG_93 dG_leastOf_10 rfl (by omega) ⟨Nat.le_refl _, Nat.le_refl _⟩ rfl (Nat.le_of_ble_eq_true rfl) (fun v s2 hq => ?_)
      obtain ⟨rfl, rfl⟩ := hq
      refine jm_if_eq (pc := 13) (tgt := 18) dG_leastOf_13 (by decide) (fun h13 => ?_) (fun h13 => ?_)
      · refine jm_iinc (pc := 18) dG_leastOf_18 rfl (by decide) ?_
        refine jm_goto (pc := 21) (tgt := 2) dG_leastOf_21 (by decide) ?_
        rw [show nI k + Int32.ofInt 1 = nI (k + 1) from ni1 k]
        exact MS.mono (ih (k + 1) (by omega)) (fun v s9 h => ⟨h.1, by rw [h.2]; show _ = some (vI (nx (if ¬ hB S (nI k) = 0 then some k else lsF S n (k + 1)))); rw [if_neg (jb_eq0 h13)]⟩)
      · refine jm_iload_n (pc := 16) dG_leastOf_16 rfl ?_
        refine jm_iret (pc := 17) dG_leastOf_17 rfl ⟨Nat.le_refl _, Nat.le_refl _⟩ ?_
        exact ⟨rfl, by show _ = some (vI (nx (if ¬ hB S (nI k) = 0 then some k else lsF S n (k + 1)))); rw [if_pos (jb_ne0 h13)]; rfl⟩
set_option maxRecDepth 100000 in
set_option maxHeartbeats 4000000 in
theorem c_G_leastOf {S : Int64} (hd : 1 ≤ d) : MC l D mG_leastOf d 0 0 [vL S] st (fun v s' => st = s' ∧ v = some (vI (nx (lsF S 60 0)))) := by
  refine jm_start (ls0 := [some (vL S), none, none]) (by decide) (Nat.le_of_ble_eq_true rfl) rfl ?_
  refine jm_iconst (pc := 0) (v := 0) dG_leastOf_0 (by decide) ?_
  refine jm_istore_n (pc := 1) dG_leastOf_1 (by decide) ?_
  exact lp_G_leastOf hd 60 0 (by omega)
set_option maxRecDepth 100000 in
set_option maxHeartbeats 4000000 in
theorem c_R_run {g w : Int64} (hT : TC E (sI (sI (sL st 3 0 1 w) 3 0 2 0) 3 0 3 0)) (h0 : 0 < eN E) (hD : eD E 0 = 0) (hd : 70 ≤ d) : MC l D mR_run d 0 0 [vR (some (3, 0)), vR (some (0, 0)), vL g, vL w] st (cQ E 0 g 21 0 (sI (sI (sL st 3 0 1 w) 3 0 2 0) 3 0 3 0)) := by
  refine jm_start (ls0 := [some (vR (some (3, 0))), some (vR (some (0, 0))), some (vL g), none, some (vL w), none]) (by decide) (Nat.le_of_ble_eq_true rfl) rfl ?_
  refine jm_aload_n (pc := 0) dR_run_0 rfl ?_
  refine jm_lload (pc := 1) dR_run_1 rfl ?_
  refine jm_putl (pc := 3) pR_run_15 dR_run_3 rfl rfl ?_
  refine jm_aload_n (pc := 6) dR_run_6 rfl ?_
  refine jm_iconst (pc := 7) (v := 0) dR_run_7 (by decide) ?_
  refine jm_puti (pc := 8) pR_run_19 dR_run_8 rfl rfl ?_
  refine jm_aload_n (pc := 11) dR_run_11 rfl ?_
  refine jm_iconst (pc := 12) (v := 0) dR_run_12 (by decide) ?_
  refine jm_putz (pc := 13) pR_run_23 dR_run_13 rfl rfl (by first | exact Or.inl rfl | exact Or.inr rfl | assumption) ?_
  refine jm_aload_n (pc := 16) dR_run_16 rfl ?_
  refine jm_aload_n (pc := 17) dR_run_17 rfl ?_
  refine jm_lload_n (pc := 18) dR_run_18 rfl ?_
  refine jm_callV (pc := 19) (c_canDo (E := E) 21 (d - 1) (by omega) (sI (sI (sL st 3 0 1 w) 3 0 2 0) 3 0 3 0) 0 g 0 hT h0 (by omega) ((sI_ne (by omega)).trans sI_eq) (by omega)) fR_canDo vR_canDo cR_27 dR_run_19 rfl rfl rfl rfl (by omega) ⟨Nat.le_refl _, Nat.le_refl _⟩ rfl (Nat.le_of_ble_eq_true rfl) (fun v s2 hq => ?_)
  obtain ⟨b, rfl, hb⟩ := cQ_v hq
  refine jm_zret (pc := 22) dR_run_22 rfl (hb) ⟨Nat.le_refl _, Nat.le_refl _⟩ ?_
  exact hq
/-- what order() of the class leaves -/
def coQ (E : EE) (g w : Int64) (st : aS) (v : Option aV) (s' : aS) : Prop := ∃ s1, TF E 0 (sI (sI (sL (fgt st) 3 0 1 w) 3 0 2 0) 3 0 3 0) s1 ∧ ((20000 < (tryF E 21 0 g).2 ∧ v = some (vI 3) ∧ s' = s1) ∨ ((tryF E 21 0 g).2 ≤ 20000 ∧ ((∃ k, (tryF E 21 0 g).1 = .inr k ∧ v = some (vI 1) ∧ s' = sI s1 4 0 8 (nI k)) ∨ ∃ B, (tryF E 21 0 g).1 = .inl B ∧ gd E s1 (finF E 21 0 g) ∧ ((¬ w &&& nt B = 0 ∧ v = some (vI 2) ∧ s' = sI s1 4 0 8 (nx (lsF (w &&& nt B) 60 0))) ∨ (w &&& nt B = 0 ∧ v = some (vI 0) ∧ s' = sI s1 4 0 7 1)))))
set_option maxRecDepth 100000 in
set_option maxHeartbeats 4000000 in
theorem c_G_order {g w : Int64} (hF : CF st) (hg : st.2.1 4 0 5 = g) (hw : st.2.1 4 0 6 = w) (hT : TC E (sI (sI (sL (fgt st) 3 0 1 w) 3 0 2 0) 3 0 3 0)) (h0 : 0 < eN E) (hD : eD E 0 = 0) (hd : 71 ≤ d) : MC l D mG_order d 0 0 [vR (some (4, 0))] st (coQ E g w st) := by
  refine jm_start (ls0 := [some (vR (some (4, 0))), none, none, none, none]) (by decide) (Nat.le_of_ble_eq_true rfl) rfl ?_
  obtain ⟨k0_, k1_, k2_, k3_, k4_, k5_, k6_⟩ := hF
  refine jm_aload_n (pc := 0) dG_order_0 rfl ?_
  refine jm_callV (pc := 1) (c_G_forgetOrdering (d := d - 1)) fG_forgetOrdering vG_forgetOrdering cG_62 dG_order_1 rfl rfl rfl rfl (by omega) ⟨Nat.le_refl _, Nat.le_refl _⟩ rfl (Nat.le_of_ble_eq_true rfl) (fun v s2 hq => ?_)
  obtain ⟨rfl, rfl⟩ := hq
  refine jm_aload_n (pc := 4) dG_order_4 rfl ?_
  refine jm_getq (pc := 5) lG_19 dG_order_5 rfl rfl (k1_) ?_
  refine jm_getq (pc := 8) lG_97 dG_order_8 rfl rfl (k5_) ?_
  refine jm_astore_n (pc := 11) dG_order_11 (by decide) ?_
  refine jm_aload_n (pc := 12) dG_order_12 rfl ?_
  refine jm_getq (pc := 13) lG_28 dG_order_13 rfl rfl (k2_) ?_
  refine jm_aload_n (pc := 16) dG_order_16 rfl ?_
  refine jm_aload_n (pc := 17) dG_order_17 rfl ?_
  refine jm_getl (pc := 18) lG_40 dG_order_18 rfl (fun _ => rfl) ?_
  rw [show (fgt st).2.1 4 0 5 = g from hg]
  refine jm_aload_n (pc := 21) dG_order_21 rfl ?_
  refine jm_getl (pc := 22) lG_44 dG_order_22 rfl (fun _ => rfl) ?_
  rw [show (fgt st).2.1 4 0 6 = w from hw]
  refine jm_callV (pc := 25) (c_R_run (d := d - 1) (E := E) hT h0 hD (by omega)) fR_run vR_run cG_101 dG_order_25 rfl rfl rfl rfl (by omega) ⟨Nat.le_refl _, Nat.le_refl _⟩ rfl (Nat.le_of_ble_eq_true rfl) (fun v s2 hq => ?_)
  obtain ⟨b, rfl, hb⟩ := cQ_v hq
  have hq0 := hq
  rename aS => s3
  refine jm_istore_n (pc := 28) dG_order_28 (by decide) ?_
  refine jm_aload_n (pc := 29) dG_order_29 rfl ?_
  refine jm_getq (pc := 30) lG_28 dG_order_30 rfl rfl ((hq.1.1.2.2.2 4 0 2 (by omega)).trans k2_) ?_
  refine jm_geti (pc := 33) lG_105 dG_order_33 rfl (fun _ => rfl) ?_
  refine jm_if_eq (pc := 36) (tgt := 41) dG_order_36 (by decide) (fun h36 => ?_) (fun h36 => ?_)
  · refine jm_iload_n (pc := 41) dG_order_41 rfl ?_
    refine jm_if_ne (pc := 42) (tgt := 55) dG_order_42 (by decide) (fun h42 => ?_) (fun h42 => ?_)
    · refine jm_aload_n (pc := 55) dG_order_55 rfl ?_
      refine jm_getl (pc := 56) lG_44 dG_order_56 rfl (fun _ => rfl) ?_
      rw [hq.1.1.2.2.1 4 0 6 (by omega), show (sI (sI (sL (fgt st) 3 0 1 w) 3 0 2 0) 3 0 3 0).2.1 4 0 6 = w from (sL_ne (by omega)).trans hw]
      refine jm_aload_n (pc := 59) dG_order_59 rfl ?_
      refine jm_getl (pc := 60) lG_111 dG_order_60 rfl (fun _ => rfl) ?_
      refine jm_ldc2 (pc := 63) dG_order_63 klG_114 ?_
      refine jm_lxor (pc := 66) dG_order_66 ?_
      refine jm_land (pc := 67) dG_order_67 ?_
      refine jm_lstore_n (pc := 68) dG_order_68 (by decide) ?_
      refine jm_lload_n (pc := 69) dG_order_69 rfl ?_
      refine jm_lconst (pc := 70) (v := 0) dG_order_70 (by decide) ?_
      refine jm_lcmp (pc := 71) dG_order_71 ?_
      refine jm_if_eq (pc := 72) (tgt := 85) dG_order_72 (by decide) (fun h72 => ?_) (fun h72 => ?_)
      · refine jm_aload_n (pc := 85) dG_order_85 rfl ?_
        refine jm_iconst (pc := 86) (v := 1) dG_order_86 (by decide) ?_
        refine jm_putz (pc := 87) pG_order_47 dG_order_87 rfl rfl (by first | exact Or.inl rfl | exact Or.inr rfl | assumption) ?_
        refine jm_iconst (pc := 90) (v := 0) dG_order_90 (by decide) ?_
        refine jm_iret (pc := 91) dG_order_91 rfl ⟨Nat.le_refl _, Nat.le_refl _⟩ ?_
        obtain ⟨tf, ⟨nm, rq⟩ | ov⟩ := hq0
        · refine ⟨_, tf, Or.inr ⟨by have := nm.1; omega, Or.inr ?_⟩⟩
          unfold rQ at rq
          cases hr : (tryF E 21 0 g).1 with
          | inr k =>
            rw [hr] at rq
            exact absurd (by simpa using rq.1) h42
          | inl B =>
            rw [hr] at rq
            have eB : s3.2.1 0 0 14 = B := rq.2.1
            subst eB
            refine ⟨_, rfl, rq.2.2.2, ?_⟩
            exact Or.inr ⟨lg0.mp h72, rfl, rfl⟩
        · rw [ov.2.2.1] at h36
          exact absurd h36 (by decide)
      · refine jm_aload_n (pc := 75) dG_order_75 rfl ?_
        refine jm_lload_n (pc := 76) dG_order_76 rfl ?_
        refine jm_callS (pc := 77) (c_G_leastOf (d := d - 1) (by omega)) fG_leastOf sG_leastOf cG_116 dG_order_77 rfl (by omega) ⟨Nat.le_refl _, Nat.le_refl _⟩ rfl (Nat.le_of_ble_eq_true rfl) (fun v s2 hq => ?_)
        obtain ⟨rfl, rfl⟩ := hq
        refine jm_puti (pc := 80) pG_order_51 dG_order_80 rfl rfl ?_
        refine jm_iconst (pc := 83) (v := 2) dG_order_83 (by decide) ?_
        refine jm_iret (pc := 84) dG_order_84 rfl ⟨Nat.le_refl _, Nat.le_refl _⟩ ?_
        obtain ⟨tf, ⟨nm, rq⟩ | ov⟩ := hq0
        · refine ⟨_, tf, Or.inr ⟨by have := nm.1; omega, Or.inr ?_⟩⟩
          unfold rQ at rq
          cases hr : (tryF E 21 0 g).1 with
          | inr k =>
            rw [hr] at rq
            exact absurd (by simpa using rq.1) h42
          | inl B =>
            rw [hr] at rq
            have eB : s3.2.1 0 0 14 = B := rq.2.1
            subst eB
            refine ⟨_, rfl, rq.2.2.2, ?_⟩
            exact Or.inl ⟨fun z => h72 (lg0.mpr z), rfl, rfl⟩
        · rw [ov.2.2.1] at h36
          exact absurd h36 (by decide)
    · refine jm_aload_n (pc := 45) dG_order_45 rfl ?_
      refine jm_aload_n (pc := 46) dG_order_46 rfl ?_
      refine jm_geti (pc := 47) lG_108 dG_order_47 rfl (fun _ => rfl) ?_
      refine jm_puti (pc := 50) pG_order_51 dG_order_50 rfl rfl ?_
      refine jm_iconst (pc := 53) (v := 1) dG_order_53 (by decide) ?_
      refine jm_iret (pc := 54) dG_order_54 rfl ⟨Nat.le_refl _, Nat.le_refl _⟩ ?_
      obtain ⟨tf, ⟨nm, rq⟩ | ov⟩ := hq
      · refine ⟨_, tf, Or.inr ⟨by have := nm.1; omega, Or.inl ?_⟩⟩
        unfold rQ at rq
        cases hr : (tryF E 21 0 g).1 with
        | inl B =>
          rw [hr] at rq
          exact absurd (by simpa using rq.1) (show ¬ b = 1 from fun z => absurd (h42.symm.trans z) (by decide))
        | inr k =>
          rw [hr] at rq
          exact ⟨k, rfl, rfl, by rw [rq.2]⟩
      · rw [ov.2.2.1] at h36
        exact absurd h36 (by decide)
  · refine jm_iconst (pc := 39) (v := 3) dG_order_39 (by decide) ?_
    refine jm_iret (pc := 40) dG_order_40 rfl ⟨Nat.le_refl _, Nat.le_refl _⟩ ?_
    obtain ⟨tf, ⟨nm, rq⟩ | ov⟩ := hq
    · exact absurd (nm.2.2.trans sI_eq) h36
    · exact ⟨_, tf, Or.inl ⟨by have := ov.1; omega, rfl, rfl⟩⟩
end CG4
