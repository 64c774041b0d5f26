section CG3
variable {l : Launch} {D : mD} {d : Nat} {st : aS}
set_option maxRecDepth 100000 in
set_option maxHeartbeats 4000000 in
theorem c_T_spread {n up : Nat} {P : Nat → Nat} {V : Int64} (hn : n < 250) (hPle : ∀ j, P j ≤ j) (hPn : P n = up) (hup : up < n) (hr : st.2.2.1 2 0 1 = some 0) (hA : ∀ i, i < n → st.2.2.1 10 0 i = some i) (hpp : ∀ i, i < n → st.2.2.1 0 i 7 = if i = 0 then none else some (P i)) (hlt : ∀ i, 0 < i → i < n → P i < i) (h7 : st.2.2.1 0 n 7 = some up) (h0 : st.1 0 n 0 = nI n) (hV : st.2.1 0 n 11 = V) : MC l D mT_spreadVariables d 0 0 [vR (some (2, 0)), vR (some (0, n))] st (fun v s' => SPQ P n n V st s' ∧ v = none) := by
  refine jm_start (ls0 := [some (vR (some (2, 0))), some (vR (some (0, n))), none, none, none]) (by decide) (Nat.le_of_ble_eq_true rfl) rfl ?_
  refine jm_aload_n (pc := 0) dT_spreadVariables_0 rfl ?_
  refine jm_getr (pc := 1) lT_60 dT_spreadVariables_1 rfl rfl ?_
  rw [h7]
  refine jm_astore_n (pc := 4) dT_spreadVariables_4 (by decide) ?_
  refine jm_aload_n (pc := 5) dT_spreadVariables_5 rfl ?_
  refine jm_geti (pc := 6) lT_57 dT_spreadVariables_6 rfl (fun _ => rfl) ?_
  rw [h0]
  refine jm_iconst (pc := 9) (v := 1) dT_spreadVariables_9 (by decide) ?_
  refine jm_isub (pc := 10) dT_spreadVariables_10 ?_
  refine jm_istore_n (pc := 11) dT_spreadVariables_11 (by decide) ?_
  exact lp_T_spread hn hPle n (some up) none st (Nat.le_refl n) ⟨hup, fun j hj => by rw [subP_par (m := n) (by omega), hPn]⟩ hr hA hpp hlt hV
set_option maxRecDepth 100000 in
set_option maxHeartbeats 4000000 in
theorem ct_grow_0 {n up m dp len : Nat} {s p : Int32} {rv : Nat → Nat} {P : Nat → Nat}  {I0 : Int64} {uc us : Nat} (hn : n < 250) (hPle : ∀ j, P j ≤ j) (hPn : P n = up) (hup : up < n) (hr : st.2.2.1 2 0 1 = some 0) (hA : ∀ i, i < n → st.2.2.1 10 0 i = some i) (hpp : ∀ i, i < n → st.2.2.1 0 i 7 = if i = 0 then none else some (P i)) (hlt : ∀ i, 0 < i → i < n → P i < i) (hroot : st.2.2.1 2 0 0 = some 0) (hc : st.1 2 0 2 = nI n) (h00 : st.1 0 n 0 = nI n) (h01 : st.2.2.1 0 n 1 = some n) (hrow : ∀ j, j < m → st.1 11 0 j = nI (rv j)) (hm : m ≤ 7) (hD : st.1 0 up 5 = nI dp) (hL : st.1 0 up 6 = nI len) (hla : st.2.2.1 0 up 9 = none) (hI0 : st.2.1 0 0 11 = I0) (hd : 2 ≤ d) (hu1 : uc ≤ 2) (hu2 : us ≤ 27) : MS l D mT_grow d 2 27 (fun v s' => v = some (vI (nI n)) ∧ SPQ P n n (rowS m rv 0) (gq st n up s p rv m dp len none I0) s') uc us 49 [some (vR (some (2, 0))), some (vR (some (0, up))), some (vI s), some (vI p), some (vR (some (11, 0))), some (vI (nI m)), some (vR (some (0, n)))] [] st := by
  refine jm_aload (pc := 49) dT_grow_49 rfl ?_
  refine jm_iload_n (pc := 51) dT_grow_51 rfl ?_
  refine jm_iload_n (pc := 52) dT_grow_52 rfl ?_
  refine jm_callV (pc := 53) (c_N_become (d := d - 1) s p) fN_become vN_become cT_27 dT_grow_53 rfl rfl rfl rfl (by omega) ⟨hu1, hu2⟩ rfl (Nat.le_of_ble_eq_true rfl) (fun v s2 hq => ?_)
  obtain ⟨rfl, rfl⟩ := hq
  refine jm_aload (pc := 56) dT_grow_56 rfl ?_
  refine jm_aload_n (pc := 58) dT_grow_58 rfl ?_
  refine jm_getq (pc := 59) lT_14 dT_grow_59 rfl rfl ((bec_R (by omega)).trans hroot) ?_
  refine jm_getl (pc := 62) lT_39 dT_grow_62 rfl (fun _ => rfl) ?_
  rw [show (bec st n s p).2.1 0 0 11 = I0 from (bec_L (by omega)).trans hI0]
  refine jm_putl (pc := 65) pT_grow_43 dT_grow_65 rfl rfl ?_
  refine jm_aload (pc := 68) dT_grow_68 rfl ?_
  refine jm_aload (pc := 70) dT_grow_70 rfl ?_
  refine jm_iload (pc := 72) dT_grow_72 rfl ?_
  refine jm_callV (pc := 74) (c_N_takeVariables (d := d - 1) (rv := rv) hm (show (bec st n s p).2.2.1 0 n 1 = some n from bec_n1.trans h01) (by simp [bec, sL, sR, sI, u3]) (fun j hj => (show (bec st n s p).1 11 0 j = _ from (bec_I (by omega)).trans (hrow j hj)))) fN_takeVariables vN_takeVariables cT_46 dT_grow_74 rfl rfl rfl rfl (by omega) ⟨hu1, hu2⟩ rfl (Nat.le_of_ble_eq_true rfl) (fun v s2 hq => ?_)
  obtain ⟨rfl, rfl⟩ := hq
  refine jm_aload_n (pc := 77) dT_grow_77 rfl ?_
  refine jm_aload (pc := 78) dT_grow_78 rfl ?_
  refine jm_callV (pc := 80) (c_N_append_0 (d := d - 1) (u := up) (c := n) (dp := dp) (len := len) (by omega) (by rw [tvF_I _ _ _ _ _ (by omega) (by omega)]; exact (show (bec st n s p).1 0 up 5 = _ from (bec_I (by omega)).trans hD)) (by rw [tvF_I _ _ _ _ _ (by omega) (by omega)]; exact (show (bec st n s p).1 0 up 6 = _ from (bec_I (by omega)).trans hL)) (by rw [tvF_R]; exact (show (bec st n s p).2.2.1 0 up 9 = _ from (bec_R (by omega)).trans hla))) fN_append vN_append cT_50 dT_grow_80 rfl rfl rfl rfl (by omega) ⟨hu1, hu2⟩ rfl (Nat.le_of_ble_eq_true rfl) (fun v s2 hq => ?_)
  obtain ⟨rfl, rfl⟩ := hq
  refine jm_aload_n (pc := 83) dT_grow_83 rfl ?_
  refine jm_dup (pc := 84) dT_grow_84 rfl ?_
  refine jm_geti (pc := 85) lT_31 dT_grow_85 rfl (fun _ => rfl) ?_
  rw [show (apd (tvF n rv m 0 (sL (bec st n s p) 0 n 12 I0)) up n dp len none).1 2 0 2 = nI n from (apd_I (by omega) (by omega)).trans ((tvF_I _ _ _ _ _ (by omega) (by omega)).trans ((show (bec st n s p).1 2 0 2 = _ from (bec_I (by omega)).trans hc)))]
  refine jm_iconst (pc := 88) (v := 1) dT_grow_88 (by decide) ?_
  refine jm_iadd (pc := 89) dT_grow_89 ?_
  rw [show nI n + 1 = nI (n + 1) from nI_1 n]
  refine jm_puti (pc := 90) pT_grow_31 dT_grow_90 rfl rfl ?_
  refine jm_aload_n (pc := 93) dT_grow_93 rfl ?_
  refine jm_aload (pc := 94) dT_grow_94 rfl ?_
  refine jm_callV (pc := 96) (c_T_spread (d := d - 1) (st := (gq st n up s p rv m dp len none I0)) (V := rowS m rv 0) (P := P) (up := up) hn hPle hPn hup ((gq_R (by omega) (by omega)).trans hr) (fun i hi => (gq_R (by omega) (by omega)).trans (hA i hi)) (fun i hi => (gq_R (by omega) (by omega)).trans (hpp i hi)) hlt (gq_n7 (by omega)) ((gq_n (by omega)).2.2.2.trans h00) gq_11) fT_spreadVariables vT_spreadVariables cT_54 dT_grow_96 rfl rfl rfl rfl (by omega) ⟨hu1, hu2⟩ rfl (Nat.le_of_ble_eq_true rfl) (fun v s2 hq => ?_)
  obtain ⟨hq, rfl⟩ := hq
  refine jm_aload (pc := 99) dT_grow_99 rfl ?_
  refine jm_geti (pc := 101) lT_57 dT_grow_101 rfl (fun _ => rfl) ?_
  rw [show s2.1 0 n 0 = nI n from (congrArg (fun z => z 0 n 0) hq.1).trans ((gq_n (by omega)).2.2.2.trans h00)]
  refine jm_iret (pc := 104) dT_grow_104 rfl ⟨hu1, hu2⟩ ?_
  exact ⟨rfl, hq⟩
set_option maxRecDepth 100000 in
set_option maxHeartbeats 4000000 in
theorem ct_grow_1 {n up m dp len : Nat} {s p : Int32} {rv : Nat → Nat} {P : Nat → Nat} {z : Nat} {I0 : Int64} {uc us : Nat} (hn : n < 250) (hPle : ∀ j, P j ≤ j) (hPn : P n = up) (hup : up < n) (hr : st.2.2.1 2 0 1 = some 0) (hA : ∀ i, i < n → st.2.2.1 10 0 i = some i) (hpp : ∀ i, i < n → st.2.2.1 0 i 7 = if i = 0 then none else some (P i)) (hlt : ∀ i, 0 < i → i < n → P i < i) (hroot : st.2.2.1 2 0 0 = some 0) (hc : st.1 2 0 2 = nI n) (h00 : st.1 0 n 0 = nI n) (h01 : st.2.2.1 0 n 1 = some n) (hrow : ∀ j, j < m → st.1 11 0 j = nI (rv j)) (hm : m ≤ 7) (hD : st.1 0 up 5 = nI dp) (hL : st.1 0 up 6 = nI len) (hla : st.2.2.1 0 up 9 = (some z)) (hI0 : st.2.1 0 0 11 = I0) (hd : 2 ≤ d) (hu1 : uc ≤ 2) (hu2 : us ≤ 27) : MS l D mT_grow d 2 27 (fun v s' => v = some (vI (nI n)) ∧ SPQ P n n (rowS m rv 0) (gq st n up s p rv m dp len (some z) I0) s') uc us 49 [some (vR (some (2, 0))), some (vR (some (0, up))), some (vI s), some (vI p), some (vR (some (11, 0))), some (vI (nI m)), some (vR (some (0, n)))] [] st := by
  refine jm_aload (pc := 49) dT_grow_49 rfl ?_
  refine jm_iload_n (pc := 51) dT_grow_51 rfl ?_
  refine jm_iload_n (pc := 52) dT_grow_52 rfl ?_
  refine jm_callV (pc := 53) (c_N_become (d := d - 1) s p) fN_become vN_become cT_27 dT_grow_53 rfl rfl rfl rfl (by omega) ⟨hu1, hu2⟩ rfl (Nat.le_of_ble_eq_true rfl) (fun v s2 hq => ?_)
  obtain ⟨rfl, rfl⟩ := hq
  refine jm_aload (pc := 56) dT_grow_56 rfl ?_
  refine jm_aload_n (pc := 58) dT_grow_58 rfl ?_
  refine jm_getq (pc := 59) lT_14 dT_grow_59 rfl rfl ((bec_R (by omega)).trans hroot) ?_
  refine jm_getl (pc := 62) lT_39 dT_grow_62 rfl (fun _ => rfl) ?_
  rw [show (bec st n s p).2.1 0 0 11 = I0 from (bec_L (by omega)).trans hI0]
  refine jm_putl (pc := 65) pT_grow_43 dT_grow_65 rfl rfl ?_
  refine jm_aload (pc := 68) dT_grow_68 rfl ?_
  refine jm_aload (pc := 70) dT_grow_70 rfl ?_
  refine jm_iload (pc := 72) dT_grow_72 rfl ?_
  refine jm_callV (pc := 74) (c_N_takeVariables (d := d - 1) (rv := rv) hm (show (bec st n s p).2.2.1 0 n 1 = some n from bec_n1.trans h01) (by simp [bec, sL, sR, sI, u3]) (fun j hj => (show (bec st n s p).1 11 0 j = _ from (bec_I (by omega)).trans (hrow j hj)))) fN_takeVariables vN_takeVariables cT_46 dT_grow_74 rfl rfl rfl rfl (by omega) ⟨hu1, hu2⟩ rfl (Nat.le_of_ble_eq_true rfl) (fun v s2 hq => ?_)
  obtain ⟨rfl, rfl⟩ := hq
  refine jm_aload_n (pc := 77) dT_grow_77 rfl ?_
  refine jm_aload (pc := 78) dT_grow_78 rfl ?_
  refine jm_callV (pc := 80) (c_N_append_1 (d := d - 1) (u := up) (c := n) (dp := dp) (len := len) (by omega) (by rw [tvF_I _ _ _ _ _ (by omega) (by omega)]; exact (show (bec st n s p).1 0 up 5 = _ from (bec_I (by omega)).trans hD)) (by rw [tvF_I _ _ _ _ _ (by omega) (by omega)]; exact (show (bec st n s p).1 0 up 6 = _ from (bec_I (by omega)).trans hL)) (by rw [tvF_R]; exact (show (bec st n s p).2.2.1 0 up 9 = _ from (bec_R (by omega)).trans hla))) fN_append vN_append cT_50 dT_grow_80 rfl rfl rfl rfl (by omega) ⟨hu1, hu2⟩ rfl (Nat.le_of_ble_eq_true rfl) (fun v s2 hq => ?_)
  obtain ⟨rfl, rfl⟩ := hq
  refine jm_aload_n (pc := 83) dT_grow_83 rfl ?_
  refine jm_dup (pc := 84) dT_grow_84 rfl ?_
  refine jm_geti (pc := 85) lT_31 dT_grow_85 rfl (fun _ => rfl) ?_
  rw [show (apd (tvF n rv m 0 (sL (bec st n s p) 0 n 12 I0)) up n dp len (some z)).1 2 0 2 = nI n from (apd_I (by omega) (by omega)).trans ((tvF_I _ _ _ _ _ (by omega) (by omega)).trans ((show (bec st n s p).1 2 0 2 = _ from (bec_I (by omega)).trans hc)))]
  refine jm_iconst (pc := 88) (v := 1) dT_grow_88 (by decide) ?_
  refine jm_iadd (pc := 89) dT_grow_89 ?_
  rw [show nI n + 1 = nI (n + 1) from nI_1 n]
  refine jm_puti (pc := 90) pT_grow_31 dT_grow_90 rfl rfl ?_
  refine jm_aload_n (pc := 93) dT_grow_93 rfl ?_
  refine jm_aload (pc := 94) dT_grow_94 rfl ?_
  refine jm_callV (pc := 96) (c_T_spread (d := d - 1) (st := (gq st n up s p rv m dp len (some z) I0)) (V := rowS m rv 0) (P := P) (up := up) hn hPle hPn hup ((gq_R (by omega) (by omega)).trans hr) (fun i hi => (gq_R (by omega) (by omega)).trans (hA i hi)) (fun i hi => (gq_R (by omega) (by omega)).trans (hpp i hi)) hlt (gq_n7 (by omega)) ((gq_n (by omega)).2.2.2.trans h00) gq_11) fT_spreadVariables vT_spreadVariables cT_54 dT_grow_96 rfl rfl rfl rfl (by omega) ⟨hu1, hu2⟩ rfl (Nat.le_of_ble_eq_true rfl) (fun v s2 hq => ?_)
  obtain ⟨hq, rfl⟩ := hq
  refine jm_aload (pc := 99) dT_grow_99 rfl ?_
  refine jm_geti (pc := 101) lT_57 dT_grow_101 rfl (fun _ => rfl) ?_
  rw [show s2.1 0 n 0 = nI n from (congrArg (fun z => z 0 n 0) hq.1).trans ((gq_n (by omega)).2.2.2.trans h00)]
  refine jm_iret (pc := 104) dT_grow_104 rfl ⟨hu1, hu2⟩ ?_
  exact ⟨rfl, hq⟩
theorem ct_grow {n up m dp len : Nat} {s p : Int32} {rv : Nat → Nat} {P : Nat → Nat} {la : Option Nat} {I0 : Int64} {uc us : Nat} (hn : n < 250) (hPle : ∀ j, P j ≤ j) (hPn : P n = up) (hup : up < n) (hr : st.2.2.1 2 0 1 = some 0) (hA : ∀ i, i < n → st.2.2.1 10 0 i = some i) (hpp : ∀ i, i < n → st.2.2.1 0 i 7 = if i = 0 then none else some (P i)) (hlt : ∀ i, 0 < i → i < n → P i < i) (hroot : st.2.2.1 2 0 0 = some 0) (hc : st.1 2 0 2 = nI n) (h00 : st.1 0 n 0 = nI n) (h01 : st.2.2.1 0 n 1 = some n) (hrow : ∀ j, j < m → st.1 11 0 j = nI (rv j)) (hm : m ≤ 7) (hD : st.1 0 up 5 = nI dp) (hL : st.1 0 up 6 = nI len) (hla : st.2.2.1 0 up 9 = la) (hI0 : st.2.1 0 0 11 = I0) (hd : 2 ≤ d) (hu1 : uc ≤ 2) (hu2 : us ≤ 27) : MS l D mT_grow d 2 27 (fun v s' => v = some (vI (nI n)) ∧ SPQ P n n (rowS m rv 0) (gq st n up s p rv m dp len la I0) s') uc us 49 [some (vR (some (2, 0))), some (vR (some (0, up))), some (vI s), some (vI p), some (vR (some (11, 0))), some (vI (nI m)), some (vR (some (0, n)))] [] st := by
  cases la with
  | none => exact ct_grow_0 hn hPle hPn hup hr hA hpp hlt hroot hc h00 h01 hrow hm hD hL hla hI0 hd hu1 hu2
  | some z => exact ct_grow_1 hn hPle hPn hup hr hA hpp hlt hroot hc h00 h01 hrow hm hD hL hla hI0 hd hu1 hu2
set_option maxRecDepth 100000 in
set_option maxHeartbeats 4000000 in
theorem c_T_grow_r {n up m dp len : Nat} {s p : Int32} {rv : Nat → Nat} {P : Nat → Nat} {la : Option Nat} {I0 : Int64} (hn : n < 250) (hPle : ∀ j, P j ≤ j) (hPn : P n = up) (hup : up < n) (hr : st.2.2.1 2 0 1 = some 0) (hA : ∀ i, i < n → st.2.2.1 10 0 i = some i) (hpp : ∀ i, i < n → st.2.2.1 0 i 7 = if i = 0 then none else some (P i)) (hlt : ∀ i, 0 < i → i < n → P i < i) (hroot : st.2.2.1 2 0 0 = some 0) (hc : st.1 2 0 2 = nI n) (h00 : st.1 0 n 0 = nI n) (h01 : st.2.2.1 0 n 1 = some n) (hrow : ∀ j, j < m → st.1 11 0 j = nI (rv j)) (hm : m ≤ 7) (hD : st.1 0 up 5 = nI dp) (hL : st.1 0 up 6 = nI len) (hla : st.2.2.1 0 up 9 = la) (hI0 : st.2.1 0 0 11 = I0) (hd : 2 ≤ d) (hnn : st.2.2.1 10 0 n = some n) : MC l D mT_grow d 2 27 [vR (some (2, 0)), vR (some (0, up)), vI s, vI p, vR (some (11, 0)), vI (nI m)] st (fun v s' => v = some (vI (nI n)) ∧ SPQ P n n (rowS m rv 0) (gq st n up s p rv m dp len la I0) s') := by
  refine jm_start (ls0 := [some (vR (some (2, 0))), some (vR (some (0, up))), some (vI s), some (vI p), some (vR (some (11, 0))), some (vI (nI m)), none]) (by decide) (Nat.le_of_ble_eq_true rfl) rfl ?_
  refine jm_aload_n (pc := 0) dT_grow_0 rfl ?_
  refine jm_callV (pc := 1) (c_T_isFull (d := d - 1) hc (by omega)) fT_isFull vT_isFull cT_35 dT_grow_1 rfl rfl rfl rfl (by omega) (by decide) rfl (Nat.le_of_ble_eq_true rfl) (fun v s2 hq => ?_)
  obtain ⟨rfl, rfl⟩ := hq
  refine jm_if_eq (pc := 4) (tgt := 9) dT_grow_4 (by decide) (fun h4 => ?_) (fun h4 => ?_)
  · refine jm_aload_n (pc := 9) dT_grow_9 rfl ?_
    refine jm_getq (pc := 10) lT_20 dT_grow_10 rfl rfl (hr) ?_
    refine jm_aload_n (pc := 13) dT_grow_13 rfl ?_
    refine jm_geti (pc := 14) lT_31 dT_grow_14 rfl (fun _ => rfl) ?_
    rw [hc]
    refine jm_aald (pc := 17) dT_grow_17 rfl (by decide) rfl (fun _ => rfl) ?hin ?_
    case hin =>
      exact vp_in_nI (N := 250) (by omega) (by decide)
    rw [nI_clamp (by omega), hnn]
    refine jm_astore (pc := 18) dT_grow_18 (by decide) ?_
    refine jm_aload (pc := 20) dT_grow_20 rfl ?_
    refine jm_ifnonnull (pc := 22) (tgt := 49) dT_grow_22 (by decide) (fun q22 h22 => ?_) (fun h22 => ?_)
    · exact ct_grow hn hPle hPn hup hr hA hpp hlt hroot hc h00 h01 hrow hm hD hL hla hI0 hd (by decide) (by decide)
    · cases h22
  · exact absurd (jb_ne0 h4) (by omega)
set_option maxRecDepth 100000 in
set_option maxHeartbeats 4000000 in
theorem c_T_grow_n {n up m dp len : Nat} {s p : Int32} {rv : Nat → Nat} {P : Nat → Nat} {la : Option Nat} {I0 : Int64} (hn : n < 250) (hPle : ∀ j, P j ≤ j) (hPn : P n = up) (hup : up < n) (hr : st.2.2.1 2 0 1 = some 0) (hA : ∀ i, i < n → st.2.2.1 10 0 i = some i) (hpp : ∀ i, i < n → st.2.2.1 0 i 7 = if i = 0 then none else some (P i)) (hlt : ∀ i, 0 < i → i < n → P i < i) (hroot : st.2.2.1 2 0 0 = some 0) (hc : st.1 2 0 2 = nI n) (hrow : ∀ j, j < m → st.1 11 0 j = nI (rv j)) (hm : m ≤ 7) (hD : st.1 0 up 5 = nI dp) (hL : st.1 0 up 6 = nI len) (hla : st.2.2.1 0 up 9 = la) (hI0 : st.2.1 0 0 11 = I0) (hd : 2 ≤ d) (hnn : st.2.2.1 10 0 n = none) (hal0 : st.2.2.2 0 = n) (hal6 : st.2.2.2 6 = n) : MC l D mT_grow d 2 27 [vR (some (2, 0)), vR (some (0, up)), vI s, vI p, vR (some (11, 0)), vI (nI m)] st (fun v s' => v = some (vI (nI n)) ∧ SPQ P n n (rowS m rv 0) (gq (nw st n) n up s p rv m dp len la I0) s') := by
  refine jm_start (ls0 := [some (vR (some (2, 0))), some (vR (some (0, up))), some (vI s), some (vI p), some (vR (some (11, 0))), some (vI (nI m)), none]) (by decide) (Nat.le_of_ble_eq_true rfl) rfl ?_
  refine jm_aload_n (pc := 0) dT_grow_0 rfl ?_
  refine jm_callV (pc := 1) (c_T_isFull (d := d - 1) hc (by omega)) fT_isFull vT_isFull cT_35 dT_grow_1 rfl rfl rfl rfl (by omega) (by decide) rfl (Nat.le_of_ble_eq_true rfl) (fun v s2 hq => ?_)
  obtain ⟨rfl, rfl⟩ := hq
  refine jm_if_eq (pc := 4) (tgt := 9) dT_grow_4 (by decide) (fun h4 => ?_) (fun h4 => ?_)
  · refine jm_aload_n (pc := 9) dT_grow_9 rfl ?_
    refine jm_getq (pc := 10) lT_20 dT_grow_10 rfl rfl (hr) ?_
    refine jm_aload_n (pc := 13) dT_grow_13 rfl ?_
    refine jm_geti (pc := 14) lT_31 dT_grow_14 rfl (fun _ => rfl) ?_
    rw [hc]
    refine jm_aald (pc := 17) dT_grow_17 rfl (by decide) rfl (fun _ => rfl) ?hin ?_
    case hin =>
      exact vp_in_nI (N := 250) (by omega) (by decide)
    rw [nI_clamp (by omega), hnn]
    refine jm_astore (pc := 18) dT_grow_18 (by decide) ?_
    refine jm_aload (pc := 20) dT_grow_20 rfl ?_
    refine jm_ifnonnull (pc := 22) (tgt := 49) dT_grow_22 (by decide) (fun q22 h22 => ?_) (fun h22 => ?_)
    · cases h22
    · refine jm_new (pc := 25) (k := 0) dT_grow_25 rfl rfl nkT_9 niN nzN (by decide) ?_
      rw [hal0]
      refine jm_dup (pc := 28) dT_grow_28 rfl ?_
      refine jm_aload_n (pc := 29) dT_grow_29 rfl ?_
      refine jm_geti (pc := 30) lT_31 dT_grow_30 rfl (fun _ => rfl) ?_
      rw [show (sNew st 0).1 2 0 2 = nI n from (sNew_1 (by omega)).trans hc]
      refine jm_callI (pc := 33) (c_N_init (d := d - 1) (i := n) (st := sNew st 0) ((sNew_an (by decide)).trans hal6) (by omega)) fN_init rfl vN_init cT_11 dT_grow_33 rfl (by omega) (by decide) rfl (Nat.le_of_ble_eq_true rfl) (fun v s2 hq => ?_)
      obtain ⟨rfl, rfl⟩ := hq
      refine jm_astore (pc := 36) dT_grow_36 (by decide) ?_
      refine jm_aload_n (pc := 38) dT_grow_38 rfl ?_
      refine jm_getq (pc := 39) lT_20 dT_grow_39 rfl rfl ((sR_ne (by omega)).trans ((sNew_3 (by omega)).trans ((sNew_3 (by omega)).trans hr))) ?_
      refine jm_aload_n (pc := 42) dT_grow_42 rfl ?_
      refine jm_geti (pc := 43) lT_31 dT_grow_43 rfl (fun _ => rfl) ?_
      rw [show (sR (sNew (sI (sNew st 0) 0 n 0 (nI n)) 6) 0 n 1 (some n)).1 2 0 2 = nI n from (show (sNew (sI (sNew st 0) 0 n 0 (nI n)) 6).1 2 0 2 = nI n from ((sNew_1 (by omega)).trans ((sI_ne (by omega)).trans ((sNew_1 (by omega)).trans hc))))]
      refine jm_aload (pc := 46) dT_grow_46 rfl ?_
      refine jm_aast (pc := 48) dT_grow_48 rfl (by decide) rfl (fun _ => rfl) rfl rfl ?hin ?_
      case hin =>
        exact vp_in_nI (N := 250) (by omega) (by decide)
      rw [nI_clamp (by omega)]
      exact ct_grow hn hPle hPn hup ((nw_R hal0 hal6 (by omega) (by omega) (by omega)).trans hr) (fun i hi => (nw_R hal0 hal6 (by omega) (by omega) (by omega)).trans (hA i hi)) (fun i hi => (nw_R hal0 hal6 (by omega) (by omega) (by omega)).trans (hpp i hi)) hlt ((nw_R hal0 hal6 (by omega) (by omega) (by omega)).trans hroot) ((nw_I hal0 hal6 (by omega) (by omega)).trans hc) (nw_00 hal6) nw_01 (fun j hj => (nw_I hal0 hal6 (by omega) (by omega)).trans (hrow j hj)) hm ((nw_I hal0 hal6 (by omega) (by omega)).trans hD) ((nw_I hal0 hal6 (by omega) (by omega)).trans hL) ((nw_R hal0 hal6 (by omega) (by omega) (by omega)).trans hla) ((nw_L hal0 hal6 (by omega) (by omega)).trans hI0) hd (by decide) (by decide)
  · exact absurd (jb_ne0 h4) (by omega)
end CG3
