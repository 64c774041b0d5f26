section CN5
variable {l : Launch} {D : mD} {d : Nat} {st : aS} {E : EE} {rm : Nat} {rv : Nat → Nat} {g w : Int64} {od sk : Int32}
theorem MG.lk2 {st s' : aS} (h : MG E rm rv g w od sk st) (h22 : s'.2.2 = st.2.2) (h1 : ∀ a b c, ¬ (26 ≤ a ∧ a ≤ 40) → ¬ (a = 5 ∧ b = 0 ∧ (c = 38 ∨ c = 39)) → s'.1 a b c = st.1 a b c) (h2 : ∀ a b c, ¬ (26 ≤ a) → s'.2.1 a b c = st.2.1 a b c) : MG E rm rv g w od sk s' := by
  obtain ⟨q1, q2, q3, q4, q5, q6, q7, q8, q9, q10⟩ := h
  refine ⟨fun j hj => (congrArg (fun z => z.1 5 0 j) h22).trans (q1 j hj), fun i hi => ?_, ⟨(h1 5 0 1 (by omega) (by omega)).trans q3.1, q3.2.1, fun p hp => ⟨(h1 12 0 p (by omega) (by omega)).trans (q3.2.2 p hp).1, (q3.2.2 p hp).2.1, (h1 13 0 p (by omega) (by omega)).trans (q3.2.2 p hp).2.2.1, (q3.2.2 p hp).2.2.2.1, fun m hm => (h1 14 0 _ (by omega) (by omega)).trans ((q3.2.2 p hp).2.2.2.2 m hm)⟩⟩, (h1 5 0 5 (by omega) (by omega)).trans q4, (h1 5 0 17 (by omega) (by omega)).trans q5, fun k hk => (h1 25 0 k (by omega) (by omega)).trans (q6 k hk), (h2 5 0 18 (by omega)).trans q7, (h2 5 0 19 (by omega)).trans q8, (h1 5 0 40 (by omega) (by omega)).trans q9, (h1 5 0 41 (by omega) (by omega)).trans q10⟩
  obtain ⟨a1, a2, a3, a4, a5, a6, a7, a8, a9⟩ := q2 i hi
  exact ⟨(h1 15 0 i (by omega) (by omega)).trans a1, (h1 16 0 i (by omega) (by omega)).trans a2, (h1 17 0 i (by omega) (by omega)).trans a3, (h1 18 0 i (by omega) (by omega)).trans a4, (h1 19 0 i (by omega) (by omega)).trans a5, (h1 20 0 i (by omega) (by omega)).trans a6, fun k p hk => (h1 21 0 p (by omega) (by omega)).trans (a7 k p hk), ⟨(h1 23 0 i (by omega) (by omega)).trans a8.1, a8.2.1, a8.2.2.1, fun k hk => ⟨(h1 24 0 _ (by omega) (by omega)).trans (a8.2.2.2 k hk).1, (a8.2.2.2 k hk).2⟩⟩, fun z => (h1 22 0 i (by omega) (by omega)).trans (a9 z)⟩
theorem MG.fgt {st : aS} (h : MG E rm rv g w od sk st) : MG E rm rv g w 0 (-1) (mfg st) := by
  obtain ⟨h1, h2, h3, h4, h5, h6, h7, h8, h9, h10⟩ := h
  have e : ∀ {a b c : Nat}, ¬ (a = 5 ∧ (c = 40 ∨ c = 41)) → (mfg st).1 a b c = st.1 a b c := fun q => (sI_ne (by omega)).trans (sI_ne (by omega))
  refine ⟨h1, fun i hi => ?_, ⟨(e (by omega)).trans h3.1, h3.2.1, fun p hp => ⟨(e (by omega)).trans (h3.2.2 p hp).1, (h3.2.2 p hp).2.1, (e (by omega)).trans (h3.2.2 p hp).2.2.1, (h3.2.2 p hp).2.2.2.1, fun m hm => (e (by omega)).trans ((h3.2.2 p hp).2.2.2.2 m hm)⟩⟩, (e (by omega)).trans h4, (e (by omega)).trans h5, fun k hk => (e (by omega)).trans (h6 k hk), h7, h8, (sI_ne (by omega)).trans sI_eq, sI_eq⟩
  obtain ⟨a1, a2, a3, a4, a5, a6, a7, a8, a9⟩ := h2 i hi
  exact ⟨(e (by omega)).trans a1, (e (by omega)).trans a2, (e (by omega)).trans a3, (e (by omega)).trans a4, (e (by omega)).trans a5, (e (by omega)).trans a6, fun k p hk => (e (by omega)).trans (a7 k p hk), ⟨(e (by omega)).trans a8.1, a8.2.1, a8.2.2.1, fun k hk => ⟨(e (by omega)).trans (a8.2.2.2 k hk).1, (a8.2.2.2 k hk).2⟩⟩, fun z => (e (by omega)).trans (a9 z)⟩
theorem TM_of {st : aS} (hT : TR E) (hX : TX E) (h : MG E rm rv g w od sk st) (h2 : ∀ i, i < eN E → st.2.1 27 0 i = eO E i ∧ st.2.1 28 0 i = eI E i) : TM E st := by
  obtain ⟨q1, q2, q3, -⟩ := h
  refine ⟨hT, fun i hi => (hX.2.2.2.2.2 i hi).2.2.2.2, q1, q3, fun i hi => ?_⟩
  obtain ⟨a1, a2, a3, a4, a5, a6, a7, a8, a9⟩ := q2 i hi
  exact ⟨a1, a4, a5, a7, a8, a9, (h2 i hi).1, (h2 i hi).2⟩
theorem LKQ.EqC {st s' : aS} (h : LKQ E st s') : EqC st s' := ⟨fun a b c q => h.2.1 a b c (by omega), fun a b c q => h.2.2.1 a b c (by omega), h.1⟩
theorem SM.EqC {st s' : aS} (h : SM st s') : EqC st s' := ⟨fun a b c q => h.2.1 a b c (by omega) (by omega), fun a b c q => h.2.2 a b c (by omega), h.1⟩
theorem wB {S B : Int64} {k : Nat} (hk : k < 60) : ¬ hB (S &&& nt B) (nI k) = 0 ↔ gB S k ∧ ¬ gB B k := by
  rw [hB_iff (by omega)]
  unfold gB
  rw [i64_and, i64_nt B (by omega), Bool.and_eq_true, Bool.not_eq_true']
  exact and_congr Iff.rfl (by cases B.toBitVec.getLsbD k <;> simp)
set_option maxRecDepth 100000 in
set_option maxHeartbeats 4000000 in
theorem t_M_outer_n {x k : Int32} (hM : MG E rm rv g w od sk st) (hx : ¬ isN (eN E) x) (hd : 1 ≤ d) : MS l D mM_outer d 0 0 (fun v s' => v = some (vI 0) ∧ st = s') 0 0 5 [some (vR (some (5, 0))), some (vI x), some (vI k)] [] st := by
  obtain ⟨hm, hN, hP, m1_, m2_, m3_, m4_, m5_, m6_, m7_⟩ := hM
  refine jm_aload_n (pc := 5) dM_outer_5 rfl ?_
  refine jm_iload_n (pc := 6) dM_outer_6 rfl ?_
  refine jm_callV (pc := 7) (c_M_isNode (d := d - 1) m1_) fM_isNode vM_isNode cM_149 dM_outer_7 rfl rfl rfl rfl (by omega) ⟨Nat.le_refl _, Nat.le_refl _⟩ rfl (Nat.le_of_ble_eq_true rfl) (fun v s2 hq => ?_)
  obtain ⟨rfl, rfl⟩ := hq
  refine jm_if_eq (pc := 10) (tgt := 20) dM_outer_10 (by decide) (fun h10 => ?_) (fun h10 => ?_)
  · refine jm_iconst (pc := 20) (v := 0) dM_outer_20 (by decide) ?_
    refine jm_zret (pc := 21) dM_outer_21 rfl (by first | exact Or.inl rfl | exact Or.inr rfl | assumption) ⟨Nat.le_refl _, Nat.le_refl _⟩ ?_
    exact ⟨rfl, rfl⟩
  · exact absurd (jb_ne0 h10) hx
set_option maxRecDepth 100000 in
set_option maxHeartbeats 4000000 in
theorem c_M_outer_n {x k : Int32} (hM : MG E rm rv g w od sk st) (hx : ¬ isN (eN E) x) (hd : 1 ≤ d) : MC l D mM_outer d 0 0 [vR (some (5, 0)), vI x, vI k] st (fun v s' => v = some (vI 0) ∧ (sI st 5 0 0 0) = s') := by
  refine jm_start (ls0 := [some (vR (some (5, 0))), some (vI x), some (vI k)]) (by decide) (Nat.le_of_ble_eq_true rfl) rfl ?_
  refine jm_aload_n (pc := 0) dM_outer_0 rfl ?_
  refine jm_iconst (pc := 1) (v := 0) dM_outer_1 (by decide) ?_
  refine jm_puti (pc := 2) pM_outer_115 dM_outer_2 rfl rfl ?_
  exact t_M_outer_n hM.th hx hd
set_option maxRecDepth 100000 in
set_option maxHeartbeats 4000000 in
theorem t_M_outer_f {i : Nat} {k : Int32} (hM : MG E rm rv g w od sk st) (hi : i < eN E) (h31_ : eN E < 2 ^ 31) (hk : ¬ isV k) (hd : 1 ≤ d) : MS l D mM_outer d 0 0 (fun v s' => v = some (vI 0) ∧ st = s') 0 0 5 [some (vR (some (5, 0))), some (vI (nI i)), some (vI k)] [] st := by
  obtain ⟨hm, hN, hP, m1_, m2_, m3_, m4_, m5_, m6_, m7_⟩ := hM
  obtain ⟨n1_, n2_, n3_, n4_, n5_, n6_, n7_, n8_, n9_⟩ := hN i hi
  have hi250 : i < 250 := n8_.2.2.1
  have yN : isN (eN E) (nI i) := isN_nI hi h31_
  refine jm_aload_n (pc := 5) dM_outer_5 rfl ?_
  refine jm_iload_n (pc := 6) dM_outer_6 rfl ?_
  refine jm_callV (pc := 7) (c_M_isNode (d := d - 1) m1_) fM_isNode vM_isNode cM_149 dM_outer_7 rfl rfl rfl rfl (by omega) ⟨Nat.le_refl _, Nat.le_refl _⟩ rfl (Nat.le_of_ble_eq_true rfl) (fun v s2 hq => ?_)
  obtain ⟨rfl, rfl⟩ := hq
  refine jm_if_eq (pc := 10) (tgt := 20) dM_outer_10 (by decide) (fun h10 => ?_) (fun h10 => ?_)
  · refine jm_iconst (pc := 20) (v := 0) dM_outer_20 (by decide) ?_
    refine jm_zret (pc := 21) dM_outer_21 rfl (by first | exact Or.inl rfl | exact Or.inr rfl | assumption) ⟨Nat.le_refl _, Nat.le_refl _⟩ ?_
    exact ⟨rfl, rfl⟩
  · refine jm_iload_n (pc := 13) dM_outer_13 rfl ?_
    refine jm_callS (pc := 14) (c_M_isVariable (d := d - 1) k) fM_isVariable sM_isVariable cM_145 dM_outer_14 rfl (by omega) ⟨Nat.le_refl _, Nat.le_refl _⟩ rfl (Nat.le_of_ble_eq_true rfl) (fun v s2 hq => ?_)
    obtain ⟨rfl, rfl⟩ := hq
    refine jm_if_ne (pc := 17) (tgt := 22) dM_outer_17 (by decide) (fun h17 => ?_) (fun h17 => ?_)
    · exact absurd (jb_ne0 h17) hk
    · refine jm_iconst (pc := 20) (v := 0) dM_outer_20 (by decide) ?_
      refine jm_zret (pc := 21) dM_outer_21 rfl (by first | exact Or.inl rfl | exact Or.inr rfl | assumption) ⟨Nat.le_refl _, Nat.le_refl _⟩ ?_
      exact ⟨rfl, rfl⟩
set_option maxRecDepth 100000 in
set_option maxHeartbeats 4000000 in
theorem c_M_outer_f {i : Nat} {k : Int32} (hM : MG E rm rv g w od sk st) (hi : i < eN E) (h31_ : eN E < 2 ^ 31) (hk : ¬ isV k) (hd : 1 ≤ d) : MC l D mM_outer d 0 0 [vR (some (5, 0)), vI (nI i), vI k] st (fun v s' => v = some (vI 0) ∧ (sI st 5 0 0 0) = s') := by
  refine jm_start (ls0 := [some (vR (some (5, 0))), some (vI (nI i)), some (vI k)]) (by decide) (Nat.le_of_ble_eq_true rfl) rfl ?_
  refine jm_aload_n (pc := 0) dM_outer_0 rfl ?_
  refine jm_iconst (pc := 1) (v := 0) dM_outer_1 (by decide) ?_
  refine jm_puti (pc := 2) pM_outer_115 dM_outer_2 rfl rfl ?_
  exact t_M_outer_f hM.th hi h31_ hk hd
set_option maxRecDepth 100000 in
set_option maxHeartbeats 4000000 in
theorem t_M_outer {i v : Nat} (hM : MG E rm rv g w od sk st) (hi : i < eN E) (h31_ : eN E < 2 ^ 31) (hv : v < 60) (hT : TR E) (hX : TX E) (hO : ∀ i, i < eN E → ∀ v, v < 64 → (gB (eI E i) v ↔ inV E i v) ∧ (gB (eO E i) v ↔ gB w v ∨ outV E i v)) (hd : 2 ≤ d) : MS l D mM_outer d 0 0 (fun r s' => r = some (vI (jb ((eO E i).toBitVec.getLsbD v = true))) ∧ LKQ E st s') 0 0 5 [some (vR (some (5, 0))), some (vI (nI i)), some (vI (nI v))] [] st := by
  have hM0 := hM
  obtain ⟨hm, hN, hP, m1_, m2_, m3_, m4_, m5_, m6_, m7_⟩ := hM
  obtain ⟨n1_, n2_, n3_, n4_, n5_, n6_, n7_, n8_, n9_⟩ := hN i hi
  have hi250 : i < 250 := n8_.2.2.1
  have yN : isN (eN E) (nI i) := isN_nI hi h31_
  refine jm_aload_n (pc := 5) dM_outer_5 rfl ?_
  refine jm_iload_n (pc := 6) dM_outer_6 rfl ?_
  refine jm_callV (pc := 7) (c_M_isNode (d := d - 1) m1_) fM_isNode vM_isNode cM_149 dM_outer_7 rfl rfl rfl rfl (by omega) ⟨Nat.le_refl _, Nat.le_refl _⟩ rfl (Nat.le_of_ble_eq_true rfl) (fun v s2 hq => ?_)
  obtain ⟨rfl, rfl⟩ := hq
  refine jm_if_eq (pc := 10) (tgt := 20) dM_outer_10 (by decide) (fun h10 => ?_) (fun h10 => ?_)
  · exact absurd yN (jb_eq0 h10)
  · refine jm_iload_n (pc := 13) dM_outer_13 rfl ?_
    refine jm_callS (pc := 14) (c_M_isVariable (d := d - 1) (nI v)) fM_isVariable sM_isVariable cM_145 dM_outer_14 rfl (by omega) ⟨Nat.le_refl _, Nat.le_refl _⟩ rfl (Nat.le_of_ble_eq_true rfl) (fun v s2 hq => ?_)
    obtain ⟨rfl, rfl⟩ := hq
    refine jm_if_ne (pc := 17) (tgt := 22) dM_outer_17 (by decide) (fun h17 => ?_) (fun h17 => ?_)
    · refine jm_aload_n (pc := 22) dM_outer_22 rfl ?_
      refine jm_callV (pc := 23) (c_M_look (d := d - 1) hM0 hT hX hO (by omega)) fM_look vM_look cM_217 dM_outer_23 rfl rfl rfl rfl (by omega) ⟨Nat.le_refl _, Nat.le_refl _⟩ rfl (Nat.le_of_ble_eq_true rfl) (fun v s2 hq => ?_)
      obtain ⟨rfl, hL⟩ := hq
      refine jm_aload_n (pc := 26) dM_outer_26 rfl ?_
      refine jm_aload_n (pc := 27) dM_outer_27 rfl ?_
      refine jm_getq (pc := 28) lM_55 dM_outer_28 rfl rfl ((congrArg (fun z => z.1 5 0 21) hL.1).trans (hm 21 rfl)) ?_
      refine jm_iload_n (pc := 31) dM_outer_31 rfl ?_
      refine jm_lald (pc := 32) dM_outer_32 rfl (by decide) rfl (fun _ => rfl) ?hin ?_
      case hin =>
        exact vp_in_nI (N := 250) (by omega) (by decide)
      rw [nI_clamp (by omega), (hL.2.2.2 i hi).1]
      refine jm_iload_n (pc := 33) dM_outer_33 rfl ?_
      refine jm_callV (pc := 34) (c_M_isIn (d := d - 1) (x := v) (eO E i) hv) fM_isIn vM_isIn cM_163 dM_outer_34 rfl rfl rfl rfl (by omega) ⟨Nat.le_refl _, Nat.le_refl _⟩ rfl (Nat.le_of_ble_eq_true rfl) (fun v s2 hq => ?_)
      obtain ⟨rfl, rfl⟩ := hq
      refine jm_zret (pc := 37) dM_outer_37 rfl (jb_01 _) ⟨Nat.le_refl _, Nat.le_refl _⟩ ?_
      exact ⟨rfl, hL⟩
    · exact absurd (isV_nI hv) (jb_eq0 h17)
set_option maxRecDepth 100000 in
set_option maxHeartbeats 4000000 in
theorem c_M_outer {i v : Nat} (hM : MG E rm rv g w od sk st) (hi : i < eN E) (h31_ : eN E < 2 ^ 31) (hv : v < 60) (hT : TR E) (hX : TX E) (hO : ∀ i, i < eN E → ∀ v, v < 64 → (gB (eI E i) v ↔ inV E i v) ∧ (gB (eO E i) v ↔ gB w v ∨ outV E i v)) (hd : 2 ≤ d) : MC l D mM_outer d 0 0 [vR (some (5, 0)), vI (nI i), vI (nI v)] st (fun r s' => r = some (vI (jb ((eO E i).toBitVec.getLsbD v = true))) ∧ LKQ E (sI st 5 0 0 0) s') := by
  refine jm_start (ls0 := [some (vR (some (5, 0))), some (vI (nI i)), some (vI (nI v))]) (by decide) (Nat.le_of_ble_eq_true rfl) rfl ?_
  refine jm_aload_n (pc := 0) dM_outer_0 rfl ?_
  refine jm_iconst (pc := 1) (v := 0) dM_outer_1 (by decide) ?_
  refine jm_puti (pc := 2) pM_outer_115 dM_outer_2 rfl rfl ?_
  exact t_M_outer hM.th hi h31_ hv hT hX hO hd
/-- what order() of the reference leaves -/
def moQ (E : EE) (rm : Nat) (rv : Nat → Nat) (g w : Int64) (st : aS) (v : Option aV) (s' : aS) : Prop := ∃ s1, MG E rm rv g w 0 (-1) s1 ∧ EqC st s1 ∧ ((20000 < (tryF E 21 0 g).2 ∧ v = some (vI 3) ∧ s' = s1) ∨ ((tryF E 21 0 g).2 ≤ 20000 ∧ ((∃ k, (tryF E 21 0 g).1 = .inr k ∧ v = some (vI 1) ∧ s' = sI s1 5 0 41 (nI k)) ∨ ∃ B, (tryF E 21 0 g).1 = .inl B ∧ gm E s1 (finF E 21 0 g) ∧ (match lsF (w &&& nt B) 60 0 with
  | some x => v = some (vI 2) ∧ s' = sI s1 5 0 41 (nI x)
  | none => v = some (vI 0) ∧ s' = sI s1 5 0 40 1))))
set_option maxRecDepth 100000 in
set_option maxHeartbeats 4000000 in
theorem lp_M_order {B : Int64} (hm : mF st) (hw : st.2.1 5 0 19 = w) (hb0 : st.2.1 30 0 0 = B) (hd : 1 ≤ d) : ∀ (n k : Nat), k + n = 60 → MS l D mM_order d 0 0 (fun v s' => match lsF (w &&& nt B) n k with | some x => v = some (vI 2) ∧ s' = sI st 5 0 41 (nI x) | none => v = some (vI 0) ∧ s' = sI st 5 0 40 1) 0 0 79 [some (vR (some (5, 0))), some (vI 1), some (vI (nI k))] [] st := by
  intro n
  induction n with
  | zero =>
    intro k hk
    obtain rfl : k = 60 := by omega
    refine jm_iload_n (pc := 79) dM_order_79 rfl ?_
    refine jm_bipush (pc := 80) (v := 60) dM_order_80 (by decide) ?_
    refine jm_icmp_ge (pc := 82) (tgt := 124) dM_order_82 (by decide) (fun h82 => ?_) (fun h82 => ?_)
    · refine jm_aload_n (pc := 124) dM_order_124 rfl ?_
      refine jm_iconst (pc := 125) (v := 1) dM_order_125 (by decide) ?_
      refine jm_putz (pc := 126) pM_order_138 dM_order_126 rfl rfl (by first | exact Or.inl rfl | exact Or.inr rfl | assumption) ?_
      refine jm_iconst (pc := 129) (v := 0) dM_order_129 (by decide) ?_
      refine jm_iret (pc := 130) dM_order_130 rfl ⟨Nat.le_refl _, Nat.le_refl _⟩ ?_
      exact ⟨rfl, rfl⟩
    · exact absurd (by decide) h82
  | succ n ih =>
    intro k hk
    have hk60 : k < 60 := by omega
    have eL : lsF (w &&& nt B) (n + 1) k = if ¬ (hB (w &&& nt B) (nI k)) = 0 then some k else lsF (w &&& nt B) n (k + 1) := rfl
    refine jm_iload_n (pc := 79) dM_order_79 rfl ?_
    refine jm_bipush (pc := 80) (v := 60) dM_order_80 (by decide) ?_
    refine jm_icmp_ge (pc := 82) (tgt := 124) dM_order_82 (by decide) (fun h82 => ?_) (fun h82 => ?_)
    · exact absurd h82 (nI_ge (b := 60) (by omega) (by decide))
    · refine jm_aload_n (pc := 85) dM_order_85 rfl ?_
      refine jm_aload_n (pc := 86) dM_order_86 rfl ?_
      refine jm_getl (pc := 87) lM_128 dM_order_87 rfl (fun _ => rfl) ?_
      rw [hw]
      refine jm_iload_n (pc := 90) dM_order_90 rfl ?_
      refine jm_callV (pc := 91) (c_M_isIn (d := d - 1) (x := k) w hk60) fM_isIn vM_isIn cM_163 dM_order_91 rfl rfl rfl rfl (by omega) ⟨Nat.le_refl _, Nat.le_refl _⟩ rfl (Nat.le_of_ble_eq_true rfl) (fun v s2 hq => ?_)
      obtain ⟨rfl, rfl⟩ := hq
      refine jm_if_eq (pc := 94) (tgt := 118) dM_order_94 (by decide) (fun h94 => ?_) (fun h94 => ?_)
      · have hno : ¬ ¬ hB (w &&& nt B) (nI k) = 0 := fun q => by
          have q2 := (wB hk60).mp q
          first
            | exact jb_eq0 (p := w.toBitVec.getLsbD k = true) h94 q2.1
            | exact q2.2 (jb_ne0 (p := B.toBitVec.getLsbD k = true) h108)
        rw [eL, if_neg hno]
        refine jm_iinc (pc := 118) dM_order_118 rfl (by decide) ?_
        refine jm_goto (pc := 121) (tgt := 79) dM_order_121 (by decide) ?_
        rw [show nI k + Int32.ofInt 1 = nI (k + 1) from ni1 k]
        exact ih (k + 1) (by omega)
      · refine jm_aload_n (pc := 97) dM_order_97 rfl ?_
        refine jm_aload_n (pc := 98) dM_order_98 rfl ?_
        refine jm_getq (pc := 99) lM_65 dM_order_99 rfl rfl (hm 24 rfl) ?_
        refine jm_iconst (pc := 102) (v := 0) dM_order_102 (by decide) ?_
        refine jm_lald (pc := 103) dM_order_103 rfl (by decide) rfl (fun _ => rfl) ?hin ?_
        case hin =>
          exact vp_in_nI (n := 0) (N := 250) (by decide) (by decide)
        rw [show (0 : Int32).toNatClampNeg = 0 from rfl, hb0]
        refine jm_iload_n (pc := 104) dM_order_104 rfl ?_
        refine jm_callV (pc := 105) (c_M_isIn (d := d - 1) (x := k) B hk60) fM_isIn vM_isIn cM_163 dM_order_105 rfl rfl rfl rfl (by omega) ⟨Nat.le_refl _, Nat.le_refl _⟩ rfl (Nat.le_of_ble_eq_true rfl) (fun v s2 hq => ?_)
        obtain ⟨rfl, rfl⟩ := hq
        refine jm_if_ne (pc := 108) (tgt := 118) dM_order_108 (by decide) (fun h108 => ?_) (fun h108 => ?_)
        · have hno : ¬ ¬ hB (w &&& nt B) (nI k) = 0 := fun q => by
            have q2 := (wB hk60).mp q
            first
              | exact jb_eq0 (p := w.toBitVec.getLsbD k = true) h94 q2.1
              | exact q2.2 (jb_ne0 (p := B.toBitVec.getLsbD k = true) h108)
          rw [eL, if_neg hno]
          refine jm_iinc (pc := 118) dM_order_118 rfl (by decide) ?_
          refine jm_goto (pc := 121) (tgt := 79) dM_order_121 (by decide) ?_
          rw [show nI k + Int32.ofInt 1 = nI (k + 1) from ni1 k]
          exact ih (k + 1) (by omega)
        · refine jm_aload_n (pc := 111) dM_order_111 rfl ?_
          refine jm_iload_n (pc := 112) dM_order_112 rfl ?_
          refine jm_puti (pc := 113) pM_order_108 dM_order_113 rfl rfl ?_
          refine jm_iconst (pc := 116) (v := 2) dM_order_116 (by decide) ?_
          refine jm_iret (pc := 117) dM_order_117 rfl ⟨Nat.le_refl _, Nat.le_refl _⟩ ?_
          have hyes : ¬ hB (w &&& nt B) (nI k) = 0 := (wB hk60).mpr ⟨jb_ne0 (p := w.toBitVec.getLsbD k = true) h94, jb_eq0 (p := B.toBitVec.getLsbD k = true) h108⟩
          rw [eL, if_pos hyes]
          exact ⟨rfl, rfl⟩
set_option maxRecDepth 100000 in
set_option maxHeartbeats 4000000 in
theorem ct_M_order (hT : TR E) (hX : TX E) {st0 s2 s4 : aS} (hM2 : MG E rm rv g w 0 (-1) s2) (hC : EqC st0 s2) (hd : 7 ≤ d) (h : mQ E 0 g 21 0 0 s2 s4) : LHd l D d (moQ E rm rv g w st0) 1 s4 := by
  obtain ⟨m1, m2, m3, m4, m5⟩ := h
  have hM4 : MG E rm rv g w 0 (-1) s4 := hM2.lk2 m1.1.1 (fun a b c p q => m1.1.2.1 a b c (by omega) q) (fun a b c q => m1.1.2.2 a b c (by omega))
  have hC4 : EqC st0 s4 := hC.tr m1.1.EqC
  have hm := hM4.1
  have h0 := hX.1
  unfold LHd
  cases hr : (tryF E 21 0 g).1 with
  | inr k =>
    rw [hr] at m5
    obtain ⟨c1, c2⟩ := m5
    refine jm_iload_n (pc := 33) dM_order_33 rfl ?_
    refine jm_if_eq (pc := 34) (tgt := 52) dM_order_34 (by decide) (fun h34 => ?_) (fun h34 => ?_)
    · exact absurd h34 (by decide)
    · refine jm_aload_n (pc := 37) dM_order_37 rfl ?_
      refine jm_geti (pc := 38) lM_193 dM_order_38 rfl (fun _ => rfl) ?_
      rw [m2]
      refine jm_if_le (pc := 41) (tgt := 52) dM_order_41 (by decide) (fun h41 => ?_) (fun h41 => ?_)
      · refine jm_iload_n (pc := 52) dM_order_52 rfl ?_
        refine jm_if_ne (pc := 53) (tgt := 58) dM_order_53 (by decide) (fun h53 => ?_) (fun h53 => ?_)
        · refine jm_aload_n (pc := 58) dM_order_58 rfl ?_
          refine jm_getq (pc := 59) lM_68 dM_order_59 rfl rfl (hm 25 rfl) ?_
          refine jm_iconst (pc := 62) (v := 0) dM_order_62 (by decide) ?_
          refine jm_zald (pc := 63) dM_order_63 rfl (by decide) rfl (fun _ => rfl) ?hin ?_
          case hin =>
            exact vp_in_nI (n := 0) (N := 250) (by decide) (by decide)
          rw [show (0 : Int32).toNatClampNeg = 0 from rfl, c1]
          refine jm_if_ne (pc := 64) (tgt := 77) dM_order_64 (by decide) (fun h64 => ?_) (fun h64 => ?_)
          · exact absurd rfl h64
          · refine jm_aload_n (pc := 67) dM_order_67 rfl ?_
            refine jm_aload_n (pc := 68) dM_order_68 rfl ?_
            refine jm_callV (pc := 69) (c_M_stuckOf (d := d - 1) hm hT hM4.2.1 h0 c2) fM_stuckOf vM_stuckOf cM_224 dM_order_69 rfl rfl rfl rfl (by omega) ⟨Nat.le_refl _, Nat.le_refl _⟩ rfl (Nat.le_of_ble_eq_true rfl) (fun v s2 hq => ?_)
            obtain ⟨rfl, rfl⟩ := hq
            refine jm_puti (pc := 72) pM_order_108 dM_order_72 rfl rfl ?_
            refine jm_iconst (pc := 75) (v := 1) dM_order_75 (by decide) ?_
            refine jm_iret (pc := 76) dM_order_76 rfl ⟨Nat.le_refl _, Nat.le_refl _⟩ ?_
            exact ⟨s4, hM4, hC4, Or.inr ⟨by omega, Or.inl ⟨k, hr, rfl, rfl⟩⟩⟩
        · exact absurd h53 (by decide)
      · exact absurd (by decide) h41
  | inl B =>
    rw [hr] at m5
    obtain ⟨c1, c2, c3, c4⟩ := m5
    refine jm_iload_n (pc := 33) dM_order_33 rfl ?_
    refine jm_if_eq (pc := 34) (tgt := 52) dM_order_34 (by decide) (fun h34 => ?_) (fun h34 => ?_)
    · exact absurd h34 (by decide)
    · refine jm_aload_n (pc := 37) dM_order_37 rfl ?_
      refine jm_geti (pc := 38) lM_193 dM_order_38 rfl (fun _ => rfl) ?_
      rw [m2]
      refine jm_if_le (pc := 41) (tgt := 52) dM_order_41 (by decide) (fun h41 => ?_) (fun h41 => ?_)
      · refine jm_iload_n (pc := 52) dM_order_52 rfl ?_
        refine jm_if_ne (pc := 53) (tgt := 58) dM_order_53 (by decide) (fun h53 => ?_) (fun h53 => ?_)
        · refine jm_aload_n (pc := 58) dM_order_58 rfl ?_
          refine jm_getq (pc := 59) lM_68 dM_order_59 rfl rfl (hm 25 rfl) ?_
          refine jm_iconst (pc := 62) (v := 0) dM_order_62 (by decide) ?_
          refine jm_zald (pc := 63) dM_order_63 rfl (by decide) rfl (fun _ => rfl) ?hin ?_
          case hin =>
            exact vp_in_nI (n := 0) (N := 250) (by decide) (by decide)
          rw [show (0 : Int32).toNatClampNeg = 0 from rfl, c1]
          refine jm_if_ne (pc := 64) (tgt := 77) dM_order_64 (by decide) (fun h64 => ?_) (fun h64 => ?_)
          · refine jm_iconst (pc := 77) (v := 0) dM_order_77 (by decide) ?_
            refine jm_istore_n (pc := 78) dM_order_78 (by decide) ?_
            exact MS.mono (lp_M_order hm hM4.2.2.2.2.2.2.2.1 c2 (by omega) 60 0 rfl) (fun v s9 h => ⟨s4, hM4, hC4, Or.inr ⟨by omega, Or.inr ⟨B, hr, c4, h⟩⟩⟩)
          · exact absurd h64 (by decide)
        · exact absurd h53 (by decide)
      · exact absurd (by decide) h41
set_option maxRecDepth 100000 in
set_option maxHeartbeats 4000000 in
theorem ct_M_order3 {st0 s2 s4 : aS} (hM2 : MG E rm rv g w 0 (-1) s2) (hC : EqC st0 s2) (h : SM s2 s4) (hc : 20000 < 0 + (tryF E 21 0 g).2) : LHd l D d (moQ E rm rv g w st0) 0 s4 := by
  have hM4 : MG E rm rv g w 0 (-1) s4 := hM2.lk2 h.1 (fun a b c p q => h.2.1 a b c (by omega) q) (fun a b c q => h.2.2 a b c (by omega))
  have hC4 : EqC st0 s4 := hC.tr h.EqC
  unfold LHd
  refine jm_iload_n (pc := 33) dM_order_33 rfl ?_
  refine jm_if_eq (pc := 34) (tgt := 52) dM_order_34 (by decide) (fun h34 => ?_) (fun h34 => ?_)
  · refine jm_iload_n (pc := 52) dM_order_52 rfl ?_
    refine jm_if_ne (pc := 53) (tgt := 58) dM_order_53 (by decide) (fun h53 => ?_) (fun h53 => ?_)
    · exact absurd rfl h53
    · refine jm_iconst (pc := 56) (v := 3) dM_order_56 (by decide) ?_
      refine jm_iret (pc := 57) dM_order_57 rfl ⟨Nat.le_refl _, Nat.le_refl _⟩ ?_
      exact ⟨s4, hM4, hC4, Or.inl ⟨by omega, rfl, rfl⟩⟩
  · exact absurd rfl h34
set_option maxRecDepth 100000 in
set_option maxHeartbeats 4000000 in
theorem t_M_order  (hM : MG E rm rv g w od sk st) (hT : TR E) (hX : TX E) (hO : ∀ i, i < eN E → ∀ v, v < 64 → (gB (eI E i) v ↔ inV E i v) ∧ (gB (eO E i) v ↔ gB w v ∨ outV E i v)) (hd : 8 ≤ d) : MS l D mM_order d 0 0 (moQ E rm rv g w st) 0 0 5 [some (vR (some (5, 0))), none, none] [] st := by
  have hM0 := hM.fgt
  have h0 := hX.1
  have hD0 := hX.2.2.1
  refine jm_aload_n (pc := 5) dM_order_5 rfl ?_
  refine jm_callV (pc := 6) (c_M_changed (d := d - 1)) fM_changed vM_changed cM_135 dM_order_6 rfl rfl rfl rfl (by omega) ⟨Nat.le_refl _, Nat.le_refl _⟩ rfl (Nat.le_of_ble_eq_true rfl) (fun v s2 hq => ?_)
  obtain ⟨rfl, rfl⟩ := hq
  refine jm_aload_n (pc := 9) dM_order_9 rfl ?_
  refine jm_callV (pc := 10) (c_M_look (d := d - 1) hM0 hT hX hO (by omega)) fM_look vM_look cM_217 dM_order_10 rfl rfl rfl rfl (by omega) ⟨Nat.le_refl _, Nat.le_refl _⟩ rfl (Nat.le_of_ble_eq_true rfl) (fun v s2 hq => ?_)
  obtain ⟨rfl, hL⟩ := hq
  rename aS => s1
  have hM1 : MG E rm rv g w 0 (-1) s1 := hM0.lk hL.1 (fun a b c q => hL.2.1 a b c (by omega)) (fun a b c q => hL.2.2.1 a b c (by omega))
  have hM2 : MG E rm rv g w 0 (-1) (sI (sI s1 5 0 38 0) 5 0 39 0) := hM1.lk2 rfl (fun a b c p q => (sI_ne (by omega)).trans (sI_ne (by omega))) (fun a b c q => rfl)
  have hC2 : EqC st (sI (sI s1 5 0 38 0) 5 0 39 0) := (((EqC.I (by omega)).tr (EqC.I (by omega))).tr hL.EqC).tr ((EqC.I (by omega)).tr (EqC.I (by omega)))
  have hT2 : TM E (sI (sI s1 5 0 38 0) 5 0 39 0) := TM_of hT hX hM2 (fun i hi => hL.2.2.2 i hi)
  refine jm_aload_n (pc := 13) dM_order_13 rfl ?_
  refine jm_iconst (pc := 14) (v := 0) dM_order_14 (by decide) ?_
  refine jm_puti (pc := 15) pM_order_193 dM_order_15 rfl rfl ?_
  refine jm_aload_n (pc := 18) dM_order_18 rfl ?_
  refine jm_iconst (pc := 19) (v := 0) dM_order_19 (by decide) ?_
  refine jm_puti (pc := 20) pM_order_186 dM_order_20 rfl rfl ?_
  refine jm_aload_n (pc := 23) dM_order_23 rfl ?_
  refine jm_iconst (pc := 24) (v := 0) dM_order_24 (by decide) ?_
  refine jm_aload_n (pc := 25) dM_order_25 rfl ?_
  refine jm_getl (pc := 26) lM_124 dM_order_26 rfl (fun _ => rfl) ?_
  rw [show (sI (sI s1 5 0 38 0) 5 0 39 0).2.1 5 0 18 = g from hM2.2.2.2.2.2.2.1]
  refine jm_callV (pc := 29) (c_M_tried (d := d - 1) (i := 0) (t := 0) (F := 0) hT2 h0 ((sI_ne (by omega)).trans sI_eq) (by decide) sI_eq (by decide) (by omega)) fM_tried vM_tried cM_207 dM_order_29 rfl rfl rfl rfl (by omega) ⟨Nat.le_refl _, Nat.le_refl _⟩ rfl (Nat.le_of_ble_eq_true rfl) (fun v s2 hq => ?_)
  obtain ⟨b, rfl, hb⟩ := tQ_v hq
  refine jm_istore_n (pc := 32) dM_order_32 (by decide) ?_
  exact go_tried (run_all (by omega) 21) hT2 h0 (by omega) hD0.symm hq (fun s4 h4 => ct_M_order hT hX hM2 hC2 (by omega) h4) (fun s4 g4 hc => ct_M_order3 hM2 hC2 g4 hc)
set_option maxRecDepth 100000 in
set_option maxHeartbeats 4000000 in
theorem c_M_order  (hM : MG E rm rv g w od sk st) (hT : TR E) (hX : TX E) (hO : ∀ i, i < eN E → ∀ v, v < 64 → (gB (eI E i) v ↔ inV E i v) ∧ (gB (eO E i) v ↔ gB w v ∨ outV E i v)) (hd : 8 ≤ d) : MC l D mM_order d 0 0 [vR (some (5, 0))] st (moQ E rm rv g w (sI st 5 0 0 0)) := by
  refine jm_start (ls0 := [some (vR (some (5, 0))), none, none]) (by decide) (Nat.le_of_ble_eq_true rfl) rfl ?_
  refine jm_aload_n (pc := 0) dM_order_0 rfl ?_
  refine jm_iconst (pc := 1) (v := 0) dM_order_1 (by decide) ?_
  refine jm_puti (pc := 2) pM_order_115 dM_order_2 rfl rfl ?_
  exact t_M_order hM.th hT hX hO hd
end CN5
