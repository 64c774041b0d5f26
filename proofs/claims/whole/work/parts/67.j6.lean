section J6
variable {l : Launch} {D : mD} {d : Nat} {st : aS}
theorem J_ground (hJ : JE st) (x k : Int32) (hd : 1 ≤ d) : MC l D mG_ground d 0 0 [vR (some (4, 0)), vI x, vI k] st (JQ l D mM_ground d [vR (some (5, 0)), vI x, vI k]) := by
  obtain ⟨E, rm, rv, g, w, od, sk, hJ⟩ := hJ
  obtain ⟨j1, j2, j3, j4, j5, j6, j7, j8, j9, j10⟩ := id hJ
  obtain ⟨c1, c2, c3, c4, c5, c6, c7, c8, c9, c10, c11⟩ := id j8
  have hN : eN E < 2 ^ 31 := by have := j1.1; omega
  by_cases hP : isN (eN E) x
  · obtain ⟨i, hi, rfl⟩ := isN_of hP hN
    refine MC.mono (c_G_ground (k := k) c1 c2 c5 hi c10 rfl hd) (fun u s1 h => ?_)
    obtain ⟨rfl, rfl⟩ := h
    refine ⟨_, rfl, MC.mono (c_M_ground (k := k) j9 hi hN hd) (fun u2 s2 h2 => ?_)⟩
    obtain ⟨rfl, rfl⟩ := h2
    refine ⟨?_, E, rm, rv, g, w, od, sk, hJ.th⟩
    have : (¬ od = 0 ∧ isV k ∧ ¬ hB ((sI st 5 0 0 0).2.1 29 0 i) k = 0) ↔ (¬ od = 0 ∧ isV k ∧ ¬ hB (st.2.1 0 i 13) k = 0) := by
      refine and_congr_right (fun z => ?_)
      have z1 : od = 1 := j7.resolve_left z
      rw [(j10 z1 i hi).1]
      exact Iff.rfl
    rw [jb_congr this]
  · refine MC.mono (c_G_ground_n (k := k) c1 c2 c5 hP hd) (fun u s1 h => ?_)
    obtain ⟨rfl, rfl⟩ := h
    refine ⟨_, rfl, MC.mono (c_M_ground_n (k := k) j9 hP hd) (fun u2 s2 h2 => ?_)⟩
    obtain ⟨rfl, rfl⟩ := h2
    exact ⟨rfl, E, rm, rv, g, w, od, sk, hJ.th⟩
theorem J_node (hJ : JE st) (x q : Int32) (hd : 1 ≤ d) : MC l D mG_node d 0 0 [vR (some (4, 0)), vI x, vI q] st (JQ l D mM_node d [vR (some (5, 0)), vI x, vI q]) := by
  obtain ⟨E, rm, rv, g, w, od, sk, hJ⟩ := hJ
  obtain ⟨j1, j2, j3, j4, j5, j6, j7, j8, j9, j10⟩ := id hJ
  obtain ⟨c1, c2, c3, c4, c5, c6, c7, c8, c9, c10, c11⟩ := id j8
  have hN : eN E < 2 ^ 31 := by have := j1.1; omega
  by_cases hP : isN (eN E) x
  · obtain ⟨i, hi, rfl⟩ := isN_of hP hN
    obtain ⟨a1, a2, a3, a4, a5, a6, a7, a8, a9, a10, a11⟩ := c3 i hi
    have hs := (j1.2.2 i hi).1
    refine MC.mono (c_G_node (q := q) c1 c2 c5 hi c10 a1 hs a3 a10 rfl hd) (fun u s1 h => ?_)
    obtain ⟨rfl, rfl⟩ := h
    refine ⟨_, rfl, ?_⟩
    have fin : ∀ {v : Int32}, ndV od (eS E i) (eK E i).length (eW E i) (st.1 0 i 15) (eV E i) q = v → ∀ (u2 : Option aV) (s2 : aS), (u2 = some (vI v) ∧ (sI st 5 0 0 0) = s2) → u2 = some (vI (ndV od (eS E i) (eK E i).length (eW E i) (st.1 0 i 15) (eV E i) q)) ∧ JE s2 := by
      intro v hv u2 s2 h2
      obtain ⟨rfl, rfl⟩ := h2
      exact ⟨by rw [hv], E, rm, rv, g, w, od, sk, hJ.th⟩
    by_cases q1 : q = -1
    · subst q1
      refine MC.mono (c_M_node_a j9 hi hN hs hd) (fin ?_)
      unfold ndV
      rw [if_pos rfl]
      by_cases z : ¬ od = 0 ∧ 3 < eS E i
      · rw [if_pos z, if_pos z, ((j10 (j7.resolve_left z.1) i hi).2.1 z.2).2.1]; rfl
      · rw [if_neg z, if_neg z]
    by_cases q2 : q = 0
    · subst q2
      exact MC.mono (c_M_node_b j9 hi hN hs hd) (fin (by unfold ndV; rw [if_neg q1, if_pos rfl]))
    by_cases q3 : q = 1
    · subst q3
      exact MC.mono (c_M_node_c j9 hi hN hs hd) (fin (by unfold ndV; rw [if_neg q1, if_neg q2, if_pos rfl]))
    by_cases q4 : q = 2
    · subst q4
      exact MC.mono (c_M_node_d j9 hi hN hs hd) (fin (by unfold ndV; rw [if_neg q1, if_neg q2, if_neg q3, if_pos rfl]))
    exact MC.mono (c_M_node_o j9 hi hN q1 q2 q3 q4 hd) (fin (by unfold ndV; rw [if_neg q1, if_neg q2, if_neg q3, if_neg q4]))
  · refine MC.mono (c_G_node_n (q := q) c1 c2 c5 hP hd) (fun u s1 h => ?_)
    obtain ⟨rfl, rfl⟩ := h
    refine ⟨_, rfl, MC.mono (c_M_node_n (q := q) j9 hP hd) (fun u2 s2 h2 => ?_)⟩
    obtain ⟨rfl, rfl⟩ := h2
    exact ⟨rfl, E, rm, rv, g, w, od, sk, hJ.th⟩
theorem J_part (hJ : JE st) (x k : Int32) (hd : 1 ≤ d) : MC l D mG_part d 0 0 [vR (some (4, 0)), vI x, vI k] st (JQ l D mM_part d [vR (some (5, 0)), vI x, vI k]) := by
  obtain ⟨E, rm, rv, g, w, od, sk, hJ⟩ := hJ
  obtain ⟨j1, j2, j3, j4, j5, j6, j7, j8, j9, j10⟩ := id hJ
  obtain ⟨c1, c2, c3, c4, c5, c6, c7, c8, c9, c10, c11⟩ := id j8
  have hN : eN E < 2 ^ 31 := by have := j1.1; omega
  by_cases hP : isN (eN E) x
  · obtain ⟨i, hi, rfl⟩ := isN_of hP hN
    obtain ⟨a1, a2, a3, a4, a5, a6, a7, a8, a9, a10, a11⟩ := c3 i hi
    have hs := (j1.2.2 i hi).1
    have hl := eK_len j1 hi
    by_cases hk : ¬ od = 0 ∧ isN (eK E i).length k
    · obtain ⟨j, hj, rfl⟩ := isN_of hk.2 (by omega)
      have ho : od = 1 := j7.resolve_left hk.1
      subst ho
      have hO := j10 rfl
      by_cases h0 : eS E i = 0
      · obtain ⟨ord, o1, o2, o3⟩ := (hO i hi).2.2 h0
        have hjo : j < ord.length := by rw [o1.length_eq]; exact hj
        have hp : ord[j]? = some ord[j] := List.getElem?_eq_getElem hjo
        have hm : ord[j] ∈ eK E i := o1.mem_iff.mp (List.mem_of_getElem? hp)
        have hpn := (j1.kid hi hm).1
        refine MC.mono (c_G_part_r c1 c2 c5 hi c10 a3 hj hl (by rw [a1, h0]; rfl) o2.1 o2.2 hp ((c2.2.2.2.2 _ (Nat.lt_of_lt_of_le hpn c2.1)).1) hd) (fun u s1 h => ?_)
        obtain ⟨rfl, rfl⟩ := h
        refine ⟨_, rfl, MC.mono (c_M_part_r j9 hi hN j1 rfl hj h0 (fun q hq => ⟨fun e => ?_, fun e => ?_⟩) hm hd) (fun u2 s2 h2 => ?_)⟩
        · obtain ⟨k2, hk2, hk3⟩ := List.mem_iff_getElem.mp (o1.mem_iff.mpr hq)
          have r := o3 k2 q (by rw [List.getElem?_eq_getElem hk2, hk3])
          rw [e] at r
          have : j = k2 := (nI_eq (by omega) (by have := o1.length_eq; omega)).mp r
          subst this
          exact hk3.symm
        · rw [e]; exact o3 j _ hp
        · obtain ⟨rfl, rfl⟩ := h2
          exact ⟨rfl, E, rm, rv, g, w, 1, sk, hJ.th⟩
      · have hp : (eK E i)[j]? = some (eK E i)[j] := List.getElem?_eq_getElem hj
        have hm : (eK E i)[j] ∈ eK E i := List.mem_of_getElem? hp
        have hpn := (j1.kid hi hm).1
        refine MC.mono (c_G_part_k c1 c2 c5 hi c10 a3 hj hl (by rw [a1]; exact nI_ne0 (by omega) (by omega)) a5 a7 hp ((c2.2.2.2.2 _ (Nat.lt_of_lt_of_le hpn c2.1)).1) hd) (fun u s1 h => ?_)
        obtain ⟨rfl, rfl⟩ := h
        refine ⟨_, rfl, MC.mono (c_M_part_k j9 hi hN j1 rfl hj h0 hp hd) (fun u2 s2 h2 => ?_)⟩
        obtain ⟨rfl, rfl⟩ := h2
        exact ⟨rfl, E, rm, rv, g, w, 1, sk, hJ.th⟩
    · refine MC.mono (c_G_part_f (k := k) c1 c2 c5 hi c10 a3 hk hd) (fun u s1 h => ?_)
      obtain ⟨rfl, rfl⟩ := h
      refine ⟨_, rfl, MC.mono (c_M_part_f (k := k) j9 hi hN hk hd) (fun u2 s2 h2 => ?_)⟩
      obtain ⟨rfl, rfl⟩ := h2
      exact ⟨rfl, E, rm, rv, g, w, od, sk, hJ.th⟩
  · refine MC.mono (c_G_part_n (k := k) c1 c2 c5 hP hd) (fun u s1 h => ?_)
    obtain ⟨rfl, rfl⟩ := h
    refine ⟨_, rfl, MC.mono (c_M_part_n (k := k) j9 hP hd) (fun u2 s2 h2 => ?_)⟩
    obtain ⟨rfl, rfl⟩ := h2
    exact ⟨rfl, E, rm, rv, g, w, od, sk, hJ.th⟩
theorem J_outer (hJ : JE st) (x k : Int32) (hd : 2 ≤ d) : MC l D mG_outer d 0 0 [vR (some (4, 0)), vI x, vI k] st (JQ l D mM_outer d [vR (some (5, 0)), vI x, vI k]) := by
  obtain ⟨E, rm, rv, g, w, od, sk, hJ⟩ := hJ
  obtain ⟨j1, j2, j3, j4, j5, j6, j7, j8, j9, j10⟩ := id hJ
  obtain ⟨c1, c2, c3, c4, c5, c6, c7, c8, c9, c10, c11⟩ := id j8
  have hN : eN E < 2 ^ 31 := by have := j1.1; omega
  by_cases hP : isN (eN E) x
  · obtain ⟨i, hi, rfl⟩ := isN_of hP hN
    obtain ⟨a1, a2, a3, a4, a5, a6, a7, a8, a9, a10, a11⟩ := c3 i hi
    refine MC.mono (c_G_outer (k := k) c1 c2 c5 hi c9 a9 (by omega)) (fun u s1 h => ?_)
    obtain ⟨rfl, rfl⟩ := h
    by_cases hk : isV k
    · obtain ⟨v, hv, rfl⟩ := isV_of hk
      refine ⟨_, rfl, MC.mono (c_M_outer j9 hi hN hv j1 j2 (fun i hi v hv => ⟨(j3 i hi v hv).1, ?_⟩) hd) (fun u2 s2 h2 => ?_)⟩
      · rw [← (c3 i hi).2.2.2.2.2.2.2.2.1, gB_or, (j3 i hi v hv).2]
        exact Or.comm
      · obtain ⟨rfl, h3⟩ := h2
        refine ⟨?_, E, rm, rv, g, w, od, sk, hJ.th.lk h3⟩
        have : ((eO E i).toBitVec.getLsbD v = true) ↔ (isV (nI v) ∧ ¬ hB (eO E i) (nI v) = 0) := by
          rw [hB_iff (by omega)]
          exact ⟨fun z => ⟨hk, z⟩, fun z => z.2⟩
        rw [jb_congr this]
    · refine ⟨_, rfl, MC.mono (c_M_outer_f (k := k) j9 hi hN hk (by omega)) (fun u2 s2 h2 => ?_)⟩
      obtain ⟨rfl, rfl⟩ := h2
      refine ⟨?_, E, rm, rv, g, w, od, sk, hJ.th⟩
      rw [jb_f (fun z => hk z.1)]
  · refine MC.mono (c_G_outer_n (k := k) c1 c2 c5 hP (by omega)) (fun u s1 h => ?_)
    obtain ⟨rfl, rfl⟩ := h
    refine ⟨_, rfl, MC.mono (c_M_outer_n (k := k) j9 hP (by omega)) (fun u2 s2 h2 => ?_)⟩
    obtain ⟨rfl, rfl⟩ := h2
    exact ⟨rfl, E, rm, rv, g, w, od, sk, hJ.th⟩
/-- what call found, does: its ways in are known -/
theorem callR_some {ins : Nat → Int64} {all S m' : Int64} {wy : Int32} : ∀ (n m : Nat), callR ins all S n m = some (wy, m') → ∃ k, m ≤ k ∧ k < m + n ∧ wy = nI k ∧ ins k &&& nt S = 0
  | 0, m, h => by cases h
  | n + 1, m, h => by
    unfold callR at h
    by_cases e : ins m &&& nt S = 0
    · rw [if_pos e] at h
      cases h
      exact ⟨m, Nat.le_refl _, by omega, rfl, e⟩
    · rw [if_neg e] at h
      obtain ⟨k, k1, k2, k3⟩ := callR_some n (m + 1) h
      exact ⟨k, by omega, by omega, k3⟩
theorem and_comm_ne {a b : Int64} : ¬ a &&& b = 0 ↔ ¬ b &&& a = 0 := by rw [Int64.and_comm]
theorem and_b1 {v : Nat} {S : Int64} (hv : v < 64) : ¬ b1 v &&& S = 0 ↔ gB S v := by
  constructor
  · intro h
    refine Classical.byContradiction (fun hn => h ?_)
    apply Int64.toBitVec_inj.mp
    apply BitVec.eq_of_getLsbD_eq
    intro i hi
    rw [Int64.toBitVec_and, BitVec.getLsbD_and, b1_bit hv]
    by_cases e : i = v
    · subst e
      have : S.toBitVec.getLsbD i = false := by
        cases hb : S.toBitVec.getLsbD i with
        | false => rfl
        | true => exact absurd hb hn
      rw [this]; simp
    · simp [e]
  · intro h hn
    have := congrArg (fun z => z.toBitVec.getLsbD v) hn
    simp only [Int64.toBitVec_and, BitVec.getLsbD_and] at this
    rw [b1_bit hv, show S.toBitVec.getLsbD v = true from h] at this
    simp at this
theorem oB_m2 {x : Nat} (hx : x < 7) : oB (-2) x = true ↔ 0 < x := by
  rcases (show x = 0 ∨ x = 1 ∨ x = 2 ∨ x = 3 ∨ x = 4 ∨ x = 5 ∨ x = 6 by omega) with rfl | rfl | rfl | rfl | rfl | rfl | rfl <;> decide
theorem J_compared (hJ : JE st) (x k : Int32) (hd : 4 ≤ d) : MC l D mG_compared d 0 0 [vR (some (4, 0)), vI x, vI k] st (JQ l D mM_compared d [vR (some (5, 0)), vI x, vI k]) := by
  obtain ⟨E, rm, rv, g, w, od, sk, hJ⟩ := hJ
  obtain ⟨j1, j2, j3, j4, j5, j6, j7, j8, j9, j10⟩ := id hJ
  obtain ⟨c1, c2, c3, c4, c5, c6, c7, c8, c9, c10, c11⟩ := id j8
  have hN : eN E < 2 ^ 31 := by have := j1.1; omega
  by_cases hI : isN (eN E) x
  · obtain ⟨i, hi, rfl⟩ := isN_of hI hN
    obtain ⟨a1, a2, a3, a4, a5, a6, a7, a8, a9, a10, a11⟩ := c3 i hi
    have hs := (j1.2.2 i hi).1
    by_cases hk : ¬ od = 0 ∧ isN (eW E i) k
    · have hW7 := a10.2.1
      obtain ⟨x, hx, rfl⟩ := isN_of hk.2 (by omega)
      have ho : od = 1 := j7.resolve_left hk.1
      subst ho
      have h3 : 3 < eS E i := by
        refine Nat.lt_of_not_le (fun z => ?_)
        have := (j2.2.2.2.2.2 i hi).2.2.2.1 (by omega)
        omega
      obtain ⟨o1, o2, -⟩ := j10 rfl i hi
      obtain ⟨⟨m, hA⟩, hw, hL⟩ := o2 h3
      have hV := fun k hk => (a10.2.2.2 k hk).2
      have key : ∀ mk : Int32, MC l D mG_madeAt (d - 1) 0 0 [vR (some (4, 0)), vR (some (0, i))] st (fun v s' => st = s' ∧ v = some (vI mk)) → (∀ y, y < eW E i → (oB mk y = true ↔ bcE E i (st.1 34 0 i) y)) → (∀ y, y < eW E i → ¬ bcE E i (st.1 34 0 i) y → (∃ z, z < eW E i ∧ bcE E i (st.1 34 0 i) z) → gB (st.2.1 29 0 i) (eV E i y)) → MC l D mG_compared d 0 0 [vR (some (4, 0)), vI (nI i), vI (nI x)] st (JQ l D mM_compared d [vR (some (5, 0)), vI (nI i), vI (nI x)]) := by
        intro mk hmk h1 h2
        refine MC.mono (c_G_compared c1 c2 c5 hi c10 a10 hx o1 hmk (by omega)) (fun u s1 h => ?_)
        obtain ⟨rfl, rfl⟩ := h
        refine ⟨_, rfl, MC.mono (c_M_compared (k := nI x) j9 hi hN hs (by omega)) (fun u2 s2 h2' => ?_)⟩
        obtain ⟨rfl, rfl⟩ := h2'
        refine ⟨?_, E, rm, rv, g, w, 1, sk, hJ.th⟩
        have hxv := hV x hx
        have : (¬ (1 : Int32) = 0 ∧ 3 < eS E i ∧ isN (eW E i) (nI x) ∧ ((sI st 5 0 0 0).1 35 0 i >>> (nI x &&& 31)) &&& 1 = 1) ↔ (¬ hP mk (nI x) = 0 ∧ ¬ b1 (eV E i x) &&& rsF (eV E i) x 0 (st.2.1 29 0 i) = 0) := by
          rw [hP_iff (by omega), oB_iff (by omega), and_b1 (by omega), rsF_iff x 0 _ _ (fun j h1 h2 => hV j (by omega)), h1 x hx]
          rw [show (sI st 5 0 0 0).1 35 0 i = st.1 35 0 i from sI_ne (by omega), hL x hx]
          constructor
          · rintro ⟨-, -, -, p, q⟩
            refine ⟨p, ?_⟩
            rcases q with q | ⟨j, q1, q2, q3⟩
            · exact Or.inl q
            · exact Or.inr ⟨j, by omega, by omega, q3⟩
          · rintro ⟨p, q⟩
            refine ⟨by decide, h3, hk.2, p, ?_⟩
            rcases q with q | ⟨j, q1, q2, q3⟩
            · exact Or.inl q
            · by_cases hb : bcE E i (st.1 34 0 i) j
              · exact Or.inr ⟨j, by omega, hb, q3⟩
              · refine Or.inl ?_
                rw [← q3]
                exact h2 j (by omega) hb ⟨x, hx, p⟩
        rw [jb_congr this]
      unfold eA atomR at hA
      by_cases h12 : eS E i = 12
      · rw [if_neg (by omega), if_neg (by omega), if_neg (by omega), if_neg (by omega), if_neg (by omega), if_neg (by omega), if_pos h12] at hA
        obtain ⟨m, k1, k2, k3, k4⟩ := callR_some _ _ hA
        have hQ := (j1.2.2 i hi).2.2.2.2.2.2.1 h12
        rw [insS_iff hW7 hV] at k4
        have hmd := (c4.2.2.2.2.2.1 _ hQ).2.2.2
        have hbc : ∀ y, bcE E i (st.1 34 0 i) y ↔ oB (eOu E (eQ E i) m) y = true := by
          intro y
          unfold bcE
          rw [k3]
          constructor
          · rintro (⟨q, -⟩ | ⟨-, m2, q1, q2, q3⟩)
            · omega
            · have : m = m2 := (nI_eq (by omega) (by omega)).mp q2
              subst this
              exact q3
          · intro q
            exact Or.inr ⟨h12, m, by omega, rfl, q⟩
        refine key _ (c_G_madeAt_c c1 c4 (by rw [a1, h12]; rfl) (a11 h12) hQ (by rw [hw]; exact k3) (by omega) (by omega)) (fun y hy => (hbc y).symm) (fun y hy hn _ => ?_)
        rcases k4 y hy with q | q
        · exact absurd ((hbc y).mpr q) hn
        · exact q
      · refine key _ (c_G_madeAt_o a1 (by omega) hw) (fun y hy => ?_) (fun y hy hn hz => ?_)
        · unfold bcE
          by_cases h8 : eS E i = 8 ∧ st.1 34 0 i = 1
          · rw [if_pos h8, oB_m2 (by omega)]
            exact ⟨fun z => Or.inl ⟨h8.1, h8.2, z⟩, fun z => by rcases z with z | z; exact z.2.2; exact absurd z.1 h12⟩
          · rw [if_neg h8]
            refine ⟨fun z => ?_, fun z => ?_⟩
            · simp [oB] at z
            · rcases z with z | z
              · exact absurd ⟨z.1, z.2.1⟩ h8
              · exact absurd z.1 h12
        · obtain ⟨z, z1, z2⟩ := hz
          rcases z2 with z2 | z2
          · have hy0 : y = 0 := by
              refine Classical.byContradiction (fun q => hn (Or.inl ⟨z2.1, z2.2.1, by omega⟩))
            subst hy0
            rw [if_neg (by omega), if_neg (by omega), if_pos z2.1] at hA
            unfold formR at hA
            by_cases e : b1 (eV E i 0) &&& nt (st.2.1 29 0 i) = 0
            · exact (b1_sub (by have := hV 0 hy; omega)).mp e
            · rw [if_neg e] at hA
              by_cases e2 : rowS (eW E i) (eV E i) 1 &&& nt (st.2.1 29 0 i) = 0
              · rw [if_pos e2] at hA
                have := congrArg Prod.fst (Option.some.inj hA)
                rw [z2.2.1] at this
                exact absurd this (show ¬ (2 : Int32) = 1 by decide)
              · rw [if_neg e2] at hA
                cases hA
          · exact absurd z2.1 h12
    · refine MC.mono (c_G_compared_f (k := k) c1 c2 c5 hi c10 a10.1 hk (by omega)) (fun u s1 h => ?_)
      obtain ⟨rfl, rfl⟩ := h
      refine ⟨_, rfl, MC.mono (c_M_compared (k := k) j9 hi hN hs (by omega)) (fun u2 s2 h2 => ?_)⟩
      obtain ⟨rfl, rfl⟩ := h2
      refine ⟨?_, E, rm, rv, g, w, od, sk, hJ.th⟩
      rw [jb_f (fun z => hk ⟨z.1, z.2.2.1⟩)]
  · refine MC.mono (c_G_compared_n (k := k) c1 c2 c5 hI (by omega)) (fun u s1 h => ?_)
    obtain ⟨rfl, rfl⟩ := h
    refine ⟨_, rfl, MC.mono (c_M_compared_n (k := k) j9 hI (by omega)) (fun u2 s2 h2 => ?_)⟩
    obtain ⟨rfl, rfl⟩ := h2
    exact ⟨rfl, E, rm, rv, g, w, od, sk, hJ.th⟩
end J6
