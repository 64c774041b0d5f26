/-- behind the class's call: its answer v; the reference's call then answers v too, and both know the same again -/
def JQ (l : Launch) (D : mD) (M : mM) (d : Nat) (av : List aV) (u : Option aV) (s1 : aS) : Prop := ∃ v : Int32, u = some (vI v) ∧ MC l D M d 0 0 av s1 (fun u2 s2 => u2 = some (vI v) ∧ JE s2)
section J1
variable {l : Launch} {D : mD} {d : Nat} {st : aS}
theorem J_stuck (hJ : JE st) : MC l D mG_stuck d 0 0 [vR (some (4, 0))] st (JQ l D mM_stuck d [vR (some (5, 0))]) := by
  obtain ⟨E, rm, rv, g, w, od, sk, hJ⟩ := hJ
  have j8 := hJ.2.2.2.2.2.2.2.1
  have j9 := hJ.2.2.2.2.2.2.2.2.1
  refine MC.mono c_G_stuck (fun u s1 h => ?_)
  obtain ⟨rfl, rfl⟩ := h
  refine ⟨_, rfl, MC.mono (c_M_stuck j9) (fun u2 s2 h2 => ?_)⟩
  obtain ⟨rfl, rfl⟩ := h2
  exact ⟨by rw [j8.2.2.2.2.2.2.2.2.2.2], E, rm, rv, g, w, od, sk, hJ.th⟩
theorem J_put (hJ : JE st) (x : Int32) (hd : 1 ≤ d) : MC l D mG_put d 0 0 [vR (some (4, 0)), vI x] st (JQ l D mM_put d [vR (some (5, 0)), vI x]) := by
  obtain ⟨E, rm, rv, g, w, od, sk, hJ⟩ := hJ
  obtain ⟨j1, j2, j3, j4, j5, j6, j7, j8, j9, j10⟩ := id hJ
  obtain ⟨c1, c2, c3, c4, c5, c6, c7, c8, c9, c10, c11⟩ := id j8
  obtain ⟨m1, m2, m3, m4, m5, m6, m7, m8, m9, m10⟩ := id j9
  refine MC.mono (c_G_put x c1 c6 j5 hd) (fun u s1 h => ?_)
  obtain ⟨rfl, rfl⟩ := h
  refine ⟨_, rfl, ?_⟩
  by_cases hP : rm < 7 ∧ isV x
  · rw [if_pos hP]
    obtain ⟨v, hv, rfl⟩ := isV_of hP.2
    have q : EqK st (sI (sI st 11 0 rm (nI v)) 4 0 4 (nI (rm + 1))) := (EqK.I (Or.inr rfl)).tr (EqK.I (Or.inl rfl))
    refine MC.mono (c_M_put (x := nI v) (j9.eq q.M) j5 hd) (fun u2 s2 h2 => ?_)
    obtain ⟨rfl, rfl⟩ := h2
    rw [if_pos hP]
    refine ⟨rfl, E, rm + 1, fun k => if k = rm then v else rv k, g, w, od, sk, hJ.kn q (((EqN.I (Or.inl rfl)).tr EqN.Q).tr (EqN.I (Or.inr (Or.inl rfl)))) (by omega) (fun k hk => ?_) (Or.inl ⟨rfl, rfl⟩) sI_eq (fun k hk => ?_) c8 c9 ((sI_ne (by omega)).trans ((sI_ne (by omega)).trans c10)) ((sI_ne (by omega)).trans ((sI_ne (by omega)).trans c11)) sI_eq (fun k hk => ?_) m7 m8 (by simpa [sI, u3] using m9) (by simpa [sI, u3] using m10)⟩
    · by_cases e : k = rm
      · rw [if_pos e]; exact hv
      · rw [if_neg e]; exact j6 k (by omega)
    · rw [sI_ne (by omega)]
      by_cases e : k = rm
      · subst e; rw [if_pos rfl]; exact sI_eq
      · rw [if_neg e, sI_ne (by omega)]; exact c7 k (by omega)
    · rw [sI_ne (by omega)]
      by_cases e : k = rm
      · subst e; rw [if_pos rfl]; exact sI_eq
      · rw [if_neg e, sI_ne (by omega)]; exact (by simpa [sI, u3] using m6 k (by omega))
  · rw [if_neg hP]
    refine MC.mono (c_M_put (x := x) j9 j5 hd) (fun u2 s2 h2 => ?_)
    obtain ⟨rfl, rfl⟩ := h2
    rw [if_neg hP]
    exact ⟨rfl, E, rm, rv, g, w, od, sk, hJ.th⟩
theorem J_given (hJ : JE st) (x b : Int32) (hd : 1 ≤ d) : MC l D mG_given d 0 0 [vR (some (4, 0)), vI x, vI b] st (JQ l D mM_given d [vR (some (5, 0)), vI x, vI b]) := by
  obtain ⟨E, rm, rv, g, w, od, sk, hJ⟩ := hJ
  obtain ⟨j1, j2, j3, j4, j5, j6, j7, j8, j9, j10⟩ := id hJ
  obtain ⟨c1, c2, c3, c4, c5, c6, c7, c8, c9, c10, c11⟩ := id j8
  obtain ⟨m1, m2, m3, m4, m5, m6, m7, m8, m9, m10⟩ := id j9
  refine MC.mono (c_G_given x b c8 hd) (fun u s1 h => ?_)
  obtain ⟨rfl, rfl⟩ := h
  refine ⟨_, rfl, ?_⟩
  have hiff : (isV x ∧ ¬ jb (¬ hB g x = 0) = b) ↔ (isV x ∧ ¬ jb (((g >>> (x.toInt64 &&& 63)) &&& 1) = 1) = b) := by
    constructor
    · rintro ⟨p, q⟩; exact ⟨p, by rw [jb_congr (isIn1 p)]; exact q⟩
    · rintro ⟨p, q⟩; exact ⟨p, by rw [← jb_congr (isIn1 p)]; exact q⟩
  by_cases hP : isV x ∧ ¬ jb (¬ hB g x = 0) = b
  · rw [if_pos hP]
    have q : EqK st (fgt (sL st 4 0 5 (g ^^^ ((1 : Int64) <<< (x.toInt64 &&& 63))))) := (EqK.L.tr (EqK.I (Or.inl rfl))).tr (EqK.I (Or.inl rfl))
    refine MC.mono (c_M_given (x := x) (b := b) (j9.eq q.M) hd) (fun u2 s2 h2 => ?_)
    obtain ⟨rfl, rfl⟩ := h2
    rw [if_pos (hiff.mp hP), jb_congr hiff]
    exact ⟨rfl, E, rm, rv, (g ^^^ ((1 : Int64) <<< (x.toInt64 &&& 63))), w, 0, -1, hJ.kn q ((((EqN.I (Or.inl rfl)).tr EqN.L).tr (EqN.I (Or.inr (Or.inr (Or.inl rfl))))).tr (EqN.I (Or.inr (Or.inr (Or.inr rfl))))) j5 j6 (Or.inr ⟨rfl, rfl⟩) (by simpa [fgt, sI, sL, u3] using c6) (fun k hk => by simpa [fgt, sI, sL, u3] using c7 k hk) (by simp [fgt, sI, sL, u3]) (by simpa [fgt, sI, sL, u3] using c9) (by simp [fgt, sI, sL, u3]) (by simp [fgt, sI, sL, u3]) (by simpa [fgt, mfg, sI, sL, u3] using m5) (fun k hk => by simpa [fgt, mfg, sI, sL, u3] using m6 k hk) (by simp [fgt, mfg, sI, sL, u3]) (by simpa [fgt, mfg, sI, sL, u3] using m8) (by simp [fgt, mfg, sI, sL, u3]) (by simp [fgt, mfg, sI, sL, u3])⟩
  · rw [if_neg hP]
    refine MC.mono (c_M_given (x := x) (b := b) j9 hd) (fun u2 s2 h2 => ?_)
    obtain ⟨rfl, rfl⟩ := h2
    rw [if_neg (fun q => hP (hiff.mpr q)), jb_congr hiff]
    exact ⟨rfl, E, rm, rv, g, w, od, sk, hJ.th⟩
theorem i64_xor (a b : Int64) (v : Nat) : (a ^^^ b).toBitVec.getLsbD v = (a.toBitVec.getLsbD v ^^ b.toBitVec.getLsbD v) := by
  rw [Int64.toBitVec_xor, BitVec.getLsbD_xor]
theorem w60_x {w : Int64} {x : Int32} (hx : isV x) (h : ∀ v, 60 ≤ v → v < 64 → ¬ gB w v) : ∀ v, 60 ≤ v → v < 64 → ¬ gB (w ^^^ ((1 : Int64) <<< (x.toInt64 &&& 63))) v := by
  obtain ⟨j, hj, rfl⟩ := isV_of hx
  intro v h1 h2 q
  unfold gB at q
  rw [i64_xor, show ((1 : Int64) <<< ((nI j).toInt64 &&& 63)) = b1 j from rfl, b1_bit (by omega), decide_eq_false (by omega), Bool.xor_false] at q
  exact h v h1 h2 q
theorem J_wanted (hJ : JE st) (x b : Int32) (hd : 1 ≤ d) : MC l D mG_wanted d 0 0 [vR (some (4, 0)), vI x, vI b] st (JQ l D mM_wanted d [vR (some (5, 0)), vI x, vI b]) := by
  obtain ⟨E, rm, rv, g, w, od, sk, hJ⟩ := hJ
  obtain ⟨j1, j2, j3, j4, j5, j6, j7, j8, j9, j10⟩ := id hJ
  obtain ⟨c1, c2, c3, c4, c5, c6, c7, c8, c9, c10, c11⟩ := id j8
  obtain ⟨m1, m2, m3, m4, m5, m6, m7, m8, m9, m10⟩ := id j9
  refine MC.mono (c_G_wanted x b c9 hd) (fun u s1 h => ?_)
  obtain ⟨rfl, rfl⟩ := h
  refine ⟨_, rfl, ?_⟩
  have hiff : (isV x ∧ ¬ jb (¬ hB w x = 0) = b) ↔ (isV x ∧ ¬ jb (((w >>> (x.toInt64 &&& 63)) &&& 1) = 1) = b) := by
    constructor
    · rintro ⟨p, q⟩; exact ⟨p, by rw [jb_congr (isIn1 p)]; exact q⟩
    · rintro ⟨p, q⟩; exact ⟨p, by rw [← jb_congr (isIn1 p)]; exact q⟩
  by_cases hP : isV x ∧ ¬ jb (¬ hB w x = 0) = b
  · rw [if_pos hP]
    have q : EqK st (fgt (sL st 4 0 6 (w ^^^ ((1 : Int64) <<< (x.toInt64 &&& 63))))) := (EqK.L.tr (EqK.I (Or.inl rfl))).tr (EqK.I (Or.inl rfl))
    refine MC.mono (c_M_wanted (x := x) (b := b) (j9.eq q.M) hd) (fun u2 s2 h2 => ?_)
    obtain ⟨rfl, rfl⟩ := h2
    rw [if_pos (hiff.mp hP), jb_congr hiff]
    have p : EqN (fgt (sL st 4 0 6 (w ^^^ ((1 : Int64) <<< (x.toInt64 &&& 63))))) (mfg (sL (sI (fgt (sL st 4 0 6 (w ^^^ ((1 : Int64) <<< (x.toInt64 &&& 63))))) 5 0 0 0) 5 0 19 (w ^^^ ((1 : Int64) <<< (x.toInt64 &&& 63))))) := (((EqN.I (Or.inl rfl)).tr EqN.L).tr (EqN.I (Or.inr (Or.inr (Or.inl rfl))))).tr (EqN.I (Or.inr (Or.inr (Or.inr rfl))))
    refine ⟨rfl, eSetO E (fun i => st.2.1 0 i 12 ||| (w ^^^ ((1 : Int64) <<< (x.toInt64 &&& 63)))), rm, rv, g, (w ^^^ ((1 : Int64) <<< (x.toInt64 &&& 63))), 0, -1, j1, j2, (j3.k q).n p, w60_x hP.1 j4, j5, j6, Or.inl rfl, CG.eq ⟨c1.k q.2.2, c2.k q.2.2 (fun i => q.1 0 i 0 (by omega) (by omega)), fun i hi => ?_, c4.k q, (q.1 2 0 2 (by omega) (by omega)).trans c5, (by simpa [fgt, sI, sL, u3] using c6), (fun k hk => by simpa [fgt, sI, sL, u3] using c7 k hk), (by simpa [fgt, sI, sL, u3] using c8), (by simp [fgt, sI, sL, u3]), (by simp [fgt, sI, sL, u3]), (by simp [fgt, sI, sL, u3])⟩ p.C, MG.n (j9.eq q.M) p (by simpa [fgt, mfg, sI, sL, u3] using m5) (fun k hk => by simpa [fgt, mfg, sI, sL, u3] using m6 k hk) (by simpa [fgt, mfg, sI, sL, u3] using m7) (by simp [fgt, mfg, sI, sL, u3]) (by simp [fgt, mfg, sI, sL, u3]) (by simp [fgt, mfg, sI, sL, u3]), fun z => absurd z (by decide)⟩
    obtain ⟨a1, a2, a3, a4, a5, a6, a7, a8, a9, a10, a11⟩ := (c3.k q) i hi
    exact ⟨a1, a2, a3, a4, a5, a6, a7, a8, by rw [q.2.1 0 i 12 (by omega)]; rfl, a10, a11⟩
  · rw [if_neg hP]
    refine MC.mono (c_M_wanted (x := x) (b := b) j9 hd) (fun u2 s2 h2 => ?_)
    obtain ⟨rfl, rfl⟩ := h2
    rw [if_neg (fun q => hP (hiff.mpr q)), jb_congr hiff]
    exact ⟨rfl, E, rm, rv, g, w, od, sk, hJ.th⟩
end J1
