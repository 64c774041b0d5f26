section CN3
variable {l : Launch} {D : mD} {d : Nat} {st : aS} {E : EE} {rm : Nat} {rv : Nat → Nat} {g w : Int64} {od sk : Int32}
set_option maxRecDepth 100000 in
set_option maxHeartbeats 4000000 in
theorem ct_add_0 {x s p : Int32} : MS l D mM_add d 0 0 (fun v s' => v = some (vI (-1)) ∧ s' = sI st 5 0 17 0) 0 0 37 [some (vR (some (5, 0))), some (vI x), some (vI s), some (vI p), none, none] [vI 0] st := by
  refine jm_istore (pc := 37) dM_add_37 (by decide) ?_
  refine jm_iload (pc := 39) dM_add_39 rfl ?_
  refine jm_if_eq (pc := 41) (tgt := 53) dM_add_41 (by decide) (fun h41 => ?_) (fun h41 => ?_)
  · refine jm_iconst (pc := 53) (v := -1) dM_add_53 (by decide) ?_
    refine jm_istore (pc := 54) dM_add_54 (by decide) ?_
    refine jm_iload (pc := 56) dM_add_56 rfl ?_
    refine jm_if_eq (pc := 58) (tgt := 75) dM_add_58 (by decide) (fun h58 => ?_) (fun h58 => ?_)
    · refine jm_iload (pc := 75) dM_add_75 rfl ?_
      refine jm_if_eq (pc := 77) (tgt := 84) dM_add_77 (by decide) (fun h77 => ?_) (fun h77 => ?_)
      · refine jm_aload_n (pc := 84) dM_add_84 rfl ?_
        refine jm_iconst (pc := 85) (v := 0) dM_add_85 (by decide) ?_
        refine jm_puti (pc := 86) pM_add_121 dM_add_86 rfl rfl ?_
        refine jm_iload (pc := 89) dM_add_89 rfl ?_
        refine jm_iret (pc := 91) dM_add_91 rfl ⟨Nat.le_refl _, Nat.le_refl _⟩ ?_
        exact ⟨rfl, rfl⟩
      · exact absurd rfl h77
    · exact absurd rfl h58
  · exact absurd rfl h41
set_option maxRecDepth 100000 in
set_option maxHeartbeats 4000000 in
theorem ct_add_c {n : Nat} {x p : Int32} {X : aS} (hX : mF X) (hn : n < 250) (hg : MC l D mM_made (d - 1) 0 0 [vR (some (5, 0)), vI x, vI 12] st (fun v s' => v = some (vI (nI n)) ∧ s' = X)) (hd : 1 ≤ d) : MS l D mM_add d 0 0 (fun v s' => v = some (vI (nI n)) ∧ s' = sI (mfg (sI X 22 0 n p)) 5 0 17 0) 0 0 37 [some (vR (some (5, 0))), some (vI x), some (vI 12), some (vI p), none, none] [vI 1] st := by
  have hm := hX
  refine jm_istore (pc := 37) dM_add_37 (by decide) ?_
  refine jm_iload (pc := 39) dM_add_39 rfl ?_
  refine jm_if_eq (pc := 41) (tgt := 53) dM_add_41 (by decide) (fun h41 => ?_) (fun h41 => ?_)
  · exact absurd h41 (by decide)
  · refine jm_aload_n (pc := 44) dM_add_44 rfl ?_
    refine jm_iload_n (pc := 45) dM_add_45 rfl ?_
    refine jm_iload_n (pc := 46) dM_add_46 rfl ?_
    refine jm_callV (pc := 47) hg fM_made vM_made cM_131 dM_add_47 rfl rfl rfl rfl (by omega) ⟨Nat.le_refl _, Nat.le_refl _⟩ rfl (Nat.le_of_ble_eq_true rfl) (fun v s2 hq => ?_)
    obtain ⟨rfl, rfl⟩ := hq
    refine jm_goto (pc := 50) (tgt := 54) dM_add_50 (by decide) ?_
    refine jm_istore (pc := 54) dM_add_54 (by decide) ?_
    refine jm_iload (pc := 56) dM_add_56 rfl ?_
    refine jm_if_eq (pc := 58) (tgt := 75) dM_add_58 (by decide) (fun h58 => ?_) (fun h58 => ?_)
    · exact absurd h58 (by decide)
    · refine jm_iload_n (pc := 61) dM_add_61 rfl ?_
      refine jm_bipush (pc := 62) (v := 12) dM_add_62 (by decide) ?_
      refine jm_icmp_ne (pc := 64) (tgt := 75) dM_add_64 (by decide) (fun h64 => ?_) (fun h64 => ?_)
      · exact absurd rfl h64
      · refine jm_aload_n (pc := 67) dM_add_67 rfl ?_
        refine jm_getq (pc := 68) lM_40 dM_add_68 rfl rfl (hm 13 rfl) ?_
        refine jm_iload (pc := 71) dM_add_71 rfl ?_
        refine jm_iload_n (pc := 73) dM_add_73 rfl ?_
        refine jm_iast (pc := 74) dM_add_74 rfl (by decide) rfl (fun _ => rfl) ?hin ?_
        case hin =>
          exact vp_in_nI (N := 250) (by omega) (by decide)
        rw [nI_clamp (by omega)]
        refine jm_iload (pc := 75) dM_add_75 rfl ?_
        refine jm_if_eq (pc := 77) (tgt := 84) dM_add_77 (by decide) (fun h77 => ?_) (fun h77 => ?_)
        · exact absurd h77 (by decide)
        · refine jm_aload_n (pc := 80) dM_add_80 rfl ?_
          refine jm_callV (pc := 81) (c_M_changed (d := d - 1)) fM_changed vM_changed cM_135 dM_add_81 rfl rfl rfl rfl (by omega) ⟨Nat.le_refl _, Nat.le_refl _⟩ rfl (Nat.le_of_ble_eq_true rfl) (fun v s2 hq => ?_)
          obtain ⟨rfl, rfl⟩ := hq
          refine jm_aload_n (pc := 84) dM_add_84 rfl ?_
          refine jm_iconst (pc := 85) (v := 0) dM_add_85 (by decide) ?_
          refine jm_puti (pc := 86) pM_add_121 dM_add_86 rfl rfl ?_
          refine jm_iload (pc := 89) dM_add_89 rfl ?_
          refine jm_iret (pc := 91) dM_add_91 rfl ⟨Nat.le_refl _, Nat.le_refl _⟩ ?_
          exact ⟨rfl, rfl⟩
set_option maxRecDepth 100000 in
set_option maxHeartbeats 4000000 in
theorem ct_add_o {n : Nat} {x p : Int32} {s : Int32} {X : aS} (hX : mF X) (hn : n < 250) (hg : MC l D mM_made (d - 1) 0 0 [vR (some (5, 0)), vI x, vI s] st (fun v s' => v = some (vI (nI n)) ∧ s' = X)) (hs : ¬ s = 12) (hd : 1 ≤ d) : MS l D mM_add d 0 0 (fun v s' => v = some (vI (nI n)) ∧ s' = sI (mfg X) 5 0 17 0) 0 0 37 [some (vR (some (5, 0))), some (vI x), some (vI s), some (vI p), none, none] [vI 1] st := by
  have hm := hX
  refine jm_istore (pc := 37) dM_add_37 (by decide) ?_
  refine jm_iload (pc := 39) dM_add_39 rfl ?_
  refine jm_if_eq (pc := 41) (tgt := 53) dM_add_41 (by decide) (fun h41 => ?_) (fun h41 => ?_)
  · exact absurd h41 (by decide)
  · refine jm_aload_n (pc := 44) dM_add_44 rfl ?_
    refine jm_iload_n (pc := 45) dM_add_45 rfl ?_
    refine jm_iload_n (pc := 46) dM_add_46 rfl ?_
    refine jm_callV (pc := 47) hg fM_made vM_made cM_131 dM_add_47 rfl rfl rfl rfl (by omega) ⟨Nat.le_refl _, Nat.le_refl _⟩ rfl (Nat.le_of_ble_eq_true rfl) (fun v s2 hq => ?_)
    obtain ⟨rfl, rfl⟩ := hq
    refine jm_goto (pc := 50) (tgt := 54) dM_add_50 (by decide) ?_
    refine jm_istore (pc := 54) dM_add_54 (by decide) ?_
    refine jm_iload (pc := 56) dM_add_56 rfl ?_
    refine jm_if_eq (pc := 58) (tgt := 75) dM_add_58 (by decide) (fun h58 => ?_) (fun h58 => ?_)
    · exact absurd h58 (by decide)
    · refine jm_iload_n (pc := 61) dM_add_61 rfl ?_
      refine jm_bipush (pc := 62) (v := 12) dM_add_62 (by decide) ?_
      refine jm_icmp_ne (pc := 64) (tgt := 75) dM_add_64 (by decide) (fun h64 => ?_) (fun h64 => ?_)
      · skip
        refine jm_iload (pc := 75) dM_add_75 rfl ?_
        refine jm_if_eq (pc := 77) (tgt := 84) dM_add_77 (by decide) (fun h77 => ?_) (fun h77 => ?_)
        · exact absurd h77 (by decide)
        · refine jm_aload_n (pc := 80) dM_add_80 rfl ?_
          refine jm_callV (pc := 81) (c_M_changed (d := d - 1)) fM_changed vM_changed cM_135 dM_add_81 rfl rfl rfl rfl (by omega) ⟨Nat.le_refl _, Nat.le_refl _⟩ rfl (Nat.le_of_ble_eq_true rfl) (fun v s2 hq => ?_)
          obtain ⟨rfl, rfl⟩ := hq
          refine jm_aload_n (pc := 84) dM_add_84 rfl ?_
          refine jm_iconst (pc := 85) (v := 0) dM_add_85 (by decide) ?_
          refine jm_puti (pc := 86) pM_add_121 dM_add_86 rfl rfl ?_
          refine jm_iload (pc := 89) dM_add_89 rfl ?_
          refine jm_iret (pc := 91) dM_add_91 rfl ⟨Nat.le_refl _, Nat.le_refl _⟩ ?_
          exact ⟨rfl, rfl⟩
      · exact absurd h64 hs
set_option maxRecDepth 100000 in
set_option maxHeartbeats 4000000 in
theorem c_M_add_f {x s p : Int32} {Pp Fp : Prop} [Decidable Pp] [Decidable Fp] (hpar : MC l D mM_isParent (d - 1) 0 0 [vR (some (5, 0)), vI x] (sI st 5 0 0 0) (fun v s' => (sI st 5 0 0 0) = s' ∧ v = some (vI (jb Pp)))) (hrow : isN 13 s → MC l D mM_hasRow (d - 1) 0 0 [vR (some (5, 0)), vI s, vI p] (sI st 5 0 0 0) (fun v s' => (sI st 5 0 0 0) = s' ∧ v = some (vI (jb Fp)))) (hx : ¬ (Pp ∧ isN 13 s ∧ Fp)) (hd : 2 ≤ d) : MC l D mM_add d 0 0 [vR (some (5, 0)), vI x, vI s, vI p] st (fun v s' => v = some (vI (-1)) ∧ s' = sI (sI st 5 0 0 0) 5 0 17 0) := by
  refine jm_start (ls0 := [some (vR (some (5, 0))), some (vI x), some (vI s), some (vI p), none, none]) (by decide) (Nat.le_of_ble_eq_true rfl) rfl ?_
  refine jm_aload_n (pc := 0) dM_add_0 rfl ?_
  refine jm_iconst (pc := 1) (v := 0) dM_add_1 (by decide) ?_
  refine jm_puti (pc := 2) pM_add_115 dM_add_2 rfl rfl ?_
  refine jm_aload_n (pc := 5) dM_add_5 rfl ?_
  refine jm_iload_n (pc := 6) dM_add_6 rfl ?_
  refine jm_callV (pc := 7) hpar fM_isParent vM_isParent cM_152 dM_add_7 rfl rfl rfl rfl (by omega) ⟨Nat.le_refl _, Nat.le_refl _⟩ rfl (Nat.le_of_ble_eq_true rfl) (fun v s2 hq => ?_)
  obtain ⟨rfl, rfl⟩ := hq
  refine jm_if_eq (pc := 10) (tgt := 36) dM_add_10 (by decide) (fun h10 => ?_) (fun h10 => ?_)
  · refine jm_iconst (pc := 36) (v := 0) dM_add_36 (by decide) ?_
    first
      | exact ct_add_0
      | exact absurd ⟨y1, y2, jb_ne0 h29⟩ hx
  · have y1 := jb_ne0 h10
    refine jm_iload_n (pc := 13) dM_add_13 rfl ?_
    refine jm_if_lt (pc := 14) (tgt := 36) dM_add_14 (by decide) (fun h14 => ?_) (fun h14 => ?_)
    · refine jm_iconst (pc := 36) (v := 0) dM_add_36 (by decide) ?_
      first
        | exact ct_add_0
        | exact absurd ⟨y1, y2, jb_ne0 h29⟩ hx
    · refine jm_iload_n (pc := 17) dM_add_17 rfl ?_
      refine jm_bipush (pc := 18) (v := 13) dM_add_18 (by decide) ?_
      refine jm_icmp_ge (pc := 20) (tgt := 36) dM_add_20 (by decide) (fun h20 => ?_) (fun h20 => ?_)
      · refine jm_iconst (pc := 36) (v := 0) dM_add_36 (by decide) ?_
        first
          | exact ct_add_0
          | exact absurd ⟨y1, y2, jb_ne0 h29⟩ hx
      · have y2 : isN 13 s := ⟨h14, h20⟩
        refine jm_aload_n (pc := 23) dM_add_23 rfl ?_
        refine jm_iload_n (pc := 24) dM_add_24 rfl ?_
        refine jm_iload_n (pc := 25) dM_add_25 rfl ?_
        refine jm_callV (pc := 26) (hrow y2) fM_hasRow vM_hasRow cM_155 dM_add_26 rfl rfl rfl rfl (by omega) ⟨Nat.le_refl _, Nat.le_refl _⟩ rfl (Nat.le_of_ble_eq_true rfl) (fun v s2 hq => ?_)
        obtain ⟨rfl, rfl⟩ := hq
        refine jm_if_eq (pc := 29) (tgt := 36) dM_add_29 (by decide) (fun h29 => ?_) (fun h29 => ?_)
        · refine jm_iconst (pc := 36) (v := 0) dM_add_36 (by decide) ?_
          first
            | exact ct_add_0
            | exact absurd ⟨y1, y2, jb_ne0 h29⟩ hx
        · refine jm_iconst (pc := 32) (v := 1) dM_add_32 (by decide) ?_
          refine jm_goto (pc := 33) (tgt := 37) dM_add_33 (by decide) ?_
          first
            | exact ct_add_0
            | exact absurd ⟨y1, y2, jb_ne0 h29⟩ hx
set_option maxRecDepth 100000 in
set_option maxHeartbeats 4000000 in
theorem c_M_add_s {x s p : Int32} {Pp Fp : Prop} [Decidable Pp] [Decidable Fp] {Q : Option aV → aS → Prop} (hpar : MC l D mM_isParent (d - 1) 0 0 [vR (some (5, 0)), vI x] (sI st 5 0 0 0) (fun v s' => (sI st 5 0 0 0) = s' ∧ v = some (vI (jb Pp)))) (hrow : isN 13 s → MC l D mM_hasRow (d - 1) 0 0 [vR (some (5, 0)), vI s, vI p] (sI st 5 0 0 0) (fun v s' => (sI st 5 0 0 0) = s' ∧ v = some (vI (jb Fp)))) (hx : Pp ∧ isN 13 s ∧ Fp) (hk : MS l D mM_add d 0 0 Q 0 0 37 [some (vR (some (5, 0))), some (vI x), some (vI s), some (vI p), none, none] [vI 1] (sI st 5 0 0 0)) (hd : 2 ≤ d) : MC l D mM_add d 0 0 [vR (some (5, 0)), vI x, vI s, vI p] st (Q) := by
  refine jm_start (ls0 := [some (vR (some (5, 0))), some (vI x), some (vI s), some (vI p), none, none]) (by decide) (Nat.le_of_ble_eq_true rfl) rfl ?_
  refine jm_aload_n (pc := 0) dM_add_0 rfl ?_
  refine jm_iconst (pc := 1) (v := 0) dM_add_1 (by decide) ?_
  refine jm_puti (pc := 2) pM_add_115 dM_add_2 rfl rfl ?_
  refine jm_aload_n (pc := 5) dM_add_5 rfl ?_
  refine jm_iload_n (pc := 6) dM_add_6 rfl ?_
  refine jm_callV (pc := 7) hpar fM_isParent vM_isParent cM_152 dM_add_7 rfl rfl rfl rfl (by omega) ⟨Nat.le_refl _, Nat.le_refl _⟩ rfl (Nat.le_of_ble_eq_true rfl) (fun v s2 hq => ?_)
  obtain ⟨rfl, rfl⟩ := hq
  refine jm_if_eq (pc := 10) (tgt := 36) dM_add_10 (by decide) (fun h10 => ?_) (fun h10 => ?_)
  · refine jm_iconst (pc := 36) (v := 0) dM_add_36 (by decide) ?_
    first
      | exact hk
      | exact absurd hx.1 (jb_eq0 h10)
      | exact absurd h14 hx.2.1.1
      | exact absurd h20 hx.2.1.2
      | exact absurd hx.2.2 (jb_eq0 h29)
  · have y1 := jb_ne0 h10
    refine jm_iload_n (pc := 13) dM_add_13 rfl ?_
    refine jm_if_lt (pc := 14) (tgt := 36) dM_add_14 (by decide) (fun h14 => ?_) (fun h14 => ?_)
    · refine jm_iconst (pc := 36) (v := 0) dM_add_36 (by decide) ?_
      first
        | exact hk
        | exact absurd hx.1 (jb_eq0 h10)
        | exact absurd h14 hx.2.1.1
        | exact absurd h20 hx.2.1.2
        | exact absurd hx.2.2 (jb_eq0 h29)
    · refine jm_iload_n (pc := 17) dM_add_17 rfl ?_
      refine jm_bipush (pc := 18) (v := 13) dM_add_18 (by decide) ?_
      refine jm_icmp_ge (pc := 20) (tgt := 36) dM_add_20 (by decide) (fun h20 => ?_) (fun h20 => ?_)
      · refine jm_iconst (pc := 36) (v := 0) dM_add_36 (by decide) ?_
        first
          | exact hk
          | exact absurd hx.1 (jb_eq0 h10)
          | exact absurd h14 hx.2.1.1
          | exact absurd h20 hx.2.1.2
          | exact absurd hx.2.2 (jb_eq0 h29)
      · have y2 : isN 13 s := ⟨h14, h20⟩
        refine jm_aload_n (pc := 23) dM_add_23 rfl ?_
        refine jm_iload_n (pc := 24) dM_add_24 rfl ?_
        refine jm_iload_n (pc := 25) dM_add_25 rfl ?_
        refine jm_callV (pc := 26) (hrow y2) fM_hasRow vM_hasRow cM_155 dM_add_26 rfl rfl rfl rfl (by omega) ⟨Nat.le_refl _, Nat.le_refl _⟩ rfl (Nat.le_of_ble_eq_true rfl) (fun v s2 hq => ?_)
        obtain ⟨rfl, rfl⟩ := hq
        refine jm_if_eq (pc := 29) (tgt := 36) dM_add_29 (by decide) (fun h29 => ?_) (fun h29 => ?_)
        · refine jm_iconst (pc := 36) (v := 0) dM_add_36 (by decide) ?_
          first
            | exact hk
            | exact absurd hx.1 (jb_eq0 h10)
            | exact absurd h14 hx.2.1.1
            | exact absurd h20 hx.2.1.2
            | exact absurd hx.2.2 (jb_eq0 h29)
        · refine jm_iconst (pc := 32) (v := 1) dM_add_32 (by decide) ?_
          refine jm_goto (pc := 33) (tgt := 37) dM_add_33 (by decide) ?_
          first
            | exact hk
            | exact absurd hx.1 (jb_eq0 h10)
            | exact absurd h14 hx.2.1.1
            | exact absurd h20 hx.2.1.2
            | exact absurd hx.2.2 (jb_eq0 h29)
set_option maxRecDepth 100000 in
set_option maxHeartbeats 4000000 in
theorem lp_M_stuckOf (hm : mF st) (hT : TR E) (hN : MN E st) : ∀ (f i k : Nat), i < eN E → blF E st f i k → MS l D mM_stuckOf d 0 0 (fun v s' => v = some (vI (nI k)) ∧ st = s') 0 0 2 [some (vR (some (5, 0))), some (vI (nI i))] [] st := by
  intro f
  induction f with
  | zero => intro i k _ h; exact h.elim
  | succ f ih =>
    intro i k hi h
    have hi250 : i < 250 := Nat.lt_of_lt_of_le hi hT.1
    have n1_ := (hN i hi).1
    have q1 := (hT.2.2 i hi).1
    rcases h with ⟨h3, rfl⟩ | ⟨h3, ⟨hb, rfl⟩ | ⟨p, hp, hb, hf⟩⟩
    · refine jm_aload_n (pc := 2) dM_stuckOf_2 rfl ?_
      refine jm_getq (pc := 3) lM_19 dM_stuckOf_3 rfl rfl (hm 6 rfl) ?_
      refine jm_iload_n (pc := 6) dM_stuckOf_6 rfl ?_
      refine jm_iald (pc := 7) dM_stuckOf_7 rfl (by decide) rfl (fun _ => rfl) ?hin ?_
      case hin =>
        exact vp_in_nI (N := 250) (by omega) (by decide)
      rw [nI_clamp (by omega), n1_]
      refine jm_iconst (pc := 8) (v := 3) dM_stuckOf_8 (by decide) ?_
      refine jm_icmp_gt (pc := 9) (tgt := 32) dM_stuckOf_9 (by decide) (fun h9 => ?_) (fun h9 => ?_)
      · refine jm_iload_n (pc := 32) dM_stuckOf_32 rfl ?_
        refine jm_iret (pc := 33) dM_stuckOf_33 rfl ⟨Nat.le_refl _, Nat.le_refl _⟩ ?_
        exact ⟨rfl, rfl⟩
      · exact absurd (nI_lt (a := 3) h3 (by omega)) h9
    · refine jm_aload_n (pc := 2) dM_stuckOf_2 rfl ?_
      refine jm_getq (pc := 3) lM_19 dM_stuckOf_3 rfl rfl (hm 6 rfl) ?_
      refine jm_iload_n (pc := 6) dM_stuckOf_6 rfl ?_
      refine jm_iald (pc := 7) dM_stuckOf_7 rfl (by decide) rfl (fun _ => rfl) ?hin ?_
      case hin =>
        exact vp_in_nI (N := 250) (by omega) (by decide)
      rw [nI_clamp (by omega), n1_]
      refine jm_iconst (pc := 8) (v := 3) dM_stuckOf_8 (by decide) ?_
      refine jm_icmp_gt (pc := 9) (tgt := 32) dM_stuckOf_9 (by decide) (fun h9 => ?_) (fun h9 => ?_)
      · exact absurd h9 (nI_nlt (a := 3) h3 (by decide))
      · refine jm_aload_n (pc := 12) dM_stuckOf_12 rfl ?_
        refine jm_getq (pc := 13) lM_84 dM_stuckOf_13 rfl rfl (hm 30 rfl) ?_
        refine jm_iload_n (pc := 16) dM_stuckOf_16 rfl ?_
        refine jm_iald (pc := 17) dM_stuckOf_17 rfl (by decide) rfl (fun _ => rfl) ?hin ?_
        case hin =>
          exact vp_in_nI (N := 250) (by omega) (by decide)
        rw [nI_clamp (by omega), hb]
        refine jm_iconst (pc := 18) (v := -1) dM_stuckOf_18 (by decide) ?_
        refine jm_icmp_eq (pc := 19) (tgt := 32) dM_stuckOf_19 (by decide) (fun h19 => ?_) (fun h19 => ?_)
        · refine jm_iload_n (pc := 32) dM_stuckOf_32 rfl ?_
          refine jm_iret (pc := 33) dM_stuckOf_33 rfl ⟨Nat.le_refl _, Nat.le_refl _⟩ ?_
          exact ⟨rfl, rfl⟩
        · exact absurd rfl h19
    · have hpk := (hT.kid hi hp).1
      have hp250 : p < 250 := Nat.lt_of_lt_of_le hpk hT.1
      refine jm_aload_n (pc := 2) dM_stuckOf_2 rfl ?_
      refine jm_getq (pc := 3) lM_19 dM_stuckOf_3 rfl rfl (hm 6 rfl) ?_
      refine jm_iload_n (pc := 6) dM_stuckOf_6 rfl ?_
      refine jm_iald (pc := 7) dM_stuckOf_7 rfl (by decide) rfl (fun _ => rfl) ?hin ?_
      case hin =>
        exact vp_in_nI (N := 250) (by omega) (by decide)
      rw [nI_clamp (by omega), n1_]
      refine jm_iconst (pc := 8) (v := 3) dM_stuckOf_8 (by decide) ?_
      refine jm_icmp_gt (pc := 9) (tgt := 32) dM_stuckOf_9 (by decide) (fun h9 => ?_) (fun h9 => ?_)
      · exact absurd h9 (nI_nlt (a := 3) h3 (by decide))
      · refine jm_aload_n (pc := 12) dM_stuckOf_12 rfl ?_
        refine jm_getq (pc := 13) lM_84 dM_stuckOf_13 rfl rfl (hm 30 rfl) ?_
        refine jm_iload_n (pc := 16) dM_stuckOf_16 rfl ?_
        refine jm_iald (pc := 17) dM_stuckOf_17 rfl (by decide) rfl (fun _ => rfl) ?hin ?_
        case hin =>
          exact vp_in_nI (N := 250) (by omega) (by decide)
        rw [nI_clamp (by omega), hb]
        refine jm_iconst (pc := 18) (v := -1) dM_stuckOf_18 (by decide) ?_
        refine jm_icmp_eq (pc := 19) (tgt := 32) dM_stuckOf_19 (by decide) (fun h19 => ?_) (fun h19 => ?_)
        · exact absurd h19 (fun z => nI_pos (n := p) (by omega) (by rw [z]; decide))
        · refine jm_aload_n (pc := 22) dM_stuckOf_22 rfl ?_
          refine jm_getq (pc := 23) lM_84 dM_stuckOf_23 rfl rfl (hm 30 rfl) ?_
          refine jm_iload_n (pc := 26) dM_stuckOf_26 rfl ?_
          refine jm_iald (pc := 27) dM_stuckOf_27 rfl (by decide) rfl (fun _ => rfl) ?hin ?_
          case hin =>
            exact vp_in_nI (N := 250) (by omega) (by decide)
          rw [nI_clamp (by omega), hb]
          refine jm_istore_n (pc := 28) dM_stuckOf_28 (by decide) ?_
          refine jm_goto (pc := 29) (tgt := 2) dM_stuckOf_29 (by decide) ?_
          exact ih p k hpk hf
set_option maxRecDepth 100000 in
set_option maxHeartbeats 4000000 in
theorem c_M_stuckOf {f k : Nat} (hm : mF st) (hT : TR E) (hN : MN E st) (h0 : 0 < eN E) (hb : blF E st f 0 k) : MC l D mM_stuckOf d 0 0 [vR (some (5, 0))] st (fun v s' => v = some (vI (nI k)) ∧ st = s') := by
  refine jm_start (ls0 := [some (vR (some (5, 0))), none]) (by decide) (Nat.le_of_ble_eq_true rfl) rfl ?_
  refine jm_iconst (pc := 0) (v := 0) dM_stuckOf_0 (by decide) ?_
  refine jm_istore_n (pc := 1) dM_stuckOf_1 (by decide) ?_
  exact lp_M_stuckOf hm hT hN f 0 k h0 hb
end CN3
