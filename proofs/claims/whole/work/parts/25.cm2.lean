section CM2
variable {l : Launch} {D : mD} {d : Nat} {st : aS} {E : EE}
set_option maxRecDepth 100000 in
set_option maxHeartbeats 4000000 in
theorem c_M_same {i x y : Nat} {S : Int64} (hm : mF st) (hi : i < 250) (hx : x < 60) (hy : y < 60) (hd : 1 ≤ d) : MC l D mM_same d 0 0 [vR (some (5, 0)), vI (nI i), vI (nI x), vI (nI y), vL S] st (aM st i S (sameR (b1 x) (b1 y) S)) := by
  refine jm_start (ls0 := [some (vR (some (5, 0))), some (vI (nI i)), some (vI (nI x)), some (vI (nI y)), some (vL S), none, none, none]) (by decide) (Nat.le_of_ble_eq_true rfl) rfl ?_
  refine jm_aload_n (pc := 0) dM_same_0 rfl ?_
  refine jm_lload (pc := 1) dM_same_1 rfl ?_
  refine jm_iload_n (pc := 3) dM_same_3 rfl ?_
  refine jm_callV (pc := 4) (c_M_isIn (d := d - 1) _ hx) fM_isIn vM_isIn cM_163 dM_same_4 rfl rfl rfl rfl (by omega) ⟨Nat.le_refl _, Nat.le_refl _⟩ rfl (Nat.le_of_ble_eq_true rfl) (fun v s2 hq => ?_)
  obtain ⟨rfl, rfl⟩ := hq
  refine jm_istore (pc := 7) dM_same_7 (by decide) ?_
  refine jm_aload_n (pc := 9) dM_same_9 rfl ?_
  refine jm_lload (pc := 10) dM_same_10 rfl ?_
  refine jm_iload_n (pc := 12) dM_same_12 rfl ?_
  refine jm_callV (pc := 13) (c_M_isIn (d := d - 1) _ hy) fM_isIn vM_isIn cM_163 dM_same_13 rfl rfl rfl rfl (by omega) ⟨Nat.le_refl _, Nat.le_refl _⟩ rfl (Nat.le_of_ble_eq_true rfl) (fun v s2 hq => ?_)
  obtain ⟨rfl, rfl⟩ := hq
  refine jm_istore (pc := 16) dM_same_16 (by decide) ?_
  have bx : b1 x &&& nt S = 0 ↔ S.toBitVec.getLsbD x = true := b1_sub (by omega)
  have by_ : b1 y &&& nt S = 0 ↔ S.toBitVec.getLsbD y = true := b1_sub (by omega)
  refine jm_iload (pc := 18) dM_same_18 rfl ?_
  refine jm_if_ne (pc := 20) (tgt := 29) dM_same_20 (by decide) (fun h20 => ?_) (fun h20 => ?_)
  · refine jm_aload_n (pc := 29) dM_same_29 rfl ?_
    refine jm_iload_n (pc := 30) dM_same_30 rfl ?_
    refine jm_iload (pc := 31) dM_same_31 rfl ?_
    refine jm_if_eq (pc := 33) (tgt := 45) dM_same_33 (by decide) (fun h33 => ?_) (fun h33 => ?_)
    · refine jm_iload (pc := 45) dM_same_45 rfl ?_
      refine jm_if_eq (pc := 47) (tgt := 54) dM_same_47 (by decide) (fun h47 => ?_) (fun h47 => ?_)
      · refine jm_iconst (pc := 54) (v := 3) dM_same_54 (by decide) ?_
        refine jm_lload (pc := 55) dM_same_55 rfl ?_
        refine jm_lconst (pc := 57) (v := 1) dM_same_57 (by decide) ?_
        refine jm_iload_n (pc := 58) dM_same_58 rfl ?_
        refine jm_lshl (pc := 59) dM_same_59 ?_
        refine jm_lor (pc := 60) dM_same_60 ?_
        refine jm_lconst (pc := 61) (v := 1) dM_same_61 (by decide) ?_
        refine jm_iload_n (pc := 62) dM_same_62 rfl ?_
        refine jm_lshl (pc := 63) dM_same_63 ?_
        refine jm_lor (pc := 64) dM_same_64 ?_
        refine jm_callV (pc := 65) (c_M_comes (d := d - 1) _ _ hm hi) fM_comes vM_comes cM_167 dM_same_65 rfl rfl rfl rfl (by omega) ⟨Nat.le_refl _, Nat.le_refl _⟩ rfl (Nat.le_of_ble_eq_true rfl) (fun v s2 hq => ?_)
        obtain ⟨rfl, rfl⟩ := hq
        refine jm_vret (pc := 68) dM_same_68 rfl ⟨Nat.le_refl _, Nat.le_refl _⟩ ?_
        first
          | exact absurd h33 h20
          | exact absurd h33 h47
          | exact absurd h47 h33
          | exact aM_s (w := 1) (m := 0) (by unfold sameR; rw [if_pos (or_sub.mpr ⟨bx.mpr (jb_ne0 h33), by_.mpr (jb_ne0 h38)⟩)]) (by rw [i64_or0]; show S ||| b1 x ||| b1 y = S; rw [or_in (bx.mpr (jb_ne0 h33)), or_in (by_.mpr (jb_ne0 h38))]) rfl
          | exact aM_s (w := 2) (m := b1 y) (by unfold sameR; rw [if_neg (fun q => jb_eq0 h38 (by_.mp (or_sub.mp q).2)), if_pos (bx.mpr (jb_ne0 h33))]) (by show S ||| b1 x ||| b1 y = _; rw [or_in (bx.mpr (jb_ne0 h33))]) rfl
          | exact aM_s (w := 3) (m := b1 x) (by unfold sameR; rw [if_neg (fun q => jb_eq0 h33 (bx.mp (or_sub.mp q).1)), if_neg (fun q => jb_eq0 h33 (bx.mp q)), if_pos (by_.mpr (jb_ne0 h25))]) (by show S ||| b1 x ||| b1 y = _; rw [or_swap (by_.mpr (jb_ne0 h25))]) rfl
      · refine jm_iconst (pc := 50) (v := 2) dM_same_50 (by decide) ?_
        refine jm_goto (pc := 51) (tgt := 55) dM_same_51 (by decide) ?_
        refine jm_lload (pc := 55) dM_same_55 rfl ?_
        refine jm_lconst (pc := 57) (v := 1) dM_same_57 (by decide) ?_
        refine jm_iload_n (pc := 58) dM_same_58 rfl ?_
        refine jm_lshl (pc := 59) dM_same_59 ?_
        refine jm_lor (pc := 60) dM_same_60 ?_
        refine jm_lconst (pc := 61) (v := 1) dM_same_61 (by decide) ?_
        refine jm_iload_n (pc := 62) dM_same_62 rfl ?_
        refine jm_lshl (pc := 63) dM_same_63 ?_
        refine jm_lor (pc := 64) dM_same_64 ?_
        refine jm_callV (pc := 65) (c_M_comes (d := d - 1) _ _ hm hi) fM_comes vM_comes cM_167 dM_same_65 rfl rfl rfl rfl (by omega) ⟨Nat.le_refl _, Nat.le_refl _⟩ rfl (Nat.le_of_ble_eq_true rfl) (fun v s2 hq => ?_)
        obtain ⟨rfl, rfl⟩ := hq
        refine jm_vret (pc := 68) dM_same_68 rfl ⟨Nat.le_refl _, Nat.le_refl _⟩ ?_
        first
          | exact absurd h33 h20
          | exact absurd h33 h47
          | exact absurd h47 h33
          | exact aM_s (w := 1) (m := 0) (by unfold sameR; rw [if_pos (or_sub.mpr ⟨bx.mpr (jb_ne0 h33), by_.mpr (jb_ne0 h38)⟩)]) (by rw [i64_or0]; show S ||| b1 x ||| b1 y = S; rw [or_in (bx.mpr (jb_ne0 h33)), or_in (by_.mpr (jb_ne0 h38))]) rfl
          | exact aM_s (w := 2) (m := b1 y) (by unfold sameR; rw [if_neg (fun q => jb_eq0 h38 (by_.mp (or_sub.mp q).2)), if_pos (bx.mpr (jb_ne0 h33))]) (by show S ||| b1 x ||| b1 y = _; rw [or_in (bx.mpr (jb_ne0 h33))]) rfl
          | exact aM_s (w := 3) (m := b1 x) (by unfold sameR; rw [if_neg (fun q => jb_eq0 h33 (bx.mp (or_sub.mp q).1)), if_neg (fun q => jb_eq0 h33 (bx.mp q)), if_pos (by_.mpr (jb_ne0 h25))]) (by show S ||| b1 x ||| b1 y = _; rw [or_swap (by_.mpr (jb_ne0 h25))]) rfl
    · refine jm_iload (pc := 36) dM_same_36 rfl ?_
      refine jm_if_eq (pc := 38) (tgt := 45) dM_same_38 (by decide) (fun h38 => ?_) (fun h38 => ?_)
      · refine jm_iload (pc := 45) dM_same_45 rfl ?_
        refine jm_if_eq (pc := 47) (tgt := 54) dM_same_47 (by decide) (fun h47 => ?_) (fun h47 => ?_)
        · refine jm_iconst (pc := 54) (v := 3) dM_same_54 (by decide) ?_
          refine jm_lload (pc := 55) dM_same_55 rfl ?_
          refine jm_lconst (pc := 57) (v := 1) dM_same_57 (by decide) ?_
          refine jm_iload_n (pc := 58) dM_same_58 rfl ?_
          refine jm_lshl (pc := 59) dM_same_59 ?_
          refine jm_lor (pc := 60) dM_same_60 ?_
          refine jm_lconst (pc := 61) (v := 1) dM_same_61 (by decide) ?_
          refine jm_iload_n (pc := 62) dM_same_62 rfl ?_
          refine jm_lshl (pc := 63) dM_same_63 ?_
          refine jm_lor (pc := 64) dM_same_64 ?_
          refine jm_callV (pc := 65) (c_M_comes (d := d - 1) _ _ hm hi) fM_comes vM_comes cM_167 dM_same_65 rfl rfl rfl rfl (by omega) ⟨Nat.le_refl _, Nat.le_refl _⟩ rfl (Nat.le_of_ble_eq_true rfl) (fun v s2 hq => ?_)
          obtain ⟨rfl, rfl⟩ := hq
          refine jm_vret (pc := 68) dM_same_68 rfl ⟨Nat.le_refl _, Nat.le_refl _⟩ ?_
          first
            | exact absurd h33 h20
            | exact absurd h33 h47
            | exact absurd h47 h33
            | exact aM_s (w := 1) (m := 0) (by unfold sameR; rw [if_pos (or_sub.mpr ⟨bx.mpr (jb_ne0 h33), by_.mpr (jb_ne0 h38)⟩)]) (by rw [i64_or0]; show S ||| b1 x ||| b1 y = S; rw [or_in (bx.mpr (jb_ne0 h33)), or_in (by_.mpr (jb_ne0 h38))]) rfl
            | exact aM_s (w := 2) (m := b1 y) (by unfold sameR; rw [if_neg (fun q => jb_eq0 h38 (by_.mp (or_sub.mp q).2)), if_pos (bx.mpr (jb_ne0 h33))]) (by show S ||| b1 x ||| b1 y = _; rw [or_in (bx.mpr (jb_ne0 h33))]) rfl
            | exact aM_s (w := 3) (m := b1 x) (by unfold sameR; rw [if_neg (fun q => jb_eq0 h33 (bx.mp (or_sub.mp q).1)), if_neg (fun q => jb_eq0 h33 (bx.mp q)), if_pos (by_.mpr (jb_ne0 h25))]) (by show S ||| b1 x ||| b1 y = _; rw [or_swap (by_.mpr (jb_ne0 h25))]) rfl
        · refine jm_iconst (pc := 50) (v := 2) dM_same_50 (by decide) ?_
          refine jm_goto (pc := 51) (tgt := 55) dM_same_51 (by decide) ?_
          refine jm_lload (pc := 55) dM_same_55 rfl ?_
          refine jm_lconst (pc := 57) (v := 1) dM_same_57 (by decide) ?_
          refine jm_iload_n (pc := 58) dM_same_58 rfl ?_
          refine jm_lshl (pc := 59) dM_same_59 ?_
          refine jm_lor (pc := 60) dM_same_60 ?_
          refine jm_lconst (pc := 61) (v := 1) dM_same_61 (by decide) ?_
          refine jm_iload_n (pc := 62) dM_same_62 rfl ?_
          refine jm_lshl (pc := 63) dM_same_63 ?_
          refine jm_lor (pc := 64) dM_same_64 ?_
          refine jm_callV (pc := 65) (c_M_comes (d := d - 1) _ _ hm hi) fM_comes vM_comes cM_167 dM_same_65 rfl rfl rfl rfl (by omega) ⟨Nat.le_refl _, Nat.le_refl _⟩ rfl (Nat.le_of_ble_eq_true rfl) (fun v s2 hq => ?_)
          obtain ⟨rfl, rfl⟩ := hq
          refine jm_vret (pc := 68) dM_same_68 rfl ⟨Nat.le_refl _, Nat.le_refl _⟩ ?_
          first
            | exact absurd h33 h20
            | exact absurd h33 h47
            | exact absurd h47 h33
            | exact aM_s (w := 1) (m := 0) (by unfold sameR; rw [if_pos (or_sub.mpr ⟨bx.mpr (jb_ne0 h33), by_.mpr (jb_ne0 h38)⟩)]) (by rw [i64_or0]; show S ||| b1 x ||| b1 y = S; rw [or_in (bx.mpr (jb_ne0 h33)), or_in (by_.mpr (jb_ne0 h38))]) rfl
            | exact aM_s (w := 2) (m := b1 y) (by unfold sameR; rw [if_neg (fun q => jb_eq0 h38 (by_.mp (or_sub.mp q).2)), if_pos (bx.mpr (jb_ne0 h33))]) (by show S ||| b1 x ||| b1 y = _; rw [or_in (bx.mpr (jb_ne0 h33))]) rfl
            | exact aM_s (w := 3) (m := b1 x) (by unfold sameR; rw [if_neg (fun q => jb_eq0 h33 (bx.mp (or_sub.mp q).1)), if_neg (fun q => jb_eq0 h33 (bx.mp q)), if_pos (by_.mpr (jb_ne0 h25))]) (by show S ||| b1 x ||| b1 y = _; rw [or_swap (by_.mpr (jb_ne0 h25))]) rfl
      · refine jm_iconst (pc := 41) (v := 1) dM_same_41 (by decide) ?_
        refine jm_goto (pc := 42) (tgt := 55) dM_same_42 (by decide) ?_
        refine jm_lload (pc := 55) dM_same_55 rfl ?_
        refine jm_lconst (pc := 57) (v := 1) dM_same_57 (by decide) ?_
        refine jm_iload_n (pc := 58) dM_same_58 rfl ?_
        refine jm_lshl (pc := 59) dM_same_59 ?_
        refine jm_lor (pc := 60) dM_same_60 ?_
        refine jm_lconst (pc := 61) (v := 1) dM_same_61 (by decide) ?_
        refine jm_iload_n (pc := 62) dM_same_62 rfl ?_
        refine jm_lshl (pc := 63) dM_same_63 ?_
        refine jm_lor (pc := 64) dM_same_64 ?_
        refine jm_callV (pc := 65) (c_M_comes (d := d - 1) _ _ hm hi) fM_comes vM_comes cM_167 dM_same_65 rfl rfl rfl rfl (by omega) ⟨Nat.le_refl _, Nat.le_refl _⟩ rfl (Nat.le_of_ble_eq_true rfl) (fun v s2 hq => ?_)
        obtain ⟨rfl, rfl⟩ := hq
        refine jm_vret (pc := 68) dM_same_68 rfl ⟨Nat.le_refl _, Nat.le_refl _⟩ ?_
        first
          | exact absurd h33 h20
          | exact absurd h33 h47
          | exact absurd h47 h33
          | exact aM_s (w := 1) (m := 0) (by unfold sameR; rw [if_pos (or_sub.mpr ⟨bx.mpr (jb_ne0 h33), by_.mpr (jb_ne0 h38)⟩)]) (by rw [i64_or0]; show S ||| b1 x ||| b1 y = S; rw [or_in (bx.mpr (jb_ne0 h33)), or_in (by_.mpr (jb_ne0 h38))]) rfl
          | exact aM_s (w := 2) (m := b1 y) (by unfold sameR; rw [if_neg (fun q => jb_eq0 h38 (by_.mp (or_sub.mp q).2)), if_pos (bx.mpr (jb_ne0 h33))]) (by show S ||| b1 x ||| b1 y = _; rw [or_in (bx.mpr (jb_ne0 h33))]) rfl
          | exact aM_s (w := 3) (m := b1 x) (by unfold sameR; rw [if_neg (fun q => jb_eq0 h33 (bx.mp (or_sub.mp q).1)), if_neg (fun q => jb_eq0 h33 (bx.mp q)), if_pos (by_.mpr (jb_ne0 h25))]) (by show S ||| b1 x ||| b1 y = _; rw [or_swap (by_.mpr (jb_ne0 h25))]) rfl
  · refine jm_iload (pc := 23) dM_same_23 rfl ?_
    refine jm_if_ne (pc := 25) (tgt := 29) dM_same_25 (by decide) (fun h25 => ?_) (fun h25 => ?_)
    · refine jm_aload_n (pc := 29) dM_same_29 rfl ?_
      refine jm_iload_n (pc := 30) dM_same_30 rfl ?_
      refine jm_iload (pc := 31) dM_same_31 rfl ?_
      refine jm_if_eq (pc := 33) (tgt := 45) dM_same_33 (by decide) (fun h33 => ?_) (fun h33 => ?_)
      · refine jm_iload (pc := 45) dM_same_45 rfl ?_
        refine jm_if_eq (pc := 47) (tgt := 54) dM_same_47 (by decide) (fun h47 => ?_) (fun h47 => ?_)
        · refine jm_iconst (pc := 54) (v := 3) dM_same_54 (by decide) ?_
          refine jm_lload (pc := 55) dM_same_55 rfl ?_
          refine jm_lconst (pc := 57) (v := 1) dM_same_57 (by decide) ?_
          refine jm_iload_n (pc := 58) dM_same_58 rfl ?_
          refine jm_lshl (pc := 59) dM_same_59 ?_
          refine jm_lor (pc := 60) dM_same_60 ?_
          refine jm_lconst (pc := 61) (v := 1) dM_same_61 (by decide) ?_
          refine jm_iload_n (pc := 62) dM_same_62 rfl ?_
          refine jm_lshl (pc := 63) dM_same_63 ?_
          refine jm_lor (pc := 64) dM_same_64 ?_
          refine jm_callV (pc := 65) (c_M_comes (d := d - 1) _ _ hm hi) fM_comes vM_comes cM_167 dM_same_65 rfl rfl rfl rfl (by omega) ⟨Nat.le_refl _, Nat.le_refl _⟩ rfl (Nat.le_of_ble_eq_true rfl) (fun v s2 hq => ?_)
          obtain ⟨rfl, rfl⟩ := hq
          refine jm_vret (pc := 68) dM_same_68 rfl ⟨Nat.le_refl _, Nat.le_refl _⟩ ?_
          first
            | exact absurd h33 h20
            | exact absurd h33 h47
            | exact absurd h47 h33
            | exact aM_s (w := 1) (m := 0) (by unfold sameR; rw [if_pos (or_sub.mpr ⟨bx.mpr (jb_ne0 h33), by_.mpr (jb_ne0 h38)⟩)]) (by rw [i64_or0]; show S ||| b1 x ||| b1 y = S; rw [or_in (bx.mpr (jb_ne0 h33)), or_in (by_.mpr (jb_ne0 h38))]) rfl
            | exact aM_s (w := 2) (m := b1 y) (by unfold sameR; rw [if_neg (fun q => jb_eq0 h38 (by_.mp (or_sub.mp q).2)), if_pos (bx.mpr (jb_ne0 h33))]) (by show S ||| b1 x ||| b1 y = _; rw [or_in (bx.mpr (jb_ne0 h33))]) rfl
            | exact aM_s (w := 3) (m := b1 x) (by unfold sameR; rw [if_neg (fun q => jb_eq0 h33 (bx.mp (or_sub.mp q).1)), if_neg (fun q => jb_eq0 h33 (bx.mp q)), if_pos (by_.mpr (jb_ne0 h25))]) (by show S ||| b1 x ||| b1 y = _; rw [or_swap (by_.mpr (jb_ne0 h25))]) rfl
        · refine jm_iconst (pc := 50) (v := 2) dM_same_50 (by decide) ?_
          refine jm_goto (pc := 51) (tgt := 55) dM_same_51 (by decide) ?_
          refine jm_lload (pc := 55) dM_same_55 rfl ?_
          refine jm_lconst (pc := 57) (v := 1) dM_same_57 (by decide) ?_
          refine jm_iload_n (pc := 58) dM_same_58 rfl ?_
          refine jm_lshl (pc := 59) dM_same_59 ?_
          refine jm_lor (pc := 60) dM_same_60 ?_
          refine jm_lconst (pc := 61) (v := 1) dM_same_61 (by decide) ?_
          refine jm_iload_n (pc := 62) dM_same_62 rfl ?_
          refine jm_lshl (pc := 63) dM_same_63 ?_
          refine jm_lor (pc := 64) dM_same_64 ?_
          refine jm_callV (pc := 65) (c_M_comes (d := d - 1) _ _ hm hi) fM_comes vM_comes cM_167 dM_same_65 rfl rfl rfl rfl (by omega) ⟨Nat.le_refl _, Nat.le_refl _⟩ rfl (Nat.le_of_ble_eq_true rfl) (fun v s2 hq => ?_)
          obtain ⟨rfl, rfl⟩ := hq
          refine jm_vret (pc := 68) dM_same_68 rfl ⟨Nat.le_refl _, Nat.le_refl _⟩ ?_
          first
            | exact absurd h33 h20
            | exact absurd h33 h47
            | exact absurd h47 h33
            | exact aM_s (w := 1) (m := 0) (by unfold sameR; rw [if_pos (or_sub.mpr ⟨bx.mpr (jb_ne0 h33), by_.mpr (jb_ne0 h38)⟩)]) (by rw [i64_or0]; show S ||| b1 x ||| b1 y = S; rw [or_in (bx.mpr (jb_ne0 h33)), or_in (by_.mpr (jb_ne0 h38))]) rfl
            | exact aM_s (w := 2) (m := b1 y) (by unfold sameR; rw [if_neg (fun q => jb_eq0 h38 (by_.mp (or_sub.mp q).2)), if_pos (bx.mpr (jb_ne0 h33))]) (by show S ||| b1 x ||| b1 y = _; rw [or_in (bx.mpr (jb_ne0 h33))]) rfl
            | exact aM_s (w := 3) (m := b1 x) (by unfold sameR; rw [if_neg (fun q => jb_eq0 h33 (bx.mp (or_sub.mp q).1)), if_neg (fun q => jb_eq0 h33 (bx.mp q)), if_pos (by_.mpr (jb_ne0 h25))]) (by show S ||| b1 x ||| b1 y = _; rw [or_swap (by_.mpr (jb_ne0 h25))]) rfl
      · refine jm_iload (pc := 36) dM_same_36 rfl ?_
        refine jm_if_eq (pc := 38) (tgt := 45) dM_same_38 (by decide) (fun h38 => ?_) (fun h38 => ?_)
        · refine jm_iload (pc := 45) dM_same_45 rfl ?_
          refine jm_if_eq (pc := 47) (tgt := 54) dM_same_47 (by decide) (fun h47 => ?_) (fun h47 => ?_)
          · refine jm_iconst (pc := 54) (v := 3) dM_same_54 (by decide) ?_
            refine jm_lload (pc := 55) dM_same_55 rfl ?_
            refine jm_lconst (pc := 57) (v := 1) dM_same_57 (by decide) ?_
            refine jm_iload_n (pc := 58) dM_same_58 rfl ?_
            refine jm_lshl (pc := 59) dM_same_59 ?_
            refine jm_lor (pc := 60) dM_same_60 ?_
            refine jm_lconst (pc := 61) (v := 1) dM_same_61 (by decide) ?_
            refine jm_iload_n (pc := 62) dM_same_62 rfl ?_
            refine jm_lshl (pc := 63) dM_same_63 ?_
            refine jm_lor (pc := 64) dM_same_64 ?_
            refine jm_callV (pc := 65) (c_M_comes (d := d - 1) _ _ hm hi) fM_comes vM_comes cM_167 dM_same_65 rfl rfl rfl rfl (by omega) ⟨Nat.le_refl _, Nat.le_refl _⟩ rfl (Nat.le_of_ble_eq_true rfl) (fun v s2 hq => ?_)
            obtain ⟨rfl, rfl⟩ := hq
            refine jm_vret (pc := 68) dM_same_68 rfl ⟨Nat.le_refl _, Nat.le_refl _⟩ ?_
            first
              | exact absurd h33 h20
              | exact absurd h33 h47
              | exact absurd h47 h33
              | exact aM_s (w := 1) (m := 0) (by unfold sameR; rw [if_pos (or_sub.mpr ⟨bx.mpr (jb_ne0 h33), by_.mpr (jb_ne0 h38)⟩)]) (by rw [i64_or0]; show S ||| b1 x ||| b1 y = S; rw [or_in (bx.mpr (jb_ne0 h33)), or_in (by_.mpr (jb_ne0 h38))]) rfl
              | exact aM_s (w := 2) (m := b1 y) (by unfold sameR; rw [if_neg (fun q => jb_eq0 h38 (by_.mp (or_sub.mp q).2)), if_pos (bx.mpr (jb_ne0 h33))]) (by show S ||| b1 x ||| b1 y = _; rw [or_in (bx.mpr (jb_ne0 h33))]) rfl
              | exact aM_s (w := 3) (m := b1 x) (by unfold sameR; rw [if_neg (fun q => jb_eq0 h33 (bx.mp (or_sub.mp q).1)), if_neg (fun q => jb_eq0 h33 (bx.mp q)), if_pos (by_.mpr (jb_ne0 h25))]) (by show S ||| b1 x ||| b1 y = _; rw [or_swap (by_.mpr (jb_ne0 h25))]) rfl
          · refine jm_iconst (pc := 50) (v := 2) dM_same_50 (by decide) ?_
            refine jm_goto (pc := 51) (tgt := 55) dM_same_51 (by decide) ?_
            refine jm_lload (pc := 55) dM_same_55 rfl ?_
            refine jm_lconst (pc := 57) (v := 1) dM_same_57 (by decide) ?_
            refine jm_iload_n (pc := 58) dM_same_58 rfl ?_
            refine jm_lshl (pc := 59) dM_same_59 ?_
            refine jm_lor (pc := 60) dM_same_60 ?_
            refine jm_lconst (pc := 61) (v := 1) dM_same_61 (by decide) ?_
            refine jm_iload_n (pc := 62) dM_same_62 rfl ?_
            refine jm_lshl (pc := 63) dM_same_63 ?_
            refine jm_lor (pc := 64) dM_same_64 ?_
            refine jm_callV (pc := 65) (c_M_comes (d := d - 1) _ _ hm hi) fM_comes vM_comes cM_167 dM_same_65 rfl rfl rfl rfl (by omega) ⟨Nat.le_refl _, Nat.le_refl _⟩ rfl (Nat.le_of_ble_eq_true rfl) (fun v s2 hq => ?_)
            obtain ⟨rfl, rfl⟩ := hq
            refine jm_vret (pc := 68) dM_same_68 rfl ⟨Nat.le_refl _, Nat.le_refl _⟩ ?_
            first
              | exact absurd h33 h20
              | exact absurd h33 h47
              | exact absurd h47 h33
              | exact aM_s (w := 1) (m := 0) (by unfold sameR; rw [if_pos (or_sub.mpr ⟨bx.mpr (jb_ne0 h33), by_.mpr (jb_ne0 h38)⟩)]) (by rw [i64_or0]; show S ||| b1 x ||| b1 y = S; rw [or_in (bx.mpr (jb_ne0 h33)), or_in (by_.mpr (jb_ne0 h38))]) rfl
              | exact aM_s (w := 2) (m := b1 y) (by unfold sameR; rw [if_neg (fun q => jb_eq0 h38 (by_.mp (or_sub.mp q).2)), if_pos (bx.mpr (jb_ne0 h33))]) (by show S ||| b1 x ||| b1 y = _; rw [or_in (bx.mpr (jb_ne0 h33))]) rfl
              | exact aM_s (w := 3) (m := b1 x) (by unfold sameR; rw [if_neg (fun q => jb_eq0 h33 (bx.mp (or_sub.mp q).1)), if_neg (fun q => jb_eq0 h33 (bx.mp q)), if_pos (by_.mpr (jb_ne0 h25))]) (by show S ||| b1 x ||| b1 y = _; rw [or_swap (by_.mpr (jb_ne0 h25))]) rfl
        · refine jm_iconst (pc := 41) (v := 1) dM_same_41 (by decide) ?_
          refine jm_goto (pc := 42) (tgt := 55) dM_same_42 (by decide) ?_
          refine jm_lload (pc := 55) dM_same_55 rfl ?_
          refine jm_lconst (pc := 57) (v := 1) dM_same_57 (by decide) ?_
          refine jm_iload_n (pc := 58) dM_same_58 rfl ?_
          refine jm_lshl (pc := 59) dM_same_59 ?_
          refine jm_lor (pc := 60) dM_same_60 ?_
          refine jm_lconst (pc := 61) (v := 1) dM_same_61 (by decide) ?_
          refine jm_iload_n (pc := 62) dM_same_62 rfl ?_
          refine jm_lshl (pc := 63) dM_same_63 ?_
          refine jm_lor (pc := 64) dM_same_64 ?_
          refine jm_callV (pc := 65) (c_M_comes (d := d - 1) _ _ hm hi) fM_comes vM_comes cM_167 dM_same_65 rfl rfl rfl rfl (by omega) ⟨Nat.le_refl _, Nat.le_refl _⟩ rfl (Nat.le_of_ble_eq_true rfl) (fun v s2 hq => ?_)
          obtain ⟨rfl, rfl⟩ := hq
          refine jm_vret (pc := 68) dM_same_68 rfl ⟨Nat.le_refl _, Nat.le_refl _⟩ ?_
          first
            | exact absurd h33 h20
            | exact absurd h33 h47
            | exact absurd h47 h33
            | exact aM_s (w := 1) (m := 0) (by unfold sameR; rw [if_pos (or_sub.mpr ⟨bx.mpr (jb_ne0 h33), by_.mpr (jb_ne0 h38)⟩)]) (by rw [i64_or0]; show S ||| b1 x ||| b1 y = S; rw [or_in (bx.mpr (jb_ne0 h33)), or_in (by_.mpr (jb_ne0 h38))]) rfl
            | exact aM_s (w := 2) (m := b1 y) (by unfold sameR; rw [if_neg (fun q => jb_eq0 h38 (by_.mp (or_sub.mp q).2)), if_pos (bx.mpr (jb_ne0 h33))]) (by show S ||| b1 x ||| b1 y = _; rw [or_in (bx.mpr (jb_ne0 h33))]) rfl
            | exact aM_s (w := 3) (m := b1 x) (by unfold sameR; rw [if_neg (fun q => jb_eq0 h33 (bx.mp (or_sub.mp q).1)), if_neg (fun q => jb_eq0 h33 (bx.mp q)), if_pos (by_.mpr (jb_ne0 h25))]) (by show S ||| b1 x ||| b1 y = _; rw [or_swap (by_.mpr (jb_ne0 h25))]) rfl
    · refine jm_vret (pc := 28) dM_same_28 rfl ⟨Nat.le_refl _, Nat.le_refl _⟩ ?_
      exact aM_n (by unfold sameR; rw [if_neg (fun q => jb_eq0 h20 (bx.mp (or_sub.mp q).1)), if_neg (fun q => jb_eq0 h20 (bx.mp q)), if_neg (fun q => jb_eq0 h25 (by_.mp q))])
set_option maxRecDepth 100000 in
set_option maxHeartbeats 4000000 in
theorem lp_M_compare {i w s : Nat} {vr : Nat → Nat} {o : Int32} {S0 : Int64} {st0 : aS} (hm : mF st0) (hv : mV st0 i w vr) (hs : st0.1 15 0 i = nI s) (hs9 : s < 100) (hd : 1 ≤ d) : ∀ (n : Nat) (k : Nat) (x : Int32) (S : Int64) (acc : Int32) (x8 x9 : Option aV), x = nI k → k ≤ w → w - k < n → cmF (fun k => if s = 8 then decide (0 < k) else oB o k) vr (w - k) k S acc = cmF (fun k => if s = 8 then decide (0 < k) else oB o k) vr w 0 S0 (st0.1 35 0 i) → MS l D mM_compare d 0 0 (fun v s' => s' = sI st0 35 0 i (cmF (fun k => if s = 8 then decide (0 < k) else oB o k) vr w 0 S0 (st0.1 35 0 i)) ∧ v = none) 0 0 6 [some (vR (some (5, 0))), some (vI (nI i)), some (vI o), some (vL S0), none, some (vL S), none, some (vI x), x8, x9] [] (sI st0 35 0 i acc) := by
  intro n
  induction n with
  | zero =>
    intro k x S acc x8 x9 hx hk hn hS
    omega
  | succ n ih =>
    intro k x S acc x8 x9 hx hk hn hS
    refine jm_iload (pc := 6) dM_compare_6 rfl ?_
    refine jm_aload_n (pc := 8) dM_compare_8 rfl ?_
    
    refine jm_getq (pc := 9) lM_43 dM_compare_9 rfl rfl (hm 14 rfl) ?_
    refine jm_iload_n (pc := 12) dM_compare_12 rfl ?_
    refine jm_iald (pc := 13) dM_compare_13 rfl (by decide) rfl (fun _ => rfl) ?hin ?_
    case hin =>
      have h250 := hv.2.2.1
      exact vp_in_nI (N := 250) (by omega) (by decide)
    have h250 := hv.2.2.1
    have hw7 := hv.2.1
    rw [nI_clamp (by omega), show (sI st0 35 0 i acc).1 23 0 i = nI w from (sI_ne (by omega)).trans hv.1]
    refine jm_icmp_ge (pc := 14) (tgt := 119) dM_compare_14 (by decide) (fun h14 => ?_) (fun h14 => ?_)
    · refine jm_vret (pc := 119) dM_compare_119 rfl ⟨Nat.le_refl _, Nat.le_refl _⟩ ?_
      have hkw : ¬ k < w := fun q => nI_ge q (by omega) (by rw [hx] at h14; exact h14)
      rw [show w - k = 0 by omega] at hS
      exact ⟨by rw [← hS]; rfl, rfl⟩
    · have hkw : k < w := Nat.lt_of_not_le fun q => h14 (by rw [hx]; exact nI_le q (by omega))
      subst hx
      have hva := hv.2.2.2 k hkw
      refine jm_aload_n (pc := 17) dM_compare_17 rfl ?_
      refine jm_getq (pc := 18) lM_19 dM_compare_18 rfl rfl (hm 6 rfl) ?_
      refine jm_iload_n (pc := 21) dM_compare_21 rfl ?_
      refine jm_iald (pc := 22) dM_compare_22 rfl (by decide) rfl (fun _ => rfl) ?hin ?_
      case hin =>
        exact vp_in_nI (N := 250) (by omega) (by decide)
      refine jm_bipush (pc := 23) (v := 8) dM_compare_23 (by decide) ?_
      rw [nI_clamp (by omega), show (sI st0 35 0 i acc).1 15 0 i = nI s from (sI_ne (by omega)).trans hs]
      refine jm_icmp_ne (pc := 25) (tgt := 41) dM_compare_25 (by decide) (fun h25 => ?_) (fun h25 => ?_)
      · refine jm_iload_n (pc := 41) dM_compare_41 rfl ?_
        refine jm_iload (pc := 42) dM_compare_42 rfl ?_
        refine jm_ishr (pc := 44) dM_compare_44 ?_
        refine jm_iconst (pc := 45) (v := 1) dM_compare_45 (by decide) ?_
        refine jm_iand (pc := 46) dM_compare_46 ?_
        refine jm_iconst (pc := 47) (v := 1) dM_compare_47 (by decide) ?_
        refine jm_icmp_ne (pc := 48) (tgt := 55) dM_compare_48 (by decide) (fun h48 => ?_) (fun h48 => ?_)
        · refine jm_iconst (pc := 55) (v := 0) dM_compare_55 (by decide) ?_
          refine jm_istore (pc := 56) dM_compare_56 (by decide) ?_
          refine jm_iload (pc := 58) dM_compare_58 rfl ?_
          refine jm_if_ne (pc := 60) (tgt := 66) dM_compare_60 (by decide) (fun h60 => ?_) (fun h60 => ?_)
          · refine jm_aload_n (pc := 66) dM_compare_66 rfl ?_
            refine jm_getq (pc := 67) lM_46 dM_compare_67 rfl rfl (hm 15 rfl) ?_
            refine jm_bipush (pc := 70) (v := 7) dM_compare_70 (by decide) ?_
            refine jm_iload_n (pc := 72) dM_compare_72 rfl ?_
            refine jm_imul (pc := 73) dM_compare_73 ?_
            refine jm_iload (pc := 74) dM_compare_74 rfl ?_
            refine jm_iadd (pc := 76) dM_compare_76 ?_
            rw [e7]
            refine jm_iald (pc := 77) dM_compare_77 rfl (by decide) rfl (fun _ => rfl) ?hin ?_
            case hin =>
              exact vp_in_nI (N := 1750) (by omega) (by decide)
            rw [nI_clamp (by omega), show (sI st0 35 0 i acc).1 24 0 (7 * i + k) = nI (vr k) from (sI_ne (by omega)).trans hva.1]
            refine jm_istore (pc := 78) dM_compare_78 (by decide) ?_
            refine jm_aload_n (pc := 80) dM_compare_80 rfl ?_
            refine jm_lload (pc := 81) dM_compare_81 rfl ?_
            refine jm_iload (pc := 83) dM_compare_83 rfl ?_
            refine jm_callV (pc := 85) (c_M_isIn (d := d - 1) _ hva.2) fM_isIn vM_isIn cM_163 dM_compare_85 rfl rfl rfl rfl (by omega) ⟨Nat.le_refl _, Nat.le_refl _⟩ rfl (Nat.le_of_ble_eq_true rfl) (fun v s2 hq => ?_)
            obtain ⟨rfl, rfl⟩ := hq
            refine jm_if_eq (pc := 88) (tgt := 104) dM_compare_88 (by decide) (fun h88 => ?_) (fun h88 => ?_)
            · refine jm_lload (pc := 104) dM_compare_104 rfl ?_
              refine jm_lconst (pc := 106) (v := 1) dM_compare_106 (by decide) ?_
              refine jm_iload (pc := 107) dM_compare_107 rfl ?_
              refine jm_lshl (pc := 109) dM_compare_109 ?_
              refine jm_lor (pc := 110) dM_compare_110 ?_
              refine jm_lstore (pc := 111) dM_compare_111 (by decide) ?_
              refine jm_iinc (pc := 113) dM_compare_113 rfl (by decide) ?_
              refine jm_goto (pc := 116) (tgt := 6) dM_compare_116 (by decide) ?_
              first
                | exact absurd rfl h60
                | exact absurd h60 (by decide)
                | (have hb : (if s = 8 then decide (0 < k) else oB o k) = true := by
                     first
                       | (rw [if_pos (show s = 8 from (nI_eq (a := s) (b := 8) (by omega) (by decide)).mp h25)]
                          exact decide_eq_true (Nat.pos_of_ne_zero (fun q => h30 (by rw [q]; decide))))
                       | (rw [if_neg (show ¬ s = 8 from fun q => h25 (by rw [q]; rfl))]
                          exact (oB_iff (by omega)).mp h48)
                   refine MS.to (ih (k + 1) _ _ (if S.toBitVec.getLsbD (vr k) = true then acc ||| (1 <<< (nI k &&& 31)) else acc) _ _ (ni1 k) (by omega) (by omega) ?_) rfl rfl (by
                     first
                       | (rw [if_pos (jb_ne0 h88), nI_clamp (by omega)]
                          exact sI_sI)
                       | rw [if_neg (jb_eq0 h88)])
                   rw [← hS, show w - k = (w - (k + 1)) + 1 by omega]
                   conv => rhs; unfold cmF
                   rw [if_pos hb]
                   rfl)
                | (have hb : ¬ (if s = 8 then decide (0 < k) else oB o k) = true := by
                     first
                       | (rw [if_pos (show s = 8 from (nI_eq (a := s) (b := 8) (by omega) (by decide)).mp h25)]
                          intro q
                          exact nI_nle (of_decide_eq_true q) (by omega) h30)
                       | (rw [if_neg (show ¬ s = 8 from fun q => h25 (by rw [q]; rfl))]
                          exact fun q => h48 ((oB_iff (by omega)).mpr q))
                   refine ih (k + 1) _ _ acc _ _ (ni1 k) (by omega) (by omega) ?_
                   rw [← hS, show w - k = (w - (k + 1)) + 1 by omega]
                   conv => rhs; unfold cmF
                   rw [if_neg hb])
            · refine jm_aload_n (pc := 91) dM_compare_91 rfl ?_
              refine jm_getq (pc := 92) lM_81 dM_compare_92 rfl rfl (hm 29 rfl) ?_
              refine jm_iload_n (pc := 95) dM_compare_95 rfl ?_
              first | refine jm_dup2_2 (pc := 96) dM_compare_96 rfl ?_ | refine jm_dup2_11 (pc := 96) dM_compare_96 rfl rfl ?_
              refine jm_iald (pc := 97) dM_compare_97 rfl (by decide) rfl (fun _ => rfl) ?hin ?_
              case hin =>
                exact vp_in_nI (N := 250) (by omega) (by decide)
              refine jm_iconst (pc := 98) (v := 1) dM_compare_98 (by decide) ?_
              refine jm_iload (pc := 99) dM_compare_99 rfl ?_
              refine jm_ishl (pc := 101) dM_compare_101 ?_
              refine jm_ior (pc := 102) dM_compare_102 ?_
              rw [nI_clamp (by omega), sI_eq]
              refine jm_iast (pc := 103) dM_compare_103 rfl (by decide) rfl (fun _ => rfl) ?hin ?_
              case hin =>
                exact vp_in_nI (N := 250) (by omega) (by decide)
              refine jm_lload (pc := 104) dM_compare_104 rfl ?_
              refine jm_lconst (pc := 106) (v := 1) dM_compare_106 (by decide) ?_
              refine jm_iload (pc := 107) dM_compare_107 rfl ?_
              refine jm_lshl (pc := 109) dM_compare_109 ?_
              refine jm_lor (pc := 110) dM_compare_110 ?_
              refine jm_lstore (pc := 111) dM_compare_111 (by decide) ?_
              refine jm_iinc (pc := 113) dM_compare_113 rfl (by decide) ?_
              refine jm_goto (pc := 116) (tgt := 6) dM_compare_116 (by decide) ?_
              first
                | exact absurd rfl h60
                | exact absurd h60 (by decide)
                | (have hb : (if s = 8 then decide (0 < k) else oB o k) = true := by
                     first
                       | (rw [if_pos (show s = 8 from (nI_eq (a := s) (b := 8) (by omega) (by decide)).mp h25)]
                          exact decide_eq_true (Nat.pos_of_ne_zero (fun q => h30 (by rw [q]; decide))))
                       | (rw [if_neg (show ¬ s = 8 from fun q => h25 (by rw [q]; rfl))]
                          exact (oB_iff (by omega)).mp h48)
                   refine MS.to (ih (k + 1) _ _ (if S.toBitVec.getLsbD (vr k) = true then acc ||| (1 <<< (nI k &&& 31)) else acc) _ _ (ni1 k) (by omega) (by omega) ?_) rfl rfl (by
                     first
                       | (rw [if_pos (jb_ne0 h88), nI_clamp (by omega)]
                          exact sI_sI)
                       | rw [if_neg (jb_eq0 h88)])
                   rw [← hS, show w - k = (w - (k + 1)) + 1 by omega]
                   conv => rhs; unfold cmF
                   rw [if_pos hb]
                   rfl)
                | (have hb : ¬ (if s = 8 then decide (0 < k) else oB o k) = true := by
                     first
                       | (rw [if_pos (show s = 8 from (nI_eq (a := s) (b := 8) (by omega) (by decide)).mp h25)]
                          intro q
                          exact nI_nle (of_decide_eq_true q) (by omega) h30)
                       | (rw [if_neg (show ¬ s = 8 from fun q => h25 (by rw [q]; rfl))]
                          exact fun q => h48 ((oB_iff (by omega)).mpr q))
                   refine ih (k + 1) _ _ acc _ _ (ni1 k) (by omega) (by omega) ?_
                   rw [← hS, show w - k = (w - (k + 1)) + 1 by omega]
                   conv => rhs; unfold cmF
                   rw [if_neg hb])
          · refine jm_goto (pc := 63) (tgt := 113) dM_compare_63 (by decide) ?_
            refine jm_iinc (pc := 113) dM_compare_113 rfl (by decide) ?_
            refine jm_goto (pc := 116) (tgt := 6) dM_compare_116 (by decide) ?_
            first
              | exact absurd rfl h60
              | exact absurd h60 (by decide)
              | (have hb : (if s = 8 then decide (0 < k) else oB o k) = true := by
                   first
                     | (rw [if_pos (show s = 8 from (nI_eq (a := s) (b := 8) (by omega) (by decide)).mp h25)]
                        exact decide_eq_true (Nat.pos_of_ne_zero (fun q => h30 (by rw [q]; decide))))
                     | (rw [if_neg (show ¬ s = 8 from fun q => h25 (by rw [q]; rfl))]
                        exact (oB_iff (by omega)).mp h48)
                 refine MS.to (ih (k + 1) _ _ (if S.toBitVec.getLsbD (vr k) = true then acc ||| (1 <<< (nI k &&& 31)) else acc) _ _ (ni1 k) (by omega) (by omega) ?_) rfl rfl (by
                   first
                     | (rw [if_pos (jb_ne0 h88), nI_clamp (by omega)]
                        exact sI_sI)
                     | rw [if_neg (jb_eq0 h88)])
                 rw [← hS, show w - k = (w - (k + 1)) + 1 by omega]
                 conv => rhs; unfold cmF
                 rw [if_pos hb]
                 rfl)
              | (have hb : ¬ (if s = 8 then decide (0 < k) else oB o k) = true := by
                   first
                     | (rw [if_pos (show s = 8 from (nI_eq (a := s) (b := 8) (by omega) (by decide)).mp h25)]
                        intro q
                        exact nI_nle (of_decide_eq_true q) (by omega) h30)
                     | (rw [if_neg (show ¬ s = 8 from fun q => h25 (by rw [q]; rfl))]
                        exact fun q => h48 ((oB_iff (by omega)).mpr q))
                 refine ih (k + 1) _ _ acc _ _ (ni1 k) (by omega) (by omega) ?_
                 rw [← hS, show w - k = (w - (k + 1)) + 1 by omega]
                 conv => rhs; unfold cmF
                 rw [if_neg hb])
        · refine jm_iconst (pc := 51) (v := 1) dM_compare_51 (by decide) ?_
          refine jm_goto (pc := 52) (tgt := 56) dM_compare_52 (by decide) ?_
          refine jm_istore (pc := 56) dM_compare_56 (by decide) ?_
          refine jm_iload (pc := 58) dM_compare_58 rfl ?_
          refine jm_if_ne (pc := 60) (tgt := 66) dM_compare_60 (by decide) (fun h60 => ?_) (fun h60 => ?_)
          · refine jm_aload_n (pc := 66) dM_compare_66 rfl ?_
            refine jm_getq (pc := 67) lM_46 dM_compare_67 rfl rfl (hm 15 rfl) ?_
            refine jm_bipush (pc := 70) (v := 7) dM_compare_70 (by decide) ?_
            refine jm_iload_n (pc := 72) dM_compare_72 rfl ?_
            refine jm_imul (pc := 73) dM_compare_73 ?_
            refine jm_iload (pc := 74) dM_compare_74 rfl ?_
            refine jm_iadd (pc := 76) dM_compare_76 ?_
            rw [e7]
            refine jm_iald (pc := 77) dM_compare_77 rfl (by decide) rfl (fun _ => rfl) ?hin ?_
            case hin =>
              exact vp_in_nI (N := 1750) (by omega) (by decide)
            rw [nI_clamp (by omega), show (sI st0 35 0 i acc).1 24 0 (7 * i + k) = nI (vr k) from (sI_ne (by omega)).trans hva.1]
            refine jm_istore (pc := 78) dM_compare_78 (by decide) ?_
            refine jm_aload_n (pc := 80) dM_compare_80 rfl ?_
            refine jm_lload (pc := 81) dM_compare_81 rfl ?_
            refine jm_iload (pc := 83) dM_compare_83 rfl ?_
            refine jm_callV (pc := 85) (c_M_isIn (d := d - 1) _ hva.2) fM_isIn vM_isIn cM_163 dM_compare_85 rfl rfl rfl rfl (by omega) ⟨Nat.le_refl _, Nat.le_refl _⟩ rfl (Nat.le_of_ble_eq_true rfl) (fun v s2 hq => ?_)
            obtain ⟨rfl, rfl⟩ := hq
            refine jm_if_eq (pc := 88) (tgt := 104) dM_compare_88 (by decide) (fun h88 => ?_) (fun h88 => ?_)
            · refine jm_lload (pc := 104) dM_compare_104 rfl ?_
              refine jm_lconst (pc := 106) (v := 1) dM_compare_106 (by decide) ?_
              refine jm_iload (pc := 107) dM_compare_107 rfl ?_
              refine jm_lshl (pc := 109) dM_compare_109 ?_
              refine jm_lor (pc := 110) dM_compare_110 ?_
              refine jm_lstore (pc := 111) dM_compare_111 (by decide) ?_
              refine jm_iinc (pc := 113) dM_compare_113 rfl (by decide) ?_
              refine jm_goto (pc := 116) (tgt := 6) dM_compare_116 (by decide) ?_
              first
                | exact absurd rfl h60
                | exact absurd h60 (by decide)
                | (have hb : (if s = 8 then decide (0 < k) else oB o k) = true := by
                     first
                       | (rw [if_pos (show s = 8 from (nI_eq (a := s) (b := 8) (by omega) (by decide)).mp h25)]
                          exact decide_eq_true (Nat.pos_of_ne_zero (fun q => h30 (by rw [q]; decide))))
                       | (rw [if_neg (show ¬ s = 8 from fun q => h25 (by rw [q]; rfl))]
                          exact (oB_iff (by omega)).mp h48)
                   refine MS.to (ih (k + 1) _ _ (if S.toBitVec.getLsbD (vr k) = true then acc ||| (1 <<< (nI k &&& 31)) else acc) _ _ (ni1 k) (by omega) (by omega) ?_) rfl rfl (by
                     first
                       | (rw [if_pos (jb_ne0 h88), nI_clamp (by omega)]
                          exact sI_sI)
                       | rw [if_neg (jb_eq0 h88)])
                   rw [← hS, show w - k = (w - (k + 1)) + 1 by omega]
                   conv => rhs; unfold cmF
                   rw [if_pos hb]
                   rfl)
                | (have hb : ¬ (if s = 8 then decide (0 < k) else oB o k) = true := by
                     first
                       | (rw [if_pos (show s = 8 from (nI_eq (a := s) (b := 8) (by omega) (by decide)).mp h25)]
                          intro q
                          exact nI_nle (of_decide_eq_true q) (by omega) h30)
                       | (rw [if_neg (show ¬ s = 8 from fun q => h25 (by rw [q]; rfl))]
                          exact fun q => h48 ((oB_iff (by omega)).mpr q))
                   refine ih (k + 1) _ _ acc _ _ (ni1 k) (by omega) (by omega) ?_
                   rw [← hS, show w - k = (w - (k + 1)) + 1 by omega]
                   conv => rhs; unfold cmF
                   rw [if_neg hb])
            · refine jm_aload_n (pc := 91) dM_compare_91 rfl ?_
              refine jm_getq (pc := 92) lM_81 dM_compare_92 rfl rfl (hm 29 rfl) ?_
              refine jm_iload_n (pc := 95) dM_compare_95 rfl ?_
              first | refine jm_dup2_2 (pc := 96) dM_compare_96 rfl ?_ | refine jm_dup2_11 (pc := 96) dM_compare_96 rfl rfl ?_
              refine jm_iald (pc := 97) dM_compare_97 rfl (by decide) rfl (fun _ => rfl) ?hin ?_
              case hin =>
                exact vp_in_nI (N := 250) (by omega) (by decide)
              refine jm_iconst (pc := 98) (v := 1) dM_compare_98 (by decide) ?_
              refine jm_iload (pc := 99) dM_compare_99 rfl ?_
              refine jm_ishl (pc := 101) dM_compare_101 ?_
              refine jm_ior (pc := 102) dM_compare_102 ?_
              rw [nI_clamp (by omega), sI_eq]
              refine jm_iast (pc := 103) dM_compare_103 rfl (by decide) rfl (fun _ => rfl) ?hin ?_
              case hin =>
                exact vp_in_nI (N := 250) (by omega) (by decide)
              refine jm_lload (pc := 104) dM_compare_104 rfl ?_
              refine jm_lconst (pc := 106) (v := 1) dM_compare_106 (by decide) ?_
              refine jm_iload (pc := 107) dM_compare_107 rfl ?_
              refine jm_lshl (pc := 109) dM_compare_109 ?_
              refine jm_lor (pc := 110) dM_compare_110 ?_
              refine jm_lstore (pc := 111) dM_compare_111 (by decide) ?_
              refine jm_iinc (pc := 113) dM_compare_113 rfl (by decide) ?_
              refine jm_goto (pc := 116) (tgt := 6) dM_compare_116 (by decide) ?_
              first
                | exact absurd rfl h60
                | exact absurd h60 (by decide)
                | (have hb : (if s = 8 then decide (0 < k) else oB o k) = true := by
                     first
                       | (rw [if_pos (show s = 8 from (nI_eq (a := s) (b := 8) (by omega) (by decide)).mp h25)]
                          exact decide_eq_true (Nat.pos_of_ne_zero (fun q => h30 (by rw [q]; decide))))
                       | (rw [if_neg (show ¬ s = 8 from fun q => h25 (by rw [q]; rfl))]
                          exact (oB_iff (by omega)).mp h48)
                   refine MS.to (ih (k + 1) _ _ (if S.toBitVec.getLsbD (vr k) = true then acc ||| (1 <<< (nI k &&& 31)) else acc) _ _ (ni1 k) (by omega) (by omega) ?_) rfl rfl (by
                     first
                       | (rw [if_pos (jb_ne0 h88), nI_clamp (by omega)]
                          exact sI_sI)
                       | rw [if_neg (jb_eq0 h88)])
                   rw [← hS, show w - k = (w - (k + 1)) + 1 by omega]
                   conv => rhs; unfold cmF
                   rw [if_pos hb]
                   rfl)
                | (have hb : ¬ (if s = 8 then decide (0 < k) else oB o k) = true := by
                     first
                       | (rw [if_pos (show s = 8 from (nI_eq (a := s) (b := 8) (by omega) (by decide)).mp h25)]
                          intro q
                          exact nI_nle (of_decide_eq_true q) (by omega) h30)
                       | (rw [if_neg (show ¬ s = 8 from fun q => h25 (by rw [q]; rfl))]
                          exact fun q => h48 ((oB_iff (by omega)).mpr q))
                   refine ih (k + 1) _ _ acc _ _ (ni1 k) (by omega) (by omega) ?_
                   rw [← hS, show w - k = (w - (k + 1)) + 1 by omega]
                   conv => rhs; unfold cmF
                   rw [if_neg hb])
          · refine jm_goto (pc := 63) (tgt := 113) dM_compare_63 (by decide) ?_
            refine jm_iinc (pc := 113) dM_compare_113 rfl (by decide) ?_
            refine jm_goto (pc := 116) (tgt := 6) dM_compare_116 (by decide) ?_
            first
              | exact absurd rfl h60
              | exact absurd h60 (by decide)
              | (have hb : (if s = 8 then decide (0 < k) else oB o k) = true := by
                   first
                     | (rw [if_pos (show s = 8 from (nI_eq (a := s) (b := 8) (by omega) (by decide)).mp h25)]
                        exact decide_eq_true (Nat.pos_of_ne_zero (fun q => h30 (by rw [q]; decide))))
                     | (rw [if_neg (show ¬ s = 8 from fun q => h25 (by rw [q]; rfl))]
                        exact (oB_iff (by omega)).mp h48)
                 refine MS.to (ih (k + 1) _ _ (if S.toBitVec.getLsbD (vr k) = true then acc ||| (1 <<< (nI k &&& 31)) else acc) _ _ (ni1 k) (by omega) (by omega) ?_) rfl rfl (by
                   first
                     | (rw [if_pos (jb_ne0 h88), nI_clamp (by omega)]
                        exact sI_sI)
                     | rw [if_neg (jb_eq0 h88)])
                 rw [← hS, show w - k = (w - (k + 1)) + 1 by omega]
                 conv => rhs; unfold cmF
                 rw [if_pos hb]
                 rfl)
              | (have hb : ¬ (if s = 8 then decide (0 < k) else oB o k) = true := by
                   first
                     | (rw [if_pos (show s = 8 from (nI_eq (a := s) (b := 8) (by omega) (by decide)).mp h25)]
                        intro q
                        exact nI_nle (of_decide_eq_true q) (by omega) h30)
                     | (rw [if_neg (show ¬ s = 8 from fun q => h25 (by rw [q]; rfl))]
                        exact fun q => h48 ((oB_iff (by omega)).mpr q))
                 refine ih (k + 1) _ _ acc _ _ (ni1 k) (by omega) (by omega) ?_
                 rw [← hS, show w - k = (w - (k + 1)) + 1 by omega]
                 conv => rhs; unfold cmF
                 rw [if_neg hb])
      · refine jm_iload (pc := 28) dM_compare_28 rfl ?_
        refine jm_if_le (pc := 30) (tgt := 37) dM_compare_30 (by decide) (fun h30 => ?_) (fun h30 => ?_)
        · refine jm_iconst (pc := 37) (v := 0) dM_compare_37 (by decide) ?_
          refine jm_goto (pc := 38) (tgt := 56) dM_compare_38 (by decide) ?_
          refine jm_istore (pc := 56) dM_compare_56 (by decide) ?_
          refine jm_iload (pc := 58) dM_compare_58 rfl ?_
          refine jm_if_ne (pc := 60) (tgt := 66) dM_compare_60 (by decide) (fun h60 => ?_) (fun h60 => ?_)
          · refine jm_aload_n (pc := 66) dM_compare_66 rfl ?_
            refine jm_getq (pc := 67) lM_46 dM_compare_67 rfl rfl (hm 15 rfl) ?_
            refine jm_bipush (pc := 70) (v := 7) dM_compare_70 (by decide) ?_
            refine jm_iload_n (pc := 72) dM_compare_72 rfl ?_
            refine jm_imul (pc := 73) dM_compare_73 ?_
            refine jm_iload (pc := 74) dM_compare_74 rfl ?_
            refine jm_iadd (pc := 76) dM_compare_76 ?_
            rw [e7]
            refine jm_iald (pc := 77) dM_compare_77 rfl (by decide) rfl (fun _ => rfl) ?hin ?_
            case hin =>
              exact vp_in_nI (N := 1750) (by omega) (by decide)
            rw [nI_clamp (by omega), show (sI st0 35 0 i acc).1 24 0 (7 * i + k) = nI (vr k) from (sI_ne (by omega)).trans hva.1]
            refine jm_istore (pc := 78) dM_compare_78 (by decide) ?_
            refine jm_aload_n (pc := 80) dM_compare_80 rfl ?_
            refine jm_lload (pc := 81) dM_compare_81 rfl ?_
            refine jm_iload (pc := 83) dM_compare_83 rfl ?_
            refine jm_callV (pc := 85) (c_M_isIn (d := d - 1) _ hva.2) fM_isIn vM_isIn cM_163 dM_compare_85 rfl rfl rfl rfl (by omega) ⟨Nat.le_refl _, Nat.le_refl _⟩ rfl (Nat.le_of_ble_eq_true rfl) (fun v s2 hq => ?_)
            obtain ⟨rfl, rfl⟩ := hq
            refine jm_if_eq (pc := 88) (tgt := 104) dM_compare_88 (by decide) (fun h88 => ?_) (fun h88 => ?_)
            · refine jm_lload (pc := 104) dM_compare_104 rfl ?_
              refine jm_lconst (pc := 106) (v := 1) dM_compare_106 (by decide) ?_
              refine jm_iload (pc := 107) dM_compare_107 rfl ?_
              refine jm_lshl (pc := 109) dM_compare_109 ?_
              refine jm_lor (pc := 110) dM_compare_110 ?_
              refine jm_lstore (pc := 111) dM_compare_111 (by decide) ?_
              refine jm_iinc (pc := 113) dM_compare_113 rfl (by decide) ?_
              refine jm_goto (pc := 116) (tgt := 6) dM_compare_116 (by decide) ?_
              first
                | exact absurd rfl h60
                | exact absurd h60 (by decide)
                | (have hb : (if s = 8 then decide (0 < k) else oB o k) = true := by
                     first
                       | (rw [if_pos (show s = 8 from (nI_eq (a := s) (b := 8) (by omega) (by decide)).mp h25)]
                          exact decide_eq_true (Nat.pos_of_ne_zero (fun q => h30 (by rw [q]; decide))))
                       | (rw [if_neg (show ¬ s = 8 from fun q => h25 (by rw [q]; rfl))]
                          exact (oB_iff (by omega)).mp h48)
                   refine MS.to (ih (k + 1) _ _ (if S.toBitVec.getLsbD (vr k) = true then acc ||| (1 <<< (nI k &&& 31)) else acc) _ _ (ni1 k) (by omega) (by omega) ?_) rfl rfl (by
                     first
                       | (rw [if_pos (jb_ne0 h88), nI_clamp (by omega)]
                          exact sI_sI)
                       | rw [if_neg (jb_eq0 h88)])
                   rw [← hS, show w - k = (w - (k + 1)) + 1 by omega]
                   conv => rhs; unfold cmF
                   rw [if_pos hb]
                   rfl)
                | (have hb : ¬ (if s = 8 then decide (0 < k) else oB o k) = true := by
                     first
                       | (rw [if_pos (show s = 8 from (nI_eq (a := s) (b := 8) (by omega) (by decide)).mp h25)]
                          intro q
                          exact nI_nle (of_decide_eq_true q) (by omega) h30)
                       | (rw [if_neg (show ¬ s = 8 from fun q => h25 (by rw [q]; rfl))]
                          exact fun q => h48 ((oB_iff (by omega)).mpr q))
                   refine ih (k + 1) _ _ acc _ _ (ni1 k) (by omega) (by omega) ?_
                   rw [← hS, show w - k = (w - (k + 1)) + 1 by omega]
                   conv => rhs; unfold cmF
                   rw [if_neg hb])
            · refine jm_aload_n (pc := 91) dM_compare_91 rfl ?_
              refine jm_getq (pc := 92) lM_81 dM_compare_92 rfl rfl (hm 29 rfl) ?_
              refine jm_iload_n (pc := 95) dM_compare_95 rfl ?_
              first | refine jm_dup2_2 (pc := 96) dM_compare_96 rfl ?_ | refine jm_dup2_11 (pc := 96) dM_compare_96 rfl rfl ?_
              refine jm_iald (pc := 97) dM_compare_97 rfl (by decide) rfl (fun _ => rfl) ?hin ?_
              case hin =>
                exact vp_in_nI (N := 250) (by omega) (by decide)
              refine jm_iconst (pc := 98) (v := 1) dM_compare_98 (by decide) ?_
              refine jm_iload (pc := 99) dM_compare_99 rfl ?_
              refine jm_ishl (pc := 101) dM_compare_101 ?_
              refine jm_ior (pc := 102) dM_compare_102 ?_
              rw [nI_clamp (by omega), sI_eq]
              refine jm_iast (pc := 103) dM_compare_103 rfl (by decide) rfl (fun _ => rfl) ?hin ?_
              case hin =>
                exact vp_in_nI (N := 250) (by omega) (by decide)
              refine jm_lload (pc := 104) dM_compare_104 rfl ?_
              refine jm_lconst (pc := 106) (v := 1) dM_compare_106 (by decide) ?_
              refine jm_iload (pc := 107) dM_compare_107 rfl ?_
              refine jm_lshl (pc := 109) dM_compare_109 ?_
              refine jm_lor (pc := 110) dM_compare_110 ?_
              refine jm_lstore (pc := 111) dM_compare_111 (by decide) ?_
              refine jm_iinc (pc := 113) dM_compare_113 rfl (by decide) ?_
              refine jm_goto (pc := 116) (tgt := 6) dM_compare_116 (by decide) ?_
              first
                | exact absurd rfl h60
                | exact absurd h60 (by decide)
                | (have hb : (if s = 8 then decide (0 < k) else oB o k) = true := by
                     first
                       | (rw [if_pos (show s = 8 from (nI_eq (a := s) (b := 8) (by omega) (by decide)).mp h25)]
                          exact decide_eq_true (Nat.pos_of_ne_zero (fun q => h30 (by rw [q]; decide))))
                       | (rw [if_neg (show ¬ s = 8 from fun q => h25 (by rw [q]; rfl))]
                          exact (oB_iff (by omega)).mp h48)
                   refine MS.to (ih (k + 1) _ _ (if S.toBitVec.getLsbD (vr k) = true then acc ||| (1 <<< (nI k &&& 31)) else acc) _ _ (ni1 k) (by omega) (by omega) ?_) rfl rfl (by
                     first
                       | (rw [if_pos (jb_ne0 h88), nI_clamp (by omega)]
                          exact sI_sI)
                       | rw [if_neg (jb_eq0 h88)])
                   rw [← hS, show w - k = (w - (k + 1)) + 1 by omega]
                   conv => rhs; unfold cmF
                   rw [if_pos hb]
                   rfl)
                | (have hb : ¬ (if s = 8 then decide (0 < k) else oB o k) = true := by
                     first
                       | (rw [if_pos (show s = 8 from (nI_eq (a := s) (b := 8) (by omega) (by decide)).mp h25)]
                          intro q
                          exact nI_nle (of_decide_eq_true q) (by omega) h30)
                       | (rw [if_neg (show ¬ s = 8 from fun q => h25 (by rw [q]; rfl))]
                          exact fun q => h48 ((oB_iff (by omega)).mpr q))
                   refine ih (k + 1) _ _ acc _ _ (ni1 k) (by omega) (by omega) ?_
                   rw [← hS, show w - k = (w - (k + 1)) + 1 by omega]
                   conv => rhs; unfold cmF
                   rw [if_neg hb])
          · refine jm_goto (pc := 63) (tgt := 113) dM_compare_63 (by decide) ?_
            refine jm_iinc (pc := 113) dM_compare_113 rfl (by decide) ?_
            refine jm_goto (pc := 116) (tgt := 6) dM_compare_116 (by decide) ?_
            first
              | exact absurd rfl h60
              | exact absurd h60 (by decide)
              | (have hb : (if s = 8 then decide (0 < k) else oB o k) = true := by
                   first
                     | (rw [if_pos (show s = 8 from (nI_eq (a := s) (b := 8) (by omega) (by decide)).mp h25)]
                        exact decide_eq_true (Nat.pos_of_ne_zero (fun q => h30 (by rw [q]; decide))))
                     | (rw [if_neg (show ¬ s = 8 from fun q => h25 (by rw [q]; rfl))]
                        exact (oB_iff (by omega)).mp h48)
                 refine MS.to (ih (k + 1) _ _ (if S.toBitVec.getLsbD (vr k) = true then acc ||| (1 <<< (nI k &&& 31)) else acc) _ _ (ni1 k) (by omega) (by omega) ?_) rfl rfl (by
                   first
                     | (rw [if_pos (jb_ne0 h88), nI_clamp (by omega)]
                        exact sI_sI)
                     | rw [if_neg (jb_eq0 h88)])
                 rw [← hS, show w - k = (w - (k + 1)) + 1 by omega]
                 conv => rhs; unfold cmF
                 rw [if_pos hb]
                 rfl)
              | (have hb : ¬ (if s = 8 then decide (0 < k) else oB o k) = true := by
                   first
                     | (rw [if_pos (show s = 8 from (nI_eq (a := s) (b := 8) (by omega) (by decide)).mp h25)]
                        intro q
                        exact nI_nle (of_decide_eq_true q) (by omega) h30)
                     | (rw [if_neg (show ¬ s = 8 from fun q => h25 (by rw [q]; rfl))]
                        exact fun q => h48 ((oB_iff (by omega)).mpr q))
                 refine ih (k + 1) _ _ acc _ _ (ni1 k) (by omega) (by omega) ?_
                 rw [← hS, show w - k = (w - (k + 1)) + 1 by omega]
                 conv => rhs; unfold cmF
                 rw [if_neg hb])
        · refine jm_iconst (pc := 33) (v := 1) dM_compare_33 (by decide) ?_
          refine jm_goto (pc := 34) (tgt := 56) dM_compare_34 (by decide) ?_
          refine jm_istore (pc := 56) dM_compare_56 (by decide) ?_
          refine jm_iload (pc := 58) dM_compare_58 rfl ?_
          refine jm_if_ne (pc := 60) (tgt := 66) dM_compare_60 (by decide) (fun h60 => ?_) (fun h60 => ?_)
          · refine jm_aload_n (pc := 66) dM_compare_66 rfl ?_
            refine jm_getq (pc := 67) lM_46 dM_compare_67 rfl rfl (hm 15 rfl) ?_
            refine jm_bipush (pc := 70) (v := 7) dM_compare_70 (by decide) ?_
            refine jm_iload_n (pc := 72) dM_compare_72 rfl ?_
            refine jm_imul (pc := 73) dM_compare_73 ?_
            refine jm_iload (pc := 74) dM_compare_74 rfl ?_
            refine jm_iadd (pc := 76) dM_compare_76 ?_
            rw [e7]
            refine jm_iald (pc := 77) dM_compare_77 rfl (by decide) rfl (fun _ => rfl) ?hin ?_
            case hin =>
              exact vp_in_nI (N := 1750) (by omega) (by decide)
            rw [nI_clamp (by omega), show (sI st0 35 0 i acc).1 24 0 (7 * i + k) = nI (vr k) from (sI_ne (by omega)).trans hva.1]
            refine jm_istore (pc := 78) dM_compare_78 (by decide) ?_
            refine jm_aload_n (pc := 80) dM_compare_80 rfl ?_
            refine jm_lload (pc := 81) dM_compare_81 rfl ?_
            refine jm_iload (pc := 83) dM_compare_83 rfl ?_
            refine jm_callV (pc := 85) (c_M_isIn (d := d - 1) _ hva.2) fM_isIn vM_isIn cM_163 dM_compare_85 rfl rfl rfl rfl (by omega) ⟨Nat.le_refl _, Nat.le_refl _⟩ rfl (Nat.le_of_ble_eq_true rfl) (fun v s2 hq => ?_)
            obtain ⟨rfl, rfl⟩ := hq
            refine jm_if_eq (pc := 88) (tgt := 104) dM_compare_88 (by decide) (fun h88 => ?_) (fun h88 => ?_)
            · refine jm_lload (pc := 104) dM_compare_104 rfl ?_
              refine jm_lconst (pc := 106) (v := 1) dM_compare_106 (by decide) ?_
              refine jm_iload (pc := 107) dM_compare_107 rfl ?_
              refine jm_lshl (pc := 109) dM_compare_109 ?_
              refine jm_lor (pc := 110) dM_compare_110 ?_
              refine jm_lstore (pc := 111) dM_compare_111 (by decide) ?_
              refine jm_iinc (pc := 113) dM_compare_113 rfl (by decide) ?_
              refine jm_goto (pc := 116) (tgt := 6) dM_compare_116 (by decide) ?_
              first
                | exact absurd rfl h60
                | exact absurd h60 (by decide)
                | (have hb : (if s = 8 then decide (0 < k) else oB o k) = true := by
                     first
                       | (rw [if_pos (show s = 8 from (nI_eq (a := s) (b := 8) (by omega) (by decide)).mp h25)]
                          exact decide_eq_true (Nat.pos_of_ne_zero (fun q => h30 (by rw [q]; decide))))
                       | (rw [if_neg (show ¬ s = 8 from fun q => h25 (by rw [q]; rfl))]
                          exact (oB_iff (by omega)).mp h48)
                   refine MS.to (ih (k + 1) _ _ (if S.toBitVec.getLsbD (vr k) = true then acc ||| (1 <<< (nI k &&& 31)) else acc) _ _ (ni1 k) (by omega) (by omega) ?_) rfl rfl (by
                     first
                       | (rw [if_pos (jb_ne0 h88), nI_clamp (by omega)]
                          exact sI_sI)
                       | rw [if_neg (jb_eq0 h88)])
                   rw [← hS, show w - k = (w - (k + 1)) + 1 by omega]
                   conv => rhs; unfold cmF
                   rw [if_pos hb]
                   rfl)
                | (have hb : ¬ (if s = 8 then decide (0 < k) else oB o k) = true := by
                     first
                       | (rw [if_pos (show s = 8 from (nI_eq (a := s) (b := 8) (by omega) (by decide)).mp h25)]
                          intro q
                          exact nI_nle (of_decide_eq_true q) (by omega) h30)
                       | (rw [if_neg (show ¬ s = 8 from fun q => h25 (by rw [q]; rfl))]
                          exact fun q => h48 ((oB_iff (by omega)).mpr q))
                   refine ih (k + 1) _ _ acc _ _ (ni1 k) (by omega) (by omega) ?_
                   rw [← hS, show w - k = (w - (k + 1)) + 1 by omega]
                   conv => rhs; unfold cmF
                   rw [if_neg hb])
            · refine jm_aload_n (pc := 91) dM_compare_91 rfl ?_
              refine jm_getq (pc := 92) lM_81 dM_compare_92 rfl rfl (hm 29 rfl) ?_
              refine jm_iload_n (pc := 95) dM_compare_95 rfl ?_
              first | refine jm_dup2_2 (pc := 96) dM_compare_96 rfl ?_ | refine jm_dup2_11 (pc := 96) dM_compare_96 rfl rfl ?_
              refine jm_iald (pc := 97) dM_compare_97 rfl (by decide) rfl (fun _ => rfl) ?hin ?_
              case hin =>
                exact vp_in_nI (N := 250) (by omega) (by decide)
              refine jm_iconst (pc := 98) (v := 1) dM_compare_98 (by decide) ?_
              refine jm_iload (pc := 99) dM_compare_99 rfl ?_
              refine jm_ishl (pc := 101) dM_compare_101 ?_
              refine jm_ior (pc := 102) dM_compare_102 ?_
              rw [nI_clamp (by omega), sI_eq]
              refine jm_iast (pc := 103) dM_compare_103 rfl (by decide) rfl (fun _ => rfl) ?hin ?_
              case hin =>
                exact vp_in_nI (N := 250) (by omega) (by decide)
              refine jm_lload (pc := 104) dM_compare_104 rfl ?_
              refine jm_lconst (pc := 106) (v := 1) dM_compare_106 (by decide) ?_
              refine jm_iload (pc := 107) dM_compare_107 rfl ?_
              refine jm_lshl (pc := 109) dM_compare_109 ?_
              refine jm_lor (pc := 110) dM_compare_110 ?_
              refine jm_lstore (pc := 111) dM_compare_111 (by decide) ?_
              refine jm_iinc (pc := 113) dM_compare_113 rfl (by decide) ?_
              refine jm_goto (pc := 116) (tgt := 6) dM_compare_116 (by decide) ?_
              first
                | exact absurd rfl h60
                | exact absurd h60 (by decide)
                | (have hb : (if s = 8 then decide (0 < k) else oB o k) = true := by
                     first
                       | (rw [if_pos (show s = 8 from (nI_eq (a := s) (b := 8) (by omega) (by decide)).mp h25)]
                          exact decide_eq_true (Nat.pos_of_ne_zero (fun q => h30 (by rw [q]; decide))))
                       | (rw [if_neg (show ¬ s = 8 from fun q => h25 (by rw [q]; rfl))]
                          exact (oB_iff (by omega)).mp h48)
                   refine MS.to (ih (k + 1) _ _ (if S.toBitVec.getLsbD (vr k) = true then acc ||| (1 <<< (nI k &&& 31)) else acc) _ _ (ni1 k) (by omega) (by omega) ?_) rfl rfl (by
                     first
                       | (rw [if_pos (jb_ne0 h88), nI_clamp (by omega)]
                          exact sI_sI)
                       | rw [if_neg (jb_eq0 h88)])
                   rw [← hS, show w - k = (w - (k + 1)) + 1 by omega]
                   conv => rhs; unfold cmF
                   rw [if_pos hb]
                   rfl)
                | (have hb : ¬ (if s = 8 then decide (0 < k) else oB o k) = true := by
                     first
                       | (rw [if_pos (show s = 8 from (nI_eq (a := s) (b := 8) (by omega) (by decide)).mp h25)]
                          intro q
                          exact nI_nle (of_decide_eq_true q) (by omega) h30)
                       | (rw [if_neg (show ¬ s = 8 from fun q => h25 (by rw [q]; rfl))]
                          exact fun q => h48 ((oB_iff (by omega)).mpr q))
                   refine ih (k + 1) _ _ acc _ _ (ni1 k) (by omega) (by omega) ?_
                   rw [← hS, show w - k = (w - (k + 1)) + 1 by omega]
                   conv => rhs; unfold cmF
                   rw [if_neg hb])
          · refine jm_goto (pc := 63) (tgt := 113) dM_compare_63 (by decide) ?_
            refine jm_iinc (pc := 113) dM_compare_113 rfl (by decide) ?_
            refine jm_goto (pc := 116) (tgt := 6) dM_compare_116 (by decide) ?_
            first
              | exact absurd rfl h60
              | exact absurd h60 (by decide)
              | (have hb : (if s = 8 then decide (0 < k) else oB o k) = true := by
                   first
                     | (rw [if_pos (show s = 8 from (nI_eq (a := s) (b := 8) (by omega) (by decide)).mp h25)]
                        exact decide_eq_true (Nat.pos_of_ne_zero (fun q => h30 (by rw [q]; decide))))
                     | (rw [if_neg (show ¬ s = 8 from fun q => h25 (by rw [q]; rfl))]
                        exact (oB_iff (by omega)).mp h48)
                 refine MS.to (ih (k + 1) _ _ (if S.toBitVec.getLsbD (vr k) = true then acc ||| (1 <<< (nI k &&& 31)) else acc) _ _ (ni1 k) (by omega) (by omega) ?_) rfl rfl (by
                   first
                     | (rw [if_pos (jb_ne0 h88), nI_clamp (by omega)]
                        exact sI_sI)
                     | rw [if_neg (jb_eq0 h88)])
                 rw [← hS, show w - k = (w - (k + 1)) + 1 by omega]
                 conv => rhs; unfold cmF
                 rw [if_pos hb]
                 rfl)
              | (have hb : ¬ (if s = 8 then decide (0 < k) else oB o k) = true := by
                   first
                     | (rw [if_pos (show s = 8 from (nI_eq (a := s) (b := 8) (by omega) (by decide)).mp h25)]
                        intro q
                        exact nI_nle (of_decide_eq_true q) (by omega) h30)
                     | (rw [if_neg (show ¬ s = 8 from fun q => h25 (by rw [q]; rfl))]
                        exact fun q => h48 ((oB_iff (by omega)).mpr q))
                 refine ih (k + 1) _ _ acc _ _ (ni1 k) (by omega) (by omega) ?_
                 rw [← hS, show w - k = (w - (k + 1)) + 1 by omega]
                 conv => rhs; unfold cmF
                 rw [if_neg hb])
set_option maxRecDepth 100000 in
set_option maxHeartbeats 4000000 in
theorem c_M_compare {i w s : Nat} {vr : Nat → Nat} {o : Int32} {S : Int64} (hm : mF st) (hv : mV st i w vr) (hs : st.1 15 0 i = nI s) (hs9 : s < 100) (hd : 1 ≤ d) : MC l D mM_compare d 0 0 [vR (some (5, 0)), vI (nI i), vI o, vL S] st (fun v s' => s' = sI st 35 0 i (cmF (fun k => if s = 8 then decide (0 < k) else oB o k) vr w 0 S (st.1 35 0 i)) ∧ v = none) := by
  refine jm_start (ls0 := [some (vR (some (5, 0))), some (vI (nI i)), some (vI o), some (vL S), none, none, none, none, none, none]) (by decide) (Nat.le_of_ble_eq_true rfl) rfl ?_
  refine jm_lload_n (pc := 0) dM_compare_0 rfl ?_
  refine jm_lstore (pc := 1) dM_compare_1 (by decide) ?_
  refine jm_iconst (pc := 3) (v := 0) dM_compare_3 (by decide) ?_
  refine jm_istore (pc := 4) dM_compare_4 (by decide) ?_
  exact MS.to (lp_M_compare hm hv hs hs9 hd (w + 1) 0 _ _ (st.1 35 0 i) _ _ rfl (by omega) (by omega) rfl) rfl rfl sI_self.symm
end CM2
