section CM4
variable {l : Launch} {D : mD} {d : Nat} {st : aS} {E : EE}
set_option maxRecDepth 100000 in
set_option maxHeartbeats 4000000 in
theorem lm_M_atom {i x : Nat} {S : Int64} {s1 : aS} (hT : TM E st) (hi : i < eN E) (h4 : 4 ≤ eS E i) (h0 : MEq i st s1) (h31 : s1.1 31 0 i = 0) (h35 : s1.1 35 0 i = 0) (hx60 : x < 60) (hx : 0 < eW E i → x = eV E i 0) (hd : 3 ≤ d) : MS l D mM_atom d 0 0 (mAQ E i S st) 0 0 43 [some (vR (some (5, 0))), some (vI (nI i)), some (vL S), none, none, none] [vI (nI x)] s1 := by
  have hi250 : i < 250 := Nat.lt_of_lt_of_le hi hT.1.1
  have hm1 : mF s1 := fun j hj => by rw [h0.1]; exact hT.2.2.1 j hj
  obtain ⟨b1_, b2_, b3_, b4_, b5_, b6_, -, -⟩ := hT.2.2.2.2 i hi
  have hv1 : mV s1 i (eW E i) (eV E i) := ⟨(h0.2.1 23 0 i (by omega)).trans b5_.1, b5_.2.1, b5_.2.2.1, fun k hk => ⟨(h0.2.1 24 0 _ (by omega)).trans (b5_.2.2.2 k hk).1, (b5_.2.2.2 k hk).2⟩⟩
  have hw7 := b5_.2.1
  have h60 : ∀ j, j < eW E i → eV E i j < 60 := fun j hj => (b5_.2.2.2 j hj).2
  have hsr : s1.1 15 0 i = nI (eS E i) := (h0.2.1 15 0 i (by omega)).trans b1_
  have hm := hm1
  have bx : b1 x &&& nt S = 0 ↔ S.toBitVec.getLsbD x = true := b1_sub (by omega)
  have hT2 := (hT.1.2.2 i hi)
  refine jm_istore (pc := 43) dM_atom_43 (by decide) ?_
  refine jm_aload_n (pc := 45) dM_atom_45 rfl ?_
  refine jm_lload_n (pc := 46) dM_atom_46 rfl ?_
  refine jm_iload (pc := 47) dM_atom_47 rfl ?_
  refine jm_callV (pc := 49) (c_M_isIn (d := d - 1) _ hx60) fM_isIn vM_isIn cM_163 dM_atom_49 rfl rfl rfl rfl (by omega) ⟨Nat.le_refl _, Nat.le_refl _⟩ rfl (Nat.le_of_ble_eq_true rfl) (fun v s2 hq => ?_)
  obtain ⟨rfl, rfl⟩ := hq
  refine jm_istore (pc := 52) dM_atom_52 (by decide) ?_
  refine jm_aload_n (pc := 54) dM_atom_54 rfl ?_
  refine jm_getq (pc := 55) lM_19 dM_atom_55 rfl rfl (hm 6 rfl) ?_
  refine jm_iload_n (pc := 58) dM_atom_58 rfl ?_
  refine jm_iald (pc := 59) dM_atom_59 rfl (by decide) rfl (fun _ => rfl) ?hin ?_
  case hin =>
    exact vp_in_nI (N := 250) (by omega) (by decide)
  rw [nI_clamp (by omega), hsr]
  rcases (show eS E i = 4 ∨ eS E i = 5 ∨ eS E i = 6 ∨ eS E i = 7 ∨ eS E i = 8 ∨ eS E i = 9 ∨ eS E i = 10 ∨ eS E i = 11 ∨ eS E i = 12 by have := hT2.1; omega) with hv | hv | hv | hv | hv | hv | hv | hv | hv
  · rw [hv]
    refine jm_tableIn (pc := 60) (tgt := 108) (off := 48) dM_atom_60 (by decide) (by decide) rfl (by decide) ?_
    refine jm_aload_n (pc := 108) dM_atom_108 rfl ?_
    refine jm_iload_n (pc := 109) dM_atom_109 rfl ?_
    refine jm_iconst (pc := 110) (v := 0) dM_atom_110 (by decide) ?_
    refine jm_lload_n (pc := 111) dM_atom_111 rfl ?_
    refine jm_callV (pc := 112) (c_M_comes (d := d - 1) _ _ hm1 (by omega)) fM_comes vM_comes cM_167 dM_atom_112 rfl rfl rfl rfl (by omega) ⟨Nat.le_refl _, Nat.le_refl _⟩ rfl (Nat.le_of_ble_eq_true rfl) (fun v s2 hq => ?_)
    obtain ⟨rfl, rfl⟩ := hq
    refine jm_goto (pc := 115) (tgt := 290) dM_atom_115 (by decide) ?_
    refine jm_vret (pc := 290) dM_atom_290 rfl ⟨Nat.le_refl _, Nat.le_refl _⟩ ?_
    exact mAQ_a h0 h31 h35 (fun z hz => bcE_no (by omega) (by omega)) (aM_s (w := 0) (m := 0) (by unfold eA atomR; simp [hv]) (i64_or0 S).symm rfl)
  · rw [hv]
    refine jm_tableIn (pc := 60) (tgt := 108) (off := 48) dM_atom_60 (by decide) (by decide) rfl (by decide) ?_
    refine jm_aload_n (pc := 108) dM_atom_108 rfl ?_
    refine jm_iload_n (pc := 109) dM_atom_109 rfl ?_
    refine jm_iconst (pc := 110) (v := 0) dM_atom_110 (by decide) ?_
    refine jm_lload_n (pc := 111) dM_atom_111 rfl ?_
    refine jm_callV (pc := 112) (c_M_comes (d := d - 1) _ _ hm1 (by omega)) fM_comes vM_comes cM_167 dM_atom_112 rfl rfl rfl rfl (by omega) ⟨Nat.le_refl _, Nat.le_refl _⟩ rfl (Nat.le_of_ble_eq_true rfl) (fun v s2 hq => ?_)
    obtain ⟨rfl, rfl⟩ := hq
    refine jm_goto (pc := 115) (tgt := 290) dM_atom_115 (by decide) ?_
    refine jm_vret (pc := 290) dM_atom_290 rfl ⟨Nat.le_refl _, Nat.le_refl _⟩ ?_
    exact mAQ_a h0 h31 h35 (fun z hz => bcE_no (by omega) (by omega)) (aM_s (w := 0) (m := 0) (by unfold eA atomR; simp [hv]) (i64_or0 S).symm rfl)
  · rw [hv]
    refine jm_tableIn (pc := 60) (tgt := 118) (off := 58) dM_atom_60 (by decide) (by decide) rfl (by decide) ?_
    have hw2 := hT2.2.2.2.2.1 hv
    refine jm_aload_n (pc := 118) dM_atom_118 rfl ?_
    refine jm_iload_n (pc := 119) dM_atom_119 rfl ?_
    refine jm_iload (pc := 120) dM_atom_120 rfl ?_
    refine jm_aload_n (pc := 122) dM_atom_122 rfl ?_
    refine jm_getq (pc := 123) lM_46 dM_atom_123 rfl rfl (hm 15 rfl) ?_
    refine jm_bipush (pc := 126) (v := 7) dM_atom_126 (by decide) ?_
    refine jm_iload_n (pc := 128) dM_atom_128 rfl ?_
    refine jm_imul (pc := 129) dM_atom_129 ?_
    refine jm_iconst (pc := 130) (v := 1) dM_atom_130 (by decide) ?_
    refine jm_iadd (pc := 131) dM_atom_131 ?_
    rw [show (7 : Int32) * nI i + 1 = nI (7 * i + 1) from e7 i 1]
    refine jm_iald (pc := 132) dM_atom_132 rfl (by decide) rfl (fun _ => rfl) ?hin ?_
    case hin =>
      exact vp_in_nI (N := 1750) (by omega) (by decide)
    rw [nI_clamp (by omega), (hv1.2.2.2 1 (by omega)).1]
    refine jm_lload_n (pc := 133) dM_atom_133 rfl ?_
    refine jm_callV (pc := 134) (c_M_same (d := d - 1) hm1 (by omega) hx60 (h60 1 (by omega)) (by omega)) fM_same vM_same cM_171 dM_atom_134 rfl rfl rfl rfl (by omega) ⟨Nat.le_refl _, Nat.le_refl _⟩ rfl (Nat.le_of_ble_eq_true rfl) (fun v s2 hq => ?_)
    have hq9 := hq
    obtain ⟨rfl, -⟩ := hq
    refine jm_goto (pc := 137) (tgt := 290) dM_atom_137 (by decide) ?_
    refine jm_vret (pc := 290) dM_atom_290 rfl ⟨Nat.le_refl _, Nat.le_refl _⟩ ?_
    exact mAQ_a h0 h31 h35 (fun z hz => bcE_no (by omega) (by omega)) (by rw [show eA E i S = sameR (b1 (eV E i 0)) (b1 (eV E i 1)) S from by unfold eA atomR; simp [hv], ← hx (by omega)]; exact hq9)
  · rw [hv]
    refine jm_tableIn (pc := 60) (tgt := 140) (off := 80) dM_atom_60 (by decide) (by decide) rfl (by decide) ?_
    refine jm_aload_n (pc := 140) dM_atom_140 rfl ?_
    refine jm_lload_n (pc := 141) dM_atom_141 rfl ?_
    refine jm_aload_n (pc := 142) dM_atom_142 rfl ?_
    refine jm_iload_n (pc := 143) dM_atom_143 rfl ?_
    refine jm_iconst (pc := 144) (v := 0) dM_atom_144 (by decide) ?_
    refine jm_callV (pc := 145) (c_M_rowOf (d := d - 1) (fr := 0) hm1 hv1 (by omega)) fM_rowOf vM_rowOf cM_159 dM_atom_145 rfl rfl rfl rfl (by omega) ⟨Nat.le_refl _, Nat.le_refl _⟩ rfl (Nat.le_of_ble_eq_true rfl) (fun v s2 hq => ?_)
    obtain ⟨rfl, rfl⟩ := hq
    refine jm_callV (pc := 148) (c_M_areIn (d := d - 1) _ _) fM_areIn vM_areIn cM_175 dM_atom_148 rfl rfl rfl rfl (by omega) ⟨Nat.le_refl _, Nat.le_refl _⟩ rfl (Nat.le_of_ble_eq_true rfl) (fun v s2 hq => ?_)
    obtain ⟨rfl, rfl⟩ := hq
    refine jm_if_eq (pc := 151) (tgt := 290) dM_atom_151 (by decide) (fun h151 => ?_) (fun h151 => ?_)
    · refine jm_vret (pc := 290) dM_atom_290 rfl ⟨Nat.le_refl _, Nat.le_refl _⟩ ?_
      have ea : eA E i S = allR (rowS (eW E i) (eV E i) 0) S := by unfold eA atomR; simp [hv]
      first
        | exact mAQ_a h0 h31 h35 (fun z hz => bcE_no (by omega) (by omega)) (aM_s (w := 1) (m := 0) (by rw [ea]; exact if_pos (sub_iff2.mp (jb_ne0 h151))) (i64_or0 S).symm rfl)
        | exact mAQ_a h0 h31 h35 (fun z hz => bcE_no (by omega) (by omega)) (aM_n (by rw [ea]; exact if_neg (fun q => jb_eq0 h151 (sub_iff2.mpr q))))
    · refine jm_aload_n (pc := 154) dM_atom_154 rfl ?_
      refine jm_iload_n (pc := 155) dM_atom_155 rfl ?_
      refine jm_iconst (pc := 156) (v := 1) dM_atom_156 (by decide) ?_
      refine jm_lload_n (pc := 157) dM_atom_157 rfl ?_
      refine jm_callV (pc := 158) (c_M_comes (d := d - 1) _ _ hm1 (by omega)) fM_comes vM_comes cM_167 dM_atom_158 rfl rfl rfl rfl (by omega) ⟨Nat.le_refl _, Nat.le_refl _⟩ rfl (Nat.le_of_ble_eq_true rfl) (fun v s2 hq => ?_)
      obtain ⟨rfl, rfl⟩ := hq
      refine jm_goto (pc := 161) (tgt := 290) dM_atom_161 (by decide) ?_
      refine jm_vret (pc := 290) dM_atom_290 rfl ⟨Nat.le_refl _, Nat.le_refl _⟩ ?_
      have ea : eA E i S = allR (rowS (eW E i) (eV E i) 0) S := by unfold eA atomR; simp [hv]
      first
        | exact mAQ_a h0 h31 h35 (fun z hz => bcE_no (by omega) (by omega)) (aM_s (w := 1) (m := 0) (by rw [ea]; exact if_pos (sub_iff2.mp (jb_ne0 h151))) (i64_or0 S).symm rfl)
        | exact mAQ_a h0 h31 h35 (fun z hz => bcE_no (by omega) (by omega)) (aM_n (by rw [ea]; exact if_neg (fun q => jb_eq0 h151 (sub_iff2.mpr q))))
  · rw [hv]
    refine jm_tableIn (pc := 60) (tgt := 164) (off := 104) dM_atom_60 (by decide) (by decide) rfl (by decide) ?_
    have hw1 := hT2.2.2.2.2.2.1 (by omega)
    refine jm_iload (pc := 164) dM_atom_164 rfl ?_
    refine jm_if_eq (pc := 166) (tgt := 193) dM_atom_166 (by decide) (fun h166 => ?_) (fun h166 => ?_)
    · refine jm_aload_n (pc := 193) dM_atom_193 rfl ?_
      refine jm_lload_n (pc := 194) dM_atom_194 rfl ?_
      refine jm_aload_n (pc := 195) dM_atom_195 rfl ?_
      refine jm_iload_n (pc := 196) dM_atom_196 rfl ?_
      refine jm_iconst (pc := 197) (v := 1) dM_atom_197 (by decide) ?_
      refine jm_callV (pc := 198) (c_M_rowOf (d := d - 1) (fr := 1) hm1 hv1 (by omega)) fM_rowOf vM_rowOf cM_159 dM_atom_198 rfl rfl rfl rfl (by omega) ⟨Nat.le_refl _, Nat.le_refl _⟩ rfl (Nat.le_of_ble_eq_true rfl) (fun v s2 hq => ?_)
      obtain ⟨rfl, rfl⟩ := hq
      refine jm_callV (pc := 201) (c_M_areIn (d := d - 1) _ _) fM_areIn vM_areIn cM_175 dM_atom_201 rfl rfl rfl rfl (by omega) ⟨Nat.le_refl _, Nat.le_refl _⟩ rfl (Nat.le_of_ble_eq_true rfl) (fun v s2 hq => ?_)
      obtain ⟨rfl, rfl⟩ := hq
      refine jm_if_eq (pc := 204) (tgt := 290) dM_atom_204 (by decide) (fun h204 => ?_) (fun h204 => ?_)
      · refine jm_vret (pc := 290) dM_atom_290 rfl ⟨Nat.le_refl _, Nat.le_refl _⟩ ?_
        have ea : eA E i S = formR (b1 (eV E i 0)) (rowS (eW E i) (eV E i) 1) S := by unfold eA atomR; simp [hv]
        have ex := hx (by omega)
        first
          | exact mAQ_c (bc := fun k => if 8 = 8 then decide (0 < k) else oB 0 k) h0 hw7 h60 (z := (1, rowS (eW E i) (eV E i) 1)) (by rw [ea, ← ex]; exact if_pos (bx.mpr (jb_ne0 h166))) (fun y hy => by
              show decide (0 < y) = true ↔ _
              rw [decide_eq_true_eq]
              constructor
              · intro q; exact Or.inl ⟨hv, rfl, q⟩
              · rintro (q | q)
                · exact q.2.2
                · omega) (by rw [cm_I (by omega), h35])
          | exact mAQ_a h0 h31 h35 (fun z hz => by
              rw [ea, ← ex, show formR (b1 x) (rowS (eW E i) (eV E i) 1) S = some (2, b1 x) from (if_neg (fun q => jb_eq0 h166 (bx.mp q))).trans (if_pos (sub_iff2.mp (jb_ne0 h204)))] at hz
              cases hz
              exact bcE_no (fun _ => (show (2 : Int32) ≠ 1 by decide)) (by omega)) (aM_s (w := 2) (m := b1 x) (by rw [ea, ← ex]; exact (if_neg (fun q => jb_eq0 h166 (bx.mp q))).trans (if_pos (sub_iff2.mp (jb_ne0 h204)))) rfl rfl)
          | exact mAQ_a h0 h31 h35 (fun z hz => by
              rw [ea, ← ex, show formR (b1 x) (rowS (eW E i) (eV E i) 1) S = none from (if_neg (fun q => jb_eq0 h166 (bx.mp q))).trans (if_neg (fun q => jb_eq0 h204 (sub_iff2.mpr q)))] at hz
              cases hz) (aM_n (by rw [ea, ← ex]; exact (if_neg (fun q => jb_eq0 h166 (bx.mp q))).trans (if_neg (fun q => jb_eq0 h204 (sub_iff2.mpr q)))))
      · refine jm_aload_n (pc := 207) dM_atom_207 rfl ?_
        refine jm_iload_n (pc := 208) dM_atom_208 rfl ?_
        refine jm_iconst (pc := 209) (v := 2) dM_atom_209 (by decide) ?_
        refine jm_lload_n (pc := 210) dM_atom_210 rfl ?_
        refine jm_lconst (pc := 211) (v := 1) dM_atom_211 (by decide) ?_
        refine jm_iload (pc := 212) dM_atom_212 rfl ?_
        refine jm_lshl (pc := 214) dM_atom_214 ?_
        refine jm_lor (pc := 215) dM_atom_215 ?_
        refine jm_callV (pc := 216) (c_M_comes (d := d - 1) _ _ hm1 (by omega)) fM_comes vM_comes cM_167 dM_atom_216 rfl rfl rfl rfl (by omega) ⟨Nat.le_refl _, Nat.le_refl _⟩ rfl (Nat.le_of_ble_eq_true rfl) (fun v s2 hq => ?_)
        obtain ⟨rfl, rfl⟩ := hq
        refine jm_goto (pc := 219) (tgt := 290) dM_atom_219 (by decide) ?_
        refine jm_vret (pc := 290) dM_atom_290 rfl ⟨Nat.le_refl _, Nat.le_refl _⟩ ?_
        have ea : eA E i S = formR (b1 (eV E i 0)) (rowS (eW E i) (eV E i) 1) S := by unfold eA atomR; simp [hv]
        have ex := hx (by omega)
        first
          | exact mAQ_c (bc := fun k => if 8 = 8 then decide (0 < k) else oB 0 k) h0 hw7 h60 (z := (1, rowS (eW E i) (eV E i) 1)) (by rw [ea, ← ex]; exact if_pos (bx.mpr (jb_ne0 h166))) (fun y hy => by
              show decide (0 < y) = true ↔ _
              rw [decide_eq_true_eq]
              constructor
              · intro q; exact Or.inl ⟨hv, rfl, q⟩
              · rintro (q | q)
                · exact q.2.2
                · omega) (by rw [cm_I (by omega), h35])
          | exact mAQ_a h0 h31 h35 (fun z hz => by
              rw [ea, ← ex, show formR (b1 x) (rowS (eW E i) (eV E i) 1) S = some (2, b1 x) from (if_neg (fun q => jb_eq0 h166 (bx.mp q))).trans (if_pos (sub_iff2.mp (jb_ne0 h204)))] at hz
              cases hz
              exact bcE_no (fun _ => (show (2 : Int32) ≠ 1 by decide)) (by omega)) (aM_s (w := 2) (m := b1 x) (by rw [ea, ← ex]; exact (if_neg (fun q => jb_eq0 h166 (bx.mp q))).trans (if_pos (sub_iff2.mp (jb_ne0 h204)))) rfl rfl)
          | exact mAQ_a h0 h31 h35 (fun z hz => by
              rw [ea, ← ex, show formR (b1 x) (rowS (eW E i) (eV E i) 1) S = none from (if_neg (fun q => jb_eq0 h166 (bx.mp q))).trans (if_neg (fun q => jb_eq0 h204 (sub_iff2.mpr q)))] at hz
              cases hz) (aM_n (by rw [ea, ← ex]; exact (if_neg (fun q => jb_eq0 h166 (bx.mp q))).trans (if_neg (fun q => jb_eq0 h204 (sub_iff2.mpr q)))))
    · refine jm_aload_n (pc := 169) dM_atom_169 rfl ?_
      refine jm_iload_n (pc := 170) dM_atom_170 rfl ?_
      refine jm_iconst (pc := 171) (v := 1) dM_atom_171 (by decide) ?_
      refine jm_lload_n (pc := 172) dM_atom_172 rfl ?_
      refine jm_aload_n (pc := 173) dM_atom_173 rfl ?_
      refine jm_iload_n (pc := 174) dM_atom_174 rfl ?_
      refine jm_iconst (pc := 175) (v := 1) dM_atom_175 (by decide) ?_
      refine jm_callV (pc := 176) (c_M_rowOf (d := d - 1) (fr := 1) hm1 hv1 (by omega)) fM_rowOf vM_rowOf cM_159 dM_atom_176 rfl rfl rfl rfl (by omega) ⟨Nat.le_refl _, Nat.le_refl _⟩ rfl (Nat.le_of_ble_eq_true rfl) (fun v s2 hq => ?_)
      obtain ⟨rfl, rfl⟩ := hq
      refine jm_lor (pc := 179) dM_atom_179 ?_
      refine jm_callV (pc := 180) (c_M_comes (d := d - 1) _ _ hm1 (by omega)) fM_comes vM_comes cM_167 dM_atom_180 rfl rfl rfl rfl (by omega) ⟨Nat.le_refl _, Nat.le_refl _⟩ rfl (Nat.le_of_ble_eq_true rfl) (fun v s2 hq => ?_)
      obtain ⟨rfl, rfl⟩ := hq
      refine jm_aload_n (pc := 183) dM_atom_183 rfl ?_
      refine jm_iload_n (pc := 184) dM_atom_184 rfl ?_
      refine jm_iconst (pc := 185) (v := 0) dM_atom_185 (by decide) ?_
      refine jm_lload_n (pc := 186) dM_atom_186 rfl ?_
      refine jm_callV (pc := 187) (c_M_compare (d := d - 1) (st := cm s1 i 1 (S ||| rowS (eW E i) (eV E i) 1)) (s := 8) hm1 hv1.cm ((cm_I (by omega)).trans (hsr.trans (by rw [hv]))) (by decide) (by omega)) fM_compare vM_compare cM_179 dM_atom_187 rfl rfl rfl rfl (by omega) ⟨Nat.le_refl _, Nat.le_refl _⟩ rfl (Nat.le_of_ble_eq_true rfl) (fun v s2 hq => ?_)
      obtain ⟨rfl, rfl⟩ := hq
      refine jm_goto (pc := 190) (tgt := 290) dM_atom_190 (by decide) ?_
      refine jm_vret (pc := 290) dM_atom_290 rfl ⟨Nat.le_refl _, Nat.le_refl _⟩ ?_
      have ea : eA E i S = formR (b1 (eV E i 0)) (rowS (eW E i) (eV E i) 1) S := by unfold eA atomR; simp [hv]
      have ex := hx (by omega)
      first
        | exact mAQ_c (bc := fun k => if 8 = 8 then decide (0 < k) else oB 0 k) h0 hw7 h60 (z := (1, rowS (eW E i) (eV E i) 1)) (by rw [ea, ← ex]; exact if_pos (bx.mpr (jb_ne0 h166))) (fun y hy => by
            show decide (0 < y) = true ↔ _
            rw [decide_eq_true_eq]
            constructor
            · intro q; exact Or.inl ⟨hv, rfl, q⟩
            · rintro (q | q)
              · exact q.2.2
              · omega) (by rw [cm_I (by omega), h35])
        | exact mAQ_a h0 h31 h35 (fun z hz => by
            rw [ea, ← ex, show formR (b1 x) (rowS (eW E i) (eV E i) 1) S = some (2, b1 x) from (if_neg (fun q => jb_eq0 h166 (bx.mp q))).trans (if_pos (sub_iff2.mp (jb_ne0 h204)))] at hz
            cases hz
            exact bcE_no (fun _ => (show (2 : Int32) ≠ 1 by decide)) (by omega)) (aM_s (w := 2) (m := b1 x) (by rw [ea, ← ex]; exact (if_neg (fun q => jb_eq0 h166 (bx.mp q))).trans (if_pos (sub_iff2.mp (jb_ne0 h204)))) rfl rfl)
        | exact mAQ_a h0 h31 h35 (fun z hz => by
            rw [ea, ← ex, show formR (b1 x) (rowS (eW E i) (eV E i) 1) S = none from (if_neg (fun q => jb_eq0 h166 (bx.mp q))).trans (if_neg (fun q => jb_eq0 h204 (sub_iff2.mpr q)))] at hz
            cases hz) (aM_n (by rw [ea, ← ex]; exact (if_neg (fun q => jb_eq0 h166 (bx.mp q))).trans (if_neg (fun q => jb_eq0 h204 (sub_iff2.mpr q)))))
  · rw [hv]
    refine jm_tableIn (pc := 60) (tgt := 222) (off := 162) dM_atom_60 (by decide) (by decide) rfl (by decide) ?_
    have hw1 := hT.2.1 i hi hv
    refine jm_aload_n (pc := 222) dM_atom_222 rfl ?_
    refine jm_iload_n (pc := 223) dM_atom_223 rfl ?_
    refine jm_iload (pc := 224) dM_atom_224 rfl ?_
    refine jm_if_eq (pc := 226) (tgt := 233) dM_atom_226 (by decide) (fun h226 => ?_) (fun h226 => ?_)
    · refine jm_iconst (pc := 233) (v := 2) dM_atom_233 (by decide) ?_
      refine jm_lload_n (pc := 234) dM_atom_234 rfl ?_
      refine jm_lconst (pc := 235) (v := 1) dM_atom_235 (by decide) ?_
      refine jm_iload (pc := 236) dM_atom_236 rfl ?_
      refine jm_lshl (pc := 238) dM_atom_238 ?_
      refine jm_lor (pc := 239) dM_atom_239 ?_
      refine jm_callV (pc := 240) (c_M_comes (d := d - 1) _ _ hm1 (by omega)) fM_comes vM_comes cM_167 dM_atom_240 rfl rfl rfl rfl (by omega) ⟨Nat.le_refl _, Nat.le_refl _⟩ rfl (Nat.le_of_ble_eq_true rfl) (fun v s2 hq => ?_)
      obtain ⟨rfl, rfl⟩ := hq
      refine jm_goto (pc := 243) (tgt := 290) dM_atom_243 (by decide) ?_
      refine jm_vret (pc := 290) dM_atom_290 rfl ⟨Nat.le_refl _, Nat.le_refl _⟩ ?_
      have ea : eA E i S = sumR (b1 (eV E i 0)) (rowS (eW E i) (eV E i) 1) S := by unfold eA atomR; simp [hv]
      have ex := hx (by omega)
      have er : rowS (eW E i) (eV E i) 1 &&& nt S = 0 := by
        rw [hw1]
        show (0 : Int64) &&& nt S = 0
        rw [sub_iff]
        intro v _ q
        unfold gB at q
        rw [i64_0] at q
        cases q
      first
        | exact mAQ_a h0 h31 h35 (fun z hz => bcE_no (by omega) (by omega)) (aM_s (w := 1) (m := b1 x) (by rw [ea, ← ex]; exact (if_pos er).trans (by rw [if_pos (bx.mpr (jb_ne0 h226))])) rfl rfl)
        | exact mAQ_a h0 h31 h35 (fun z hz => bcE_no (by omega) (by omega)) (aM_s (w := 2) (m := b1 x) (by rw [ea, ← ex]; exact (if_pos er).trans (by rw [if_neg (fun q => jb_eq0 h226 (bx.mp q))])) rfl rfl)
    · refine jm_iconst (pc := 229) (v := 1) dM_atom_229 (by decide) ?_
      refine jm_goto (pc := 230) (tgt := 234) dM_atom_230 (by decide) ?_
      refine jm_lload_n (pc := 234) dM_atom_234 rfl ?_
      refine jm_lconst (pc := 235) (v := 1) dM_atom_235 (by decide) ?_
      refine jm_iload (pc := 236) dM_atom_236 rfl ?_
      refine jm_lshl (pc := 238) dM_atom_238 ?_
      refine jm_lor (pc := 239) dM_atom_239 ?_
      refine jm_callV (pc := 240) (c_M_comes (d := d - 1) _ _ hm1 (by omega)) fM_comes vM_comes cM_167 dM_atom_240 rfl rfl rfl rfl (by omega) ⟨Nat.le_refl _, Nat.le_refl _⟩ rfl (Nat.le_of_ble_eq_true rfl) (fun v s2 hq => ?_)
      obtain ⟨rfl, rfl⟩ := hq
      refine jm_goto (pc := 243) (tgt := 290) dM_atom_243 (by decide) ?_
      refine jm_vret (pc := 290) dM_atom_290 rfl ⟨Nat.le_refl _, Nat.le_refl _⟩ ?_
      have ea : eA E i S = sumR (b1 (eV E i 0)) (rowS (eW E i) (eV E i) 1) S := by unfold eA atomR; simp [hv]
      have ex := hx (by omega)
      have er : rowS (eW E i) (eV E i) 1 &&& nt S = 0 := by
        rw [hw1]
        show (0 : Int64) &&& nt S = 0
        rw [sub_iff]
        intro v _ q
        unfold gB at q
        rw [i64_0] at q
        cases q
      first
        | exact mAQ_a h0 h31 h35 (fun z hz => bcE_no (by omega) (by omega)) (aM_s (w := 1) (m := b1 x) (by rw [ea, ← ex]; exact (if_pos er).trans (by rw [if_pos (bx.mpr (jb_ne0 h226))])) rfl rfl)
        | exact mAQ_a h0 h31 h35 (fun z hz => bcE_no (by omega) (by omega)) (aM_s (w := 2) (m := b1 x) (by rw [ea, ← ex]; exact (if_pos er).trans (by rw [if_neg (fun q => jb_eq0 h226 (bx.mp q))])) rfl rfl)
  · rw [hv]
    refine jm_tableIn (pc := 60) (tgt := 246) (off := 186) dM_atom_60 (by decide) (by decide) rfl (by decide) ?_
    have hw1 := hT2.2.2.2.2.2.1 (by omega)
    refine jm_aload_n (pc := 246) dM_atom_246 rfl ?_
    refine jm_lload_n (pc := 247) dM_atom_247 rfl ?_
    refine jm_aload_n (pc := 248) dM_atom_248 rfl ?_
    refine jm_iload_n (pc := 249) dM_atom_249 rfl ?_
    refine jm_iconst (pc := 250) (v := 1) dM_atom_250 (by decide) ?_
    refine jm_callV (pc := 251) (c_M_rowOf (d := d - 1) (fr := 1) hm1 hv1 (by omega)) fM_rowOf vM_rowOf cM_159 dM_atom_251 rfl rfl rfl rfl (by omega) ⟨Nat.le_refl _, Nat.le_refl _⟩ rfl (Nat.le_of_ble_eq_true rfl) (fun v s2 hq => ?_)
    obtain ⟨rfl, rfl⟩ := hq
    refine jm_callV (pc := 254) (c_M_areIn (d := d - 1) _ _) fM_areIn vM_areIn cM_175 dM_atom_254 rfl rfl rfl rfl (by omega) ⟨Nat.le_refl _, Nat.le_refl _⟩ rfl (Nat.le_of_ble_eq_true rfl) (fun v s2 hq => ?_)
    obtain ⟨rfl, rfl⟩ := hq
    refine jm_if_eq (pc := 257) (tgt := 290) dM_atom_257 (by decide) (fun h257 => ?_) (fun h257 => ?_)
    · refine jm_vret (pc := 290) dM_atom_290 rfl ⟨Nat.le_refl _, Nat.le_refl _⟩ ?_
      have ea : eA E i S = sumR (b1 (eV E i 0)) (rowS (eW E i) (eV E i) 1) S := by unfold eA atomR; simp [hv]
      have ex := hx (by omega)
      first
        | exact mAQ_a h0 h31 h35 (fun z hz => bcE_no (by omega) (by omega)) (aM_s (w := 1) (m := b1 x) (by rw [ea, ← ex]; exact (if_pos (sub_iff2.mp (jb_ne0 h257))).trans (by rw [if_pos (bx.mpr (jb_ne0 h264))])) rfl rfl)
        | exact mAQ_a h0 h31 h35 (fun z hz => bcE_no (by omega) (by omega)) (aM_s (w := 2) (m := b1 x) (by rw [ea, ← ex]; exact (if_pos (sub_iff2.mp (jb_ne0 h257))).trans (by rw [if_neg (fun q => jb_eq0 h264 (bx.mp q))])) rfl rfl)
        | exact mAQ_a h0 h31 h35 (fun z hz => bcE_no (by omega) (by omega)) (aM_n (by rw [ea, ← ex]; exact if_neg (fun q => jb_eq0 h257 (sub_iff2.mpr q))))
    · refine jm_aload_n (pc := 260) dM_atom_260 rfl ?_
      refine jm_iload_n (pc := 261) dM_atom_261 rfl ?_
      refine jm_iload (pc := 262) dM_atom_262 rfl ?_
      refine jm_if_eq (pc := 264) (tgt := 271) dM_atom_264 (by decide) (fun h264 => ?_) (fun h264 => ?_)
      · refine jm_iconst (pc := 271) (v := 2) dM_atom_271 (by decide) ?_
        refine jm_lload_n (pc := 272) dM_atom_272 rfl ?_
        refine jm_lconst (pc := 273) (v := 1) dM_atom_273 (by decide) ?_
        refine jm_iload (pc := 274) dM_atom_274 rfl ?_
        refine jm_lshl (pc := 276) dM_atom_276 ?_
        refine jm_lor (pc := 277) dM_atom_277 ?_
        refine jm_callV (pc := 278) (c_M_comes (d := d - 1) _ _ hm1 (by omega)) fM_comes vM_comes cM_167 dM_atom_278 rfl rfl rfl rfl (by omega) ⟨Nat.le_refl _, Nat.le_refl _⟩ rfl (Nat.le_of_ble_eq_true rfl) (fun v s2 hq => ?_)
        obtain ⟨rfl, rfl⟩ := hq
        refine jm_goto (pc := 281) (tgt := 290) dM_atom_281 (by decide) ?_
        refine jm_vret (pc := 290) dM_atom_290 rfl ⟨Nat.le_refl _, Nat.le_refl _⟩ ?_
        have ea : eA E i S = sumR (b1 (eV E i 0)) (rowS (eW E i) (eV E i) 1) S := by unfold eA atomR; simp [hv]
        have ex := hx (by omega)
        first
          | exact mAQ_a h0 h31 h35 (fun z hz => bcE_no (by omega) (by omega)) (aM_s (w := 1) (m := b1 x) (by rw [ea, ← ex]; exact (if_pos (sub_iff2.mp (jb_ne0 h257))).trans (by rw [if_pos (bx.mpr (jb_ne0 h264))])) rfl rfl)
          | exact mAQ_a h0 h31 h35 (fun z hz => bcE_no (by omega) (by omega)) (aM_s (w := 2) (m := b1 x) (by rw [ea, ← ex]; exact (if_pos (sub_iff2.mp (jb_ne0 h257))).trans (by rw [if_neg (fun q => jb_eq0 h264 (bx.mp q))])) rfl rfl)
          | exact mAQ_a h0 h31 h35 (fun z hz => bcE_no (by omega) (by omega)) (aM_n (by rw [ea, ← ex]; exact if_neg (fun q => jb_eq0 h257 (sub_iff2.mpr q))))
      · refine jm_iconst (pc := 267) (v := 1) dM_atom_267 (by decide) ?_
        refine jm_goto (pc := 268) (tgt := 272) dM_atom_268 (by decide) ?_
        refine jm_lload_n (pc := 272) dM_atom_272 rfl ?_
        refine jm_lconst (pc := 273) (v := 1) dM_atom_273 (by decide) ?_
        refine jm_iload (pc := 274) dM_atom_274 rfl ?_
        refine jm_lshl (pc := 276) dM_atom_276 ?_
        refine jm_lor (pc := 277) dM_atom_277 ?_
        refine jm_callV (pc := 278) (c_M_comes (d := d - 1) _ _ hm1 (by omega)) fM_comes vM_comes cM_167 dM_atom_278 rfl rfl rfl rfl (by omega) ⟨Nat.le_refl _, Nat.le_refl _⟩ rfl (Nat.le_of_ble_eq_true rfl) (fun v s2 hq => ?_)
        obtain ⟨rfl, rfl⟩ := hq
        refine jm_goto (pc := 281) (tgt := 290) dM_atom_281 (by decide) ?_
        refine jm_vret (pc := 290) dM_atom_290 rfl ⟨Nat.le_refl _, Nat.le_refl _⟩ ?_
        have ea : eA E i S = sumR (b1 (eV E i 0)) (rowS (eW E i) (eV E i) 1) S := by unfold eA atomR; simp [hv]
        have ex := hx (by omega)
        first
          | exact mAQ_a h0 h31 h35 (fun z hz => bcE_no (by omega) (by omega)) (aM_s (w := 1) (m := b1 x) (by rw [ea, ← ex]; exact (if_pos (sub_iff2.mp (jb_ne0 h257))).trans (by rw [if_pos (bx.mpr (jb_ne0 h264))])) rfl rfl)
          | exact mAQ_a h0 h31 h35 (fun z hz => bcE_no (by omega) (by omega)) (aM_s (w := 2) (m := b1 x) (by rw [ea, ← ex]; exact (if_pos (sub_iff2.mp (jb_ne0 h257))).trans (by rw [if_neg (fun q => jb_eq0 h264 (bx.mp q))])) rfl rfl)
          | exact mAQ_a h0 h31 h35 (fun z hz => bcE_no (by omega) (by omega)) (aM_n (by rw [ea, ← ex]; exact if_neg (fun q => jb_eq0 h257 (sub_iff2.mpr q))))
  · rw [hv]
    refine jm_tableIn (pc := 60) (tgt := 140) (off := 80) dM_atom_60 (by decide) (by decide) rfl (by decide) ?_
    refine jm_aload_n (pc := 140) dM_atom_140 rfl ?_
    refine jm_lload_n (pc := 141) dM_atom_141 rfl ?_
    refine jm_aload_n (pc := 142) dM_atom_142 rfl ?_
    refine jm_iload_n (pc := 143) dM_atom_143 rfl ?_
    refine jm_iconst (pc := 144) (v := 0) dM_atom_144 (by decide) ?_
    refine jm_callV (pc := 145) (c_M_rowOf (d := d - 1) (fr := 0) hm1 hv1 (by omega)) fM_rowOf vM_rowOf cM_159 dM_atom_145 rfl rfl rfl rfl (by omega) ⟨Nat.le_refl _, Nat.le_refl _⟩ rfl (Nat.le_of_ble_eq_true rfl) (fun v s2 hq => ?_)
    obtain ⟨rfl, rfl⟩ := hq
    refine jm_callV (pc := 148) (c_M_areIn (d := d - 1) _ _) fM_areIn vM_areIn cM_175 dM_atom_148 rfl rfl rfl rfl (by omega) ⟨Nat.le_refl _, Nat.le_refl _⟩ rfl (Nat.le_of_ble_eq_true rfl) (fun v s2 hq => ?_)
    obtain ⟨rfl, rfl⟩ := hq
    refine jm_if_eq (pc := 151) (tgt := 290) dM_atom_151 (by decide) (fun h151 => ?_) (fun h151 => ?_)
    · refine jm_vret (pc := 290) dM_atom_290 rfl ⟨Nat.le_refl _, Nat.le_refl _⟩ ?_
      have ea : eA E i S = allR (rowS (eW E i) (eV E i) 0) S := by unfold eA atomR; simp [hv]
      first
        | exact mAQ_a h0 h31 h35 (fun z hz => bcE_no (by omega) (by omega)) (aM_s (w := 1) (m := 0) (by rw [ea]; exact if_pos (sub_iff2.mp (jb_ne0 h151))) (i64_or0 S).symm rfl)
        | exact mAQ_a h0 h31 h35 (fun z hz => bcE_no (by omega) (by omega)) (aM_n (by rw [ea]; exact if_neg (fun q => jb_eq0 h151 (sub_iff2.mpr q))))
    · refine jm_aload_n (pc := 154) dM_atom_154 rfl ?_
      refine jm_iload_n (pc := 155) dM_atom_155 rfl ?_
      refine jm_iconst (pc := 156) (v := 1) dM_atom_156 (by decide) ?_
      refine jm_lload_n (pc := 157) dM_atom_157 rfl ?_
      refine jm_callV (pc := 158) (c_M_comes (d := d - 1) _ _ hm1 (by omega)) fM_comes vM_comes cM_167 dM_atom_158 rfl rfl rfl rfl (by omega) ⟨Nat.le_refl _, Nat.le_refl _⟩ rfl (Nat.le_of_ble_eq_true rfl) (fun v s2 hq => ?_)
      obtain ⟨rfl, rfl⟩ := hq
      refine jm_goto (pc := 161) (tgt := 290) dM_atom_161 (by decide) ?_
      refine jm_vret (pc := 290) dM_atom_290 rfl ⟨Nat.le_refl _, Nat.le_refl _⟩ ?_
      have ea : eA E i S = allR (rowS (eW E i) (eV E i) 0) S := by unfold eA atomR; simp [hv]
      first
        | exact mAQ_a h0 h31 h35 (fun z hz => bcE_no (by omega) (by omega)) (aM_s (w := 1) (m := 0) (by rw [ea]; exact if_pos (sub_iff2.mp (jb_ne0 h151))) (i64_or0 S).symm rfl)
        | exact mAQ_a h0 h31 h35 (fun z hz => bcE_no (by omega) (by omega)) (aM_n (by rw [ea]; exact if_neg (fun q => jb_eq0 h151 (sub_iff2.mpr q))))
  · rw [hv]
    refine jm_tableOut (pc := 60) (tgt := 284) dM_atom_60 (by decide) (by decide) ?_
    refine jm_aload_n (pc := 284) dM_atom_284 rfl ?_
    refine jm_iload_n (pc := 285) dM_atom_285 rfl ?_
    refine jm_lload_n (pc := 286) dM_atom_286 rfl ?_
    refine jm_callV (pc := 287) (c_M_call (d := d - 1) (p := eQ E i) (md := eMd E (eQ E i)) (ou := eOu E (eQ E i)) hm1 hv1 (hsr.trans (by rw [hv])) ((h0.2.1 22 0 i (by omega)).trans (b6_ hv)) (by have := hT2.2.2.2.2.2.2.1 hv; have := hT.2.2.2.1.2.1; omega) ((h0.2.1 13 0 _ (by omega)).trans (hT.2.2.2.1.2.2 _ (hT2.2.2.2.2.2.2.1 hv)).2.2.1) (hT.2.2.2.1.2.2 _ (hT2.2.2.2.2.2.2.1 hv)).2.2.2.1 (fun m hm9 => (h0.2.1 14 0 _ (by omega)).trans ((hT.2.2.2.1.2.2 _ (hT2.2.2.2.2.2.2.1 hv)).2.2.2.2 m hm9)) (by omega)) fM_call vM_call cM_182 dM_atom_287 rfl rfl rfl rfl (by omega) ⟨Nat.le_refl _, Nat.le_refl _⟩ rfl (Nat.le_of_ble_eq_true rfl) (fun v s2 hq => ?_)
    have hq9 := hq
    obtain ⟨rfl, -⟩ := hq
    refine jm_vret (pc := 290) dM_atom_290 rfl ⟨Nat.le_refl _, Nat.le_refl _⟩ ?_
    have ea : eA E i S = callR (fun m => insS (eOu E (eQ E i) m) (eW E i) (eV E i)) (rowS (eW E i) (eV E i) 0) S (eMd E (eQ E i)) 0 := by unfold eA atomR; simp [hv]
    obtain ⟨-, hq9⟩ := hq9
    cases hr : callR (fun m => insS (eOu E (eQ E i) m) (eW E i) (eV E i)) (rowS (eW E i) (eV E i) 0) S (eMd E (eQ E i)) 0 with
    | none =>
      rw [hr] at hq9
      exact mAQ_a h0 h31 h35 (fun z hz => by rw [ea, hr] at hz; cases hz) (by rw [ea, hr]; exact ⟨rfl, hq9⟩)
    | some z =>
      rw [hr] at hq9
      obtain ⟨m, hm9, hz1, hq9⟩ := hq9
      rw [h35] at hq9
      refine mAQ_c h0 hw7 h60 (ea.trans hr) (fun y hy => ?_) hq9
      constructor
      · intro q; exact Or.inr ⟨hv, m, hm9, hz1, q⟩
      · rintro (q | ⟨-, m2, h1, h2, h3⟩)
        · omega
        · have h4m : eMd E (eQ E i) ≤ 4 := (hT.2.2.2.1.2.2 _ (hT2.2.2.2.2.2.2.1 hv)).2.2.2.1
          have e9 : m = m2 := (nI_eq (by omega) (by omega)).mp (hz1.symm.trans h2)
          rw [e9]; exact h3
set_option maxRecDepth 100000 in
set_option maxHeartbeats 4000000 in
theorem c_M_atom {i : Nat} {S : Int64} (hT : TM E st) (hi : i < eN E) (h4 : 4 ≤ eS E i) (hA : st.2.1 29 0 i = S) (hd : 3 ≤ d) : MC l D mM_atom d 0 0 [vR (some (5, 0)), vI (nI i)] st (mAQ E i S st) := by
  refine jm_start (ls0 := [some (vR (some (5, 0))), some (vI (nI i)), none, none, none, none]) (by decide) (Nat.le_of_ble_eq_true rfl) rfl ?_
  have hi250 : i < 250 := Nat.lt_of_lt_of_le hi hT.1.1
  have hm := hT.2.2.1
  obtain ⟨b1_, b2_, b3_, b4_, b5_, b6_, -, -⟩ := hT.2.2.2.2 i hi
  have hw7 := b5_.2.1
  refine jm_aload_n (pc := 0) dM_atom_0 rfl ?_
  refine jm_getq (pc := 1) lM_62 dM_atom_1 rfl rfl (hm 23 rfl) ?_
  refine jm_iload_n (pc := 4) dM_atom_4 rfl ?_
  refine jm_lald (pc := 5) dM_atom_5 rfl (by decide) rfl (fun _ => rfl) ?hin ?_
  case hin =>
    exact vp_in_nI (N := 250) (by omega) (by decide)
  rw [nI_clamp (by omega), hA]
  refine jm_lstore_n (pc := 6) dM_atom_6 (by decide) ?_
  refine jm_aload_n (pc := 7) dM_atom_7 rfl ?_
  refine jm_getq (pc := 8) lM_68 dM_atom_8 rfl rfl (hm 25 rfl) ?_
  refine jm_iload_n (pc := 11) dM_atom_11 rfl ?_
  refine jm_iconst (pc := 12) (v := 0) dM_atom_12 (by decide) ?_
  refine jm_zast (pc := 13) dM_atom_13 rfl (by decide) rfl (fun _ => rfl) ?hin (by first | exact Or.inl rfl | exact Or.inr rfl | assumption) ?_
  case hin =>
    exact vp_in_nI (N := 250) (by omega) (by decide)
  refine jm_aload_n (pc := 14) dM_atom_14 rfl ?_
  refine jm_getq (pc := 15) lM_81 dM_atom_15 rfl rfl (hm 29 rfl) ?_
  refine jm_iload_n (pc := 18) dM_atom_18 rfl ?_
  refine jm_iconst (pc := 19) (v := 0) dM_atom_19 (by decide) ?_
  refine jm_iast (pc := 20) dM_atom_20 rfl (by decide) rfl (fun _ => rfl) ?hin ?_
  case hin =>
    exact vp_in_nI (N := 250) (by omega) (by decide)
  rw [nI_clamp (by omega)]
  generalize hs1 : sI (sI st 31 0 i 0) 35 0 i 0 = s1
  have h0 : MEq i st s1 := by rw [← hs1]; exact (MEq.sI (Or.inl rfl)).tr (MEq.sI (Or.inr (Or.inr rfl)))
  have h31 : s1.1 31 0 i = 0 := by rw [← hs1]; exact (sI_ne (by omega)).trans sI_eq
  have h35 : s1.1 35 0 i = 0 := by rw [← hs1]; exact sI_eq
  have hm : mF s1 := fun j hj => by rw [h0.1]; exact hm j hj
  refine jm_aload_n (pc := 21) dM_atom_21 rfl ?_
  refine jm_getq (pc := 22) lM_43 dM_atom_22 rfl rfl (hm 14 rfl) ?_
  refine jm_iload_n (pc := 25) dM_atom_25 rfl ?_
  refine jm_iald (pc := 26) dM_atom_26 rfl (by decide) rfl (fun _ => rfl) ?hin ?_
  case hin =>
    exact vp_in_nI (N := 250) (by omega) (by decide)
  rw [nI_clamp (by omega), (h0.2.1 23 0 i (by omega)).trans b5_.1]
  refine jm_if_le (pc := 27) (tgt := 42) dM_atom_27 (by decide) (fun h27 => ?_) (fun h27 => ?_)
  · refine jm_iconst (pc := 42) (v := 0) dM_atom_42 (by decide) ?_
    first
      | exact lm_M_atom hT hi h4 h0 h31 h35 (b5_.2.2.2 0 hw0).2 (fun _ => rfl) hd
      | exact lm_M_atom (x := 0) hT hi h4 h0 h31 h35 (by decide) (fun q => absurd h27 (nI_nle q (by omega))) hd
  · refine jm_aload_n (pc := 30) dM_atom_30 rfl ?_
    refine jm_getq (pc := 31) lM_46 dM_atom_31 rfl rfl (hm 15 rfl) ?_
    refine jm_bipush (pc := 34) (v := 7) dM_atom_34 (by decide) ?_
    refine jm_iload_n (pc := 36) dM_atom_36 rfl ?_
    refine jm_imul (pc := 37) dM_atom_37 ?_
    have hw0 : 0 < eW E i := Nat.pos_of_ne_zero fun q => h27 (by rw [q]; decide)
    rw [show (7 : Int32) * nI i = nI (7 * i + 0) from pk_mul 7 i]
    refine jm_iald (pc := 38) dM_atom_38 rfl (by decide) rfl (fun _ => rfl) ?hin ?_
    case hin =>
      exact vp_in_nI (N := 1750) (by omega) (by decide)
    rw [nI_clamp (by omega), (h0.2.1 24 0 _ (by omega)).trans (b5_.2.2.2 0 hw0).1]
    refine jm_goto (pc := 39) (tgt := 43) dM_atom_39 (by decide) ?_
    first
      | exact lm_M_atom hT hi h4 h0 h31 h35 (b5_.2.2.2 0 hw0).2 (fun _ => rfl) hd
      | exact lm_M_atom (x := 0) hT hi h4 h0 h31 h35 (by decide) (fun q => absurd h27 (nI_nle q (by omega))) hd
end CM4
