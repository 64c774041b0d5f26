/-! THE LAW'S OWN FRAME: as the machine over an abstract heap, with the script in local 0 -/
section LAW
variable {p : Program} {l : Launch} {e : Env} {s : State} {m : MethodId} {below : List Frame} {meth : Method} {c : Code} {b L : Nat} {xs : Nat → Int32} {G : va_G} {ci : Nat → Nat} {uc us pc : Nat} {ls : List (Option aV)} {sk : List aV} {st : aS}
def LC (p : Program) (s : State) (m : MethodId) (meth : Method) (c : Code) (b L : Nat) (xs : Nat → Int32) (G : va_G) (ci : Nat → Nat) : Prop := p.tables.exec = Jvm.exec ∧ c.code = code ∧ c.maxLocals = 4 ∧ s.vm.findClass "GoalOrderLaw" = some m.cls ∧ (∀ w ∈ jm_tb, w.before #[Value.ref b] s = true) ∧ jm_K (G, s.heap, ci) s ∧ meth.sig.returnType = ret ∧ meth.locks = false ∧ va_X b L xs s s.heap ∧ b < s.heap.size
def LW (p : Program) (l : Launch) (e : Env) (s : State) (m : MethodId) (below : List Frame) (meth : Method) (c : Code) (b L : Nat) (xs : Nat → Int32) (G : va_G) (ci : Nat → Nat) (uc us pc : Nat) (ls : List (Option aV)) (sk : List aV) (st : aS) : Prop :=
  LC p s m meth c b L xs G ci → ∀ (ad : Nat → Nat → Nat) (H : Heap) (locs : List Loc) (lsA : Array Slot), jm_R (G, s.heap, ci) ad st H → jm_okL st.2.2.2 ls → jm_okS st.2.2.2 sk → jm_lo ad lsA 4 ls → (∀ q ∈ locs, s.heap.size ≤ q.base) → lsA[0]? = some (.val (.ref b)) → W p l e room_1 s m #[Value.ref b] below meth c H locs uc us (lw_Z below #[Value.ref b] s) (F0 m pc lsA (sk.map (jm_c ad)))
theorem L_iconst {n : Int} {v : Int32} (hd : decode code pc = .ok (.iconst n, 1)) (hv : Int32.ofInt n = v) (kk : LW p l e s m below meth c b L xs G ci uc us (pc + 1) ls (vI v :: sk) st) : LW p l e s m below meth c b L xs G ci uc us pc ls sk st := by
  intro X ad H locs lsA hR hoL hoS hlo hlc h0
  exact lv_iconst X.1 X.2.1 hd hv (kk X ad H locs lsA hR hoL ⟨trivial, hoS⟩ hlo hlc h0)
theorem L_bipush {n : Int} {v : Int32} (hd : decode code pc = .ok (.bipush n, 2)) (hv : (Int8.ofInt n).toInt32 = v) (kk : LW p l e s m below meth c b L xs G ci uc us (pc + 2) ls (vI v :: sk) st) : LW p l e s m below meth c b L xs G ci uc us pc ls sk st := by
  intro X ad H locs lsA hR hoL hoS hlo hlc h0
  exact lv_bipush X.1 X.2.1 hd hv (kk X ad H locs lsA hR hoL ⟨trivial, hoS⟩ hlo hlc h0)
theorem L_iload_n {k : Fin 4} {x : Int32} (hd : decode code pc = .ok (.iload_n k, 1)) (hl : ls[(k : Nat)]? = some (some (vI x))) (kk : LW p l e s m below meth c b L xs G ci uc us (pc + 1) ls (vI x :: sk) st) : LW p l e s m below meth c b L xs G ci uc us pc ls sk st := by
  intro X ad H locs lsA hR hoL hoS hlo hlc h0
  exact lv_iload_n X.1 X.2.1 hd rfl (hlo.2.2 _ _ hl) (kk X ad H locs lsA hR hoL ⟨trivial, hoS⟩ hlo hlc h0)
theorem L_aload_n {k : Fin 4} {x : Nat × Nat} (hd : decode code pc = .ok (.aload_n k, 1)) (hl : ls[(k : Nat)]? = some (some (vR (some x)))) (kk : LW p l e s m below meth c b L xs G ci uc us (pc + 1) ls (vR (some x) :: sk) st) : LW p l e s m below meth c b L xs G ci uc us pc ls sk st := by
  intro X ad H locs lsA hR hoL hoS hlo hlc h0
  exact lv_aload_n X.1 X.2.1 hd rfl (hlo.2.2 _ _ hl) (kk X ad H locs lsA hR hoL ⟨hoL _ _ hl, hoS⟩ hlo hlc h0)
theorem L_isub {x y : Int32} (hd : decode code pc = .ok (.isub, 1)) (kk : LW p l e s m below meth c b L xs G ci uc us (pc + 1) ls (vI (x - y) :: sk) st) : LW p l e s m below meth c b L xs G ci uc us pc ls (vI y :: vI x :: sk) st := by
  intro X ad H locs lsA hR hoL hoS hlo hlc h0
  exact lv_isub X.1 X.2.1 hd (kk X ad H locs lsA hR hoL ⟨trivial, hoS.2.2⟩ hlo hlc h0)
theorem L_iand {x y : Int32} (hd : decode code pc = .ok (.iand, 1)) (kk : LW p l e s m below meth c b L xs G ci uc us (pc + 1) ls (vI (x &&& y) :: sk) st) : LW p l e s m below meth c b L xs G ci uc us pc ls (vI y :: vI x :: sk) st := by
  intro X ad H locs lsA hR hoL hoS hlo hlc h0
  exact lv_iand X.1 X.2.1 hd (kk X ad H locs lsA hR hoL ⟨trivial, hoS.2.2⟩ hlo hlc h0)
theorem L_dup {v : aV} (hd : decode code pc = .ok (.dup, 1)) (hv : jm_cat v = 1) (kk : LW p l e s m below meth c b L xs G ci uc us (pc + 1) ls (v :: v :: sk) st) : LW p l e s m below meth c b L xs G ci uc us pc ls (v :: sk) st := by
  intro X ad H locs lsA hR hoL hoS hlo hlc h0
  exact lv_dup X.1 X.2.1 hd (by rw [jm_cat_c]; exact hv) (kk X ad H locs lsA hR hoL ⟨hoS.1, hoS⟩ hlo hlc h0)
theorem L_if_eq {x : Int32} {off : Int} {tgt : Nat} (hd : decode code pc = .ok (.ifCond .eq off, 3)) (ht : (pc : Int) + off = (tgt : Int)) (kt : x = 0 → LW p l e s m below meth c b L xs G ci uc us tgt ls sk st) (kf : ¬ x = 0 → LW p l e s m below meth c b L xs G ci uc us (pc + 3) ls sk st) : LW p l e s m below meth c b L xs G ci uc us pc ls (vI x :: sk) st := by
  intro X ad H locs lsA hR hoL hoS hlo hlc h0
  exact lv_if_eq X.1 X.2.1 hd ht (fun hh => (kt hh X ad H locs lsA hR hoL hoS.2 hlo hlc h0)) (fun hh => (kf hh X ad H locs lsA hR hoL hoS.2 hlo hlc h0))
theorem L_icmp_eq {x y : Int32} {off : Int} {tgt : Nat} (hd : decode code pc = .ok (.if_icmp .eq off, 3)) (ht : (pc : Int) + off = (tgt : Int)) (kt : x = y → LW p l e s m below meth c b L xs G ci uc us tgt ls sk st) (kf : ¬ x = y → LW p l e s m below meth c b L xs G ci uc us (pc + 3) ls sk st) : LW p l e s m below meth c b L xs G ci uc us pc ls (vI y :: vI x :: sk) st := by
  intro X ad H locs lsA hR hoL hoS hlo hlc h0
  exact lv_icmp_eq X.1 X.2.1 hd ht (fun hh => (kt hh X ad H locs lsA hR hoL hoS.2.2 hlo hlc h0)) (fun hh => (kf hh X ad H locs lsA hR hoL hoS.2.2 hlo hlc h0))
theorem L_icmp_gt {x y : Int32} {off : Int} {tgt : Nat} (hd : decode code pc = .ok (.if_icmp .gt off, 3)) (ht : (pc : Int) + off = (tgt : Int)) (kt : y < x → LW p l e s m below meth c b L xs G ci uc us tgt ls sk st) (kf : ¬ y < x → LW p l e s m below meth c b L xs G ci uc us (pc + 3) ls sk st) : LW p l e s m below meth c b L xs G ci uc us pc ls (vI y :: vI x :: sk) st := by
  intro X ad H locs lsA hR hoL hoS hlo hlc h0
  exact lv_icmp_gt X.1 X.2.1 hd ht (fun hh => (kt hh X ad H locs lsA hR hoL hoS.2.2 hlo hlc h0)) (fun hh => (kf hh X ad H locs lsA hR hoL hoS.2.2 hlo hlc h0))
theorem L_goto {off : Int} {tgt : Nat} (hd : decode code pc = .ok (.goto off, 3)) (ht : (pc : Int) + off = (tgt : Int)) (kk : LW p l e s m below meth c b L xs G ci uc us tgt ls sk st) : LW p l e s m below meth c b L xs G ci uc us pc ls sk st := by
  intro X ad H locs lsA hR hoL hoS hlo hlc h0
  exact lv_goto X.1 X.2.1 hd ht (kk X ad H locs lsA hR hoL hoS hlo hlc h0)
theorem L_tableOut {dflt lo hi : Int} {offs : Array Int} {len : Nat} {x : Int32} {tgt : Nat} (hd : decode code pc = .ok (.tableswitch dflt lo hi offs, len)) (h : x.toInt < lo ∨ hi < x.toInt) (ht : (pc : Int) + dflt = (tgt : Int)) (kk : LW p l e s m below meth c b L xs G ci uc us tgt ls sk st) : LW p l e s m below meth c b L xs G ci uc us pc ls (vI x :: sk) st := by
  intro X ad H locs lsA hR hoL hoS hlo hlc h0
  exact lv_tableOut X.1 X.2.1 hd h ht (kk X ad H locs lsA hR hoL hoS.2 hlo hlc h0)
theorem L_tableIn {dflt lo hi : Int} {offs : Array Int} {len : Nat} {x : Int32} {off : Int} {tgt : Nat} (hd : decode code pc = .ok (.tableswitch dflt lo hi offs, len)) (h1 : ¬ x.toInt < lo) (h2 : ¬ hi < x.toInt) (ho : offs[(x.toInt - lo).toNat]? = some off) (ht : (pc : Int) + off = (tgt : Int)) (kk : LW p l e s m below meth c b L xs G ci uc us tgt ls sk st) : LW p l e s m below meth c b L xs G ci uc us pc ls (vI x :: sk) st := by
  intro X ad H locs lsA hR hoL hoS hlo hlc h0
  exact lv_tableIn X.1 X.2.1 hd h1 h2 ho ht (kk X ad H locs lsA hR hoL hoS.2 hlo hlc h0)
theorem L_has {ad : Nat → Nat → Nat} {lsA : Array Slot} {n : Nat} (hlo : jm_lo ad lsA n ls) (h0 : lsA[0]? = some (.val (.ref b))) : lv_has lsA n ((0, .ref b) :: jm_lv ad ls) := by
  have h := hlo.has
  refine ⟨h.1, h.2.1, fun q hq => ?_⟩
  rcases List.mem_cons.mp hq with rfl | hq
  · exact h0
  · exact h.2.2 q hq
theorem L_put {ad : Nat → Nat → Nat} {lsB : Array Slot} {n i : Nat} {v : aV} (hi : i ≠ 0) (h : lv_has lsB n ((i, jm_c ad v) :: ((0, .ref b) :: jm_lv ad ls).filter (fun q => !(q.1 == i) && !(q.1 + 1 == i && q.2.category == 2)))) : jm_lo ad lsB n (jm_put1 ls i v) ∧ lsB[0]? = some (.val (.ref b)) := by
  refine ⟨jm_lo.st1 ⟨h.1, h.2.1, fun q hq => ?_⟩, ?_⟩
  · rcases List.mem_cons.mp hq with rfl | hq
    · exact h.2.2 _ List.mem_cons_self
    · obtain ⟨h1, h2⟩ := List.mem_filter.mp hq
      exact h.2.2 q (List.mem_cons_of_mem _ (List.mem_filter.mpr ⟨List.mem_cons_of_mem _ h1, h2⟩))
  · refine h.2.2 (0, .ref b) (List.mem_cons_of_mem _ (List.mem_filter.mpr ⟨List.mem_cons_self, ?_⟩))
    have e1 : ((0 : Nat) == i) = false := by simpa using fun z => hi z.symm
    simp [e1, Value.category]
theorem L_istore_n {k : Fin 4} {x : Int32} (hd : decode code pc = .ok (.istore_n k, 1)) (hk : (k : Nat) ≠ 0) (kk : LW p l e s m below meth c b L xs G ci uc us (pc + 1) (jm_put1 ls k (vI x)) sk st) : LW p l e s m below meth c b L xs G ci uc us pc ls (vI x :: sk) st := by
  intro X ad H locs lsA hR hoL hoS hlo hlc h0
  refine lv_istore_n X.1 X.2.1 hd rfl (L_has hlo h0) k.2 rfl (fun lsB hl => ?_)
  obtain ⟨h1, h2⟩ := L_put (v := vI x) hk hl
  exact kk X ad H locs lsB hR (hoL.put1 trivial) hoS.2 h1 hlc h2
theorem L_astore_n {k : Fin 4} {x : Nat × Nat} (hd : decode code pc = .ok (.astore_n k, 1)) (hk : (k : Nat) ≠ 0) (kk : LW p l e s m below meth c b L xs G ci uc us (pc + 1) (jm_put1 ls k (vR (some x))) sk st) : LW p l e s m below meth c b L xs G ci uc us pc ls (vR (some x) :: sk) st := by
  intro X ad H locs lsA hR hoL hoS hlo hlc h0
  refine lv_astore_n X.1 X.2.1 hd rfl (L_has hlo h0) k.2 rfl (fun lsB hl => ?_)
  obtain ⟨h1, h2⟩ := L_put (v := vR (some x)) hk hl
  exact kk X ad H locs lsB hR (hoL.put1 hoS.1) hoS.2 h1 hlc h2
theorem L_iinc {i : Nat} {n : Int} {x : Int32} (hd : decode code pc = .ok (.iinc i n, 3)) (hl : ls[i]? = some (some (vI x))) (hn : i < 4) (hk : i ≠ 0) (kk : LW p l e s m below meth c b L xs G ci uc us (pc + 3) (jm_put1 ls i (vI (x + Int32.ofInt n))) sk st) : LW p l e s m below meth c b L xs G ci uc us pc ls sk st := by
  intro X ad H locs lsA hR hoL hoS hlo hlc h0
  obtain ⟨k0, hk0⟩ := List.getElem?_of_mem (List.mem_cons_of_mem (0, Value.ref b) (jm_lv_mem (ad := ad) hl))
  refine lv_iinc X.1 X.2.1 hd (L_has hlo h0) hk0 rfl hn rfl (fun lsB hl => ?_)
  obtain ⟨h1, h2⟩ := L_put (v := vI (x + Int32.ofInt n)) hk hl
  exact kk X ad H locs lsB hR (hoL.put1 trivial) hoS h1 hlc h2
theorem L_widen {uc' us' : Nat} (h1 : uc ≤ uc') (h2 : us ≤ us') (kk : LW p l e s m below meth c b L xs G ci uc' us' pc ls sk st) : LW p l e s m below meth c b L xs G ci uc us pc ls sk st := by
  intro X ad H locs lsA hR hoL hoS hlo hlc h0
  exact W.widen (k := uc') (n := us') h1 h2 (kk X ad H locs lsA hR hoL hoS hlo hlc h0)
/-! the script -/
theorem L_S {ad : Nat → Nat → Nat} {H : Heap} {locs : List Loc} (hR : jm_R (G, s.heap, ci) ad st H) (hlc : ∀ q ∈ locs, s.heap.size ≤ q.base) : va_S (fun q => s.heap.size ≤ q) s.heap H locs := ⟨hR.2.2.2.2.2, fun q hq _ => hR.2.2.2.2.1 q hq, hlc⟩
theorem L_len (hd0 : decode code pc = .ok (.aload_n 0, 1)) (hd1 : decode code (pc + 1) = .ok (.arraylength, 1)) (kk : LW p l e s m below meth c b L xs G ci uc us (pc + 2) ls (vI (nI L) :: sk) st) : LW p l e s m below meth c b L xs G ci uc us pc ls sk st := by
  intro X ad H locs lsA hR hoL hoS hlo hlc h0
  obtain ⟨hx, hb, hml, hown, hts, hK, hr, hlk, hX, hbl⟩ := id X
  refine lv_aload_n hx hb hd0 rfl h0 ?_
  exact va_slen hx hb hX hbl (Nat.not_le.mpr hbl) (L_S hR hlc) hd1 (kk X ad H locs lsA hR hoL ⟨trivial, hoS⟩ hlo hlc h0)
theorem L_rd {k : Nat} (hd0 : decode code pc = .ok (.aload_n 0, 1)) (hd1 : decode code (pc + 1) = .ok (.iload_n 3, 1)) (hd2 : decode code (pc + 2) = .ok (.iaload, 1)) (hl : ls[3]? = some (some (vI (nI k)))) (hk : k < L) (hL : L ≤ 2048) (kk : LW p l e s m below meth c b L xs G ci uc us (pc + 3) ls (vI (xs k) :: sk) st) : LW p l e s m below meth c b L xs G ci uc us pc ls sk st := by
  intro X ad H locs lsA hR hoL hoS hlo hlc h0
  obtain ⟨hx, hb, hml, hown, hts, hK, hr, hlk, hX, hbl⟩ := id X
  refine lv_aload_n hx hb hd0 rfl h0 ?_
  refine lv_iload_n hx hb hd1 rfl (hlo.2.2 _ _ hl) ?_
  refine va_sld hx hb hX hbl (Nat.not_le.mpr hbl) (L_S hR hlc) (nI_in hk (by omega)) hd2 ?_
  rw [nI_clamp (by omega)]
  exact kk X ad H locs lsA hR hoL ⟨trivial, hoS⟩ hlo hlc h0
theorem L_rdk {k j : Nat} {n : Int} (hd0 : decode code pc = .ok (.aload_n 0, 1)) (hd1 : decode code (pc + 1) = .ok (.iload_n 3, 1)) (hd2 : decode code (pc + 2) = .ok (.iconst n, 1)) (hd3 : decode code (pc + 3) = .ok (.iadd, 1)) (hd4 : decode code (pc + 4) = .ok (.iaload, 1)) (hn : Int32.ofInt n = nI j) (hl : ls[3]? = some (some (vI (nI k)))) (hk : k + j < L) (hL : L ≤ 2048) (kk : LW p l e s m below meth c b L xs G ci uc us (pc + 5) ls (vI (xs (k + j)) :: sk) st) : LW p l e s m below meth c b L xs G ci uc us pc ls sk st := by
  intro X ad H locs lsA hR hoL hoS hlo hlc h0
  obtain ⟨hx, hb, hml, hown, hts, hK, hr, hlk, hX, hbl⟩ := id X
  refine lv_aload_n hx hb hd0 rfl h0 ?_
  refine lv_iload_n hx hb hd1 rfl (hlo.2.2 _ _ hl) ?_
  refine lv_iconst hx hb hd2 hn ?_
  refine lv_iadd hx hb hd3 ?_
  rw [nI_add]
  refine va_sld hx hb hX hbl (Nat.not_le.mpr hbl) (L_S hR hlc) (nI_in hk (by omega)) hd4 ?_
  rw [nI_clamp (by omega)]
  exact kk X ad H locs lsA hR hoL ⟨trivial, hoS⟩ hlo hlc h0
/-! making, calls, the end -/
theorem L_new {k cj idx : Nat} {q : vw_C} (hd : decode code pc = .ok (.new idx, 3)) (hk : kob k = some cj) (hq : vwCl[cj]? = some q) (hw : Cond.classLink "GoalOrderLaw" idx q.1 ∈ jm_tb) (hi : Cond.instantiable q.1 q.2.2 ∈ jm_tb) (hini : Cond.initialized q.1 ∈ jm_tb) (hu : uc + 1 ≤ 600000 ∧ us + q.2.2 ≤ 7302250) (kk : LW p l e s m below meth c b L xs G ci (uc + 1) (us + q.2.2) (pc + 3) ls (vR (some (k, st.2.2.2 k)) :: sk) (sNew st k)) : LW p l e s m below meth c b L xs G ci uc us pc ls sk st := by
  intro X ad H locs lsA hR hoL hoS hlo hlc h0
  obtain ⟨hx, hb, hml, hown, hts, hK, hr, hlk, hX, hbl⟩ := id X
  have hKn := hK.1.1 cj q hq
  refine W.newcK hx hb hown (hts _ hw) (hts _ hi) (hts _ hini) rfl hd hu.1 hu.2 hKn.2.1 rfl fun H1 kC hkC e1 z1 o1 => ?_
  have hn : jm_cell (G, s.heap, ci) (jm_up2 ad k (st.2.2.2 k) H.size) (sNew st k) k (st.2.2.2 k) H1 := by
    obtain ⟨ty0, hty0⟩ := jm_tys cj q hq
    unfold jm_cell
    rw [hk, jm_up2_at]
    exact ⟨q, hq, (u_born ty0 hts (jm_lays cj q hq) hKn hkC e1 hty0).to (fun j hj => by rw [jm_val_new]; exact jm_dfl k cj q hk hq j hj _ (hty0 j hj))⟩
  obtain ⟨hR1, hxx⟩ := hR.new z1 o1 hn
  have h := kk X _ H1 locs lsA hR1 (jm_okL_mono (jm_new_le k) hoL) ⟨jm_new_ok, jm_okS_mono (jm_new_le k) hoS⟩ (jm_lo_ext hxx hoL hlo) hlc h0
  rw [List.map_cons, jm_map_ext hxx hoS] at h
  have e2 : jm_c (jm_up2 ad k (st.2.2.2 k) H.size) (vR (some (k, st.2.2.2 k))) = .ref H.size := by
    show va_rf (some (jm_up2 ad k (st.2.2.2 k) H.size k (st.2.2.2 k))) = _
    rw [jm_up2_at]
    rfl
  rw [e2] at h
  exact h
theorem L_after {ad : Nat → Nat → Nat} {H : Heap} {locs : List Loc} {lsA : Array Slot} {mc' ms' : Nat} {sk0 : List Value} {a : Array Value} {Q' : Option aV → aS → Prop} (X : LC p s m meth c b L xs G ci) (hoL : jm_okL st.2.2.2 ls) (hoS : jm_okS st.2.2.2 sk) (hlo : jm_lo ad lsA 4 ls) (hlc : ∀ q ∈ locs, s.heap.size ≤ q.base) (h0 : lsA[0]? = some (.val (.ref b)))
    (hr : va_Run p l e room_1 s m #[Value.ref b] below meth c H locs uc us mc' ms' (F0 m pc lsA sk0) (sk.map (jm_c ad)) (jm_Q (G, s.heap, ci) ad st.2.2.2 Q' a) (fun q => s.heap.size ≤ q)) (kk : ∀ v st', Q' v st' → LW p l e s m below meth c b L xs G ci (uc + mc') (us + ms') (pc + 3) ls (v.toList ++ sk) st') : W p l e room_1 s m #[Value.ref b] below meth c H locs uc us (lw_Z below #[Value.ref b] s) (F0 m pc lsA sk0) := by
  intro T hT Xs
  obtain ⟨v, st₀, t, T', L, h9, X', hL, e1, e2, ⟨v', st', ad', ev, hQ, hx, hal, hvok, hR'⟩, hst⟩ := hr T hT Xs
  have ev' : v = v'.map (jm_c ad') := Outcome.returned.inj ev
  subst ev'
  have hok : jm_okS st'.2.2.2 (v'.toList ++ sk) := by
    cases v' with
    | none => exact jm_okS_mono hal hoS
    | some w => exact ⟨hvok w rfl, jm_okS_mono hal hoS⟩
  obtain ⟨t2, a1, b1⟩ := kk v' st' hQ X ad' T'.heap (locs ++ L) lsA (by rw [e1]; exact hR') (jm_okL_mono hal hoL) hok (jm_lo_ext hx hoL hlo) (fun q hq => by
    rcases List.mem_append.mp hq with h | h
    · exact hlc q h
    · exact hL q h) h0 T' rfl X'
  refine ⟨t2, hst t2 ?_, b1⟩
  have es : (v'.toList ++ sk).map (jm_c ad') = (v'.map (jm_c ad')).toList ++ sk.map (jm_c ad) := by
    rw [List.map_append, jm_map_ext hx hoS]
    cases v' <;> rfl
  rw [es] at a1
  exact a1
theorem L_room {M' : mM} {n d' mc' ms' : Nat} (hF : jm_MF M' n) (hdd : d' ≤ 2000) : 8 + (M'.2.2.1 + 11) + (jm_rm d' mc' ms').locals ≤ room_1.locals := by
  have h := hF.2.2.2
  show 8 + (M'.2.2.1 + 11) + 40 * d' ≤ 84000
  omega
theorem L_fr {d' mc' ms' : Nat} (hdd : d' ≤ 2000) : (jm_rm d' mc' ms').frames + 1 ≤ room_1.frames := by
  show d' + 1 ≤ 2048
  omega
theorem L_callV {M' : mM} {d' mc' ms' n k i cj idx : Nat} {q : vw_C} {av sk0 : List aV} {Q' : Option aV → aS → Prop} (hM : MC l (G, s.heap, ci) M' d' mc' ms' (vR (some (k, i)) :: av) st Q') (hF : jm_MF M' n) (hV : jm_MV M') (hL : Cond.methodLink "GoalOrderLaw" idx M'.1 ∈ jm_tb) (hd : decode code pc = .ok (.invokevirtual idx, 3)) (hk : kob k = some cj) (hq : vwCl[cj]? = some q) (hC : q.1 = M'.1.cls) (hn : av.length = n) (hdd : d' ≤ 2000) (hu : uc + mc' ≤ 600000 ∧ us + ms' ≤ 7302250) (hs : sk0 = av.reverse ++ vR (some (k, i)) :: sk) (hcat : (sk.map jm_cat).sum ≤ 8) (kk : ∀ v st', Q' v st' → LW p l e s m below meth c b L xs G ci (uc + mc') (us + ms') (pc + 3) ls (v.toList ++ sk) st') : LW p l e s m below meth c b L xs G ci uc us pc ls sk0 st := by
  intro X ad H locs lsA hR hoL hoS hlo hlc h0
  subst hs
  obtain ⟨hx, hb, hml, hown, hts, hK, hr, hlk, hX, hbl⟩ := id X
  have ho := jm_okS_app hoS
  have hoa : jm_okS st.2.2.2 (vR (some (k, i)) :: av) := ⟨ho.2.1, jm_okS_rev ho.1⟩
  have hM1 := hM ad hoa
  have hcell := hR.1 k i ho.2.1
  unfold jm_cell at hcell
  rw [hk] at hcell
  obtain ⟨q', hq', cellB, g1, g2, g3, -⟩ := hcell
  cases hq.symm.trans hq'
  have hrecv : ∃ cellB : Cell, H[ad k i]? = some cellB ∧ cellB.vm.isStatics = false ∧ s.vm.findClass M'.1.cls = some cellB.cls := ⟨cellB, g1, by rw [g3]; rfl, by rw [g2, ← hC]; exact (hK.1.1 cj q hq).2.1⟩
  have hp : PreV s H M'.1.cls (ad k i) (va_Pc ((vR (some (k, i)) :: av).map (jm_c ad)) (fun U => jm_R (G, s.heap, ci) ad st U.heap ∧ jm_K (G, s.heap, ci) U)) (av.map (jm_c ad)) := ⟨jm_pc (s := s), hrecv, fun U hU hW => ⟨rfl, by rw [hU]; exact hR, hK.moved hW⟩⟩
  have hstk : (F0 m pc lsA ((av.reverse ++ vR (some (k, i)) :: sk).map (jm_c ad))).stack = (av.map (jm_c ad)).reverse ++ .ref (ad k i) :: sk.map (jm_c ad) := by
    show (av.reverse ++ vR (some (k, i)) :: sk).map (jm_c ad) = _
    rw [List.map_append, List.map_cons, List.map_reverse]
    rfl
  have hroom := lv_room (m := m) (pc := pc) (ls := lsA) (rest := (av.reverse ++ vR (some (k, i)) :: sk).map (jm_c ad)) (st := sk.map (jm_c ad)) (by rw [jm_catsum]; exact hcat)
  exact L_after X hoL ho.2.2 hlo hlc h0 (va_runV (Ts := jm_tb) ⟨hx, hb, hml, hown, hts⟩ hM1 ⟨⟨rfl, rfl, L_fr hdd, L_room hF hdd, jm_hws hF hts, List.mem_cons_self, hts _ hF.1, hts _ hF.2.1, ⟨hF.2.2.1.1, hF.2.2.1.2.1⟩, jm_par hF, hts _ hL⟩, hts _ hV.1, hts _ hV.2⟩ hp rfl ((List.length_map _).trans hn) hlo.1 hstk hroom hd hu) kk
theorem L_callI {y : MethodName} {bytes : ByteArray} {maxL d' mc' ms' n k i idx : Nat} {av sk0 : List aV} {Q' : Option aV → aS → Prop} (hM : MC l (G, s.heap, ci) (y, bytes, maxL, none) d' mc' ms' (vR (some (k, i)) :: av) st Q') (hF : jm_MF (y, bytes, maxL, none) n) (hN : y.name = "<init>") (hV : Cond.instanceMethod y ∈ jm_tb) (hL : Cond.methodLink "GoalOrderLaw" idx y ∈ jm_tb) (hd : decode code pc = .ok (.invokespecial idx, 3)) (hn : av.length = n) (hdd : d' ≤ 2000) (hu : uc + mc' ≤ 600000 ∧ us + ms' ≤ 7302250) (hs : sk0 = av.reverse ++ vR (some (k, i)) :: sk) (hcat : (sk.map jm_cat).sum ≤ 8) (kk : ∀ v st', Q' v st' → LW p l e s m below meth c b L xs G ci (uc + mc') (us + ms') (pc + 3) ls (v.toList ++ sk) st') : LW p l e s m below meth c b L xs G ci uc us pc ls sk0 st := by
  intro X ad H locs lsA hR hoL hoS hlo hlc h0
  subst hs
  obtain ⟨hx, hb, hml, hown, hts, hK, hr, hlk, hX, hbl⟩ := id X
  have ho := jm_okS_app hoS
  have hoa : jm_okS st.2.2.2 (vR (some (k, i)) :: av) := ⟨ho.2.1, jm_okS_rev ho.1⟩
  have hM1 := hM ad hoa
  have hp : PreS s H (va_Pc ((vR (some (k, i)) :: av).map (jm_c ad)) (fun U => jm_R (G, s.heap, ci) ad st U.heap ∧ jm_K (G, s.heap, ci) U)) (.ref (ad k i) :: av.map (jm_c ad)) := ⟨jm_pc (s := s), fun U hU hW => ⟨rfl, by rw [hU]; exact hR, hK.moved hW⟩⟩
  have hstk : (F0 m pc lsA ((av.reverse ++ vR (some (k, i)) :: sk).map (jm_c ad))).stack = (av.map (jm_c ad)).reverse ++ .ref (ad k i) :: sk.map (jm_c ad) := by
    show (av.reverse ++ vR (some (k, i)) :: sk).map (jm_c ad) = _
    rw [List.map_append, List.map_cons, List.map_reverse]
    rfl
  have hroom := lv_room (m := m) (pc := pc) (ls := lsA) (rest := (av.reverse ++ vR (some (k, i)) :: sk).map (jm_c ad)) (st := sk.map (jm_c ad)) (by rw [jm_catsum]; exact hcat)
  exact L_after X hoL ho.2.2 hlo hlc h0 (va_runI (Ts := jm_tb) ⟨hx, hb, hml, hown, hts⟩ hM1 ⟨⟨rfl, rfl, L_fr hdd, L_room hF hdd, jm_hws hF hts, List.mem_cons_self, hts _ hF.1, hts _ hF.2.1, ⟨hF.2.2.1.1, hF.2.2.1.2.1⟩, jm_par hF, hts _ hL⟩, hN, hts _ hV⟩ hp rfl ((List.length_map _).trans hn) hlo.1 hstk hroom hd hu) kk
theorem L_ret (hd : decode code pc = .ok (.ireturn, 1)) (hu : uc ≤ 600000 ∧ us ≤ 7302250) : LW p l e s m below meth c b L xs G ci uc us pc ls [vI 1] st := by
  intro X ad H locs lsA hR hoL hoS hlo hlc h0
  obtain ⟨hx, hb, hml, hown, hts, hK, hr, hlk, hX, hbl⟩ := id X
  refine va_forget hlc ?_
  refine W.widen (k := 600000) (n := 7302250) hu.1 hu.2 ?_
  exact lw_ret hx hb hr hlk hd
end LAW
