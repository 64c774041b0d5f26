def th (st : aS) : aS := sI st 5 0 0 0
def mfg (st : aS) : aS := sI (sI st 5 0 40 0) 5 0 41 (-1)
theorem MG.th {E : EE} {rm : Nat} {rv : Nat → Nat} {g w : Int64} {od sk : Int32} {st : aS} (h : MG E rm rv g w od sk st) : MG E rm rv g w od sk (sI st 5 0 0 0) := by
  obtain ⟨h1, h2, h3, h4, h5, h6, h7, h8, h9, h10⟩ := h
  refine ⟨h1, fun i hi => ?_, ⟨(sI_ne (by omega)).trans h3.1, h3.2.1, fun p hp => ⟨(sI_ne (by omega)).trans (h3.2.2 p hp).1, (h3.2.2 p hp).2.1, (sI_ne (by omega)).trans (h3.2.2 p hp).2.2.1, (h3.2.2 p hp).2.2.2.1, fun m hm => (sI_ne (by omega)).trans ((h3.2.2 p hp).2.2.2.2 m hm)⟩⟩, (sI_ne (by omega)).trans h4, (sI_ne (by omega)).trans h5, fun k hk => (sI_ne (by omega)).trans (h6 k hk), h7, h8, (sI_ne (by omega)).trans h9, (sI_ne (by omega)).trans h10⟩
  obtain ⟨a1, a2, a3, a4, a5, a6, a7, a8, a9⟩ := h2 i hi
  exact ⟨(sI_ne (by omega)).trans a1, (sI_ne (by omega)).trans a2, (sI_ne (by omega)).trans a3, (sI_ne (by omega)).trans a4, (sI_ne (by omega)).trans a5, (sI_ne (by omega)).trans a6, fun k p hk => (sI_ne (by omega)).trans (a7 k p hk), ⟨(sI_ne (by omega)).trans a8.1, a8.2.1, a8.2.2.1, fun k hk => ⟨(sI_ne (by omega)).trans (a8.2.2.2 k hk).1, (a8.2.2.2 k hk).2⟩⟩, fun z => (sI_ne (by omega)).trans (a9 z)⟩
theorem isIn1 {S : Int64} {x : Int32} (h : isV x) : ((S >>> (x.toInt64 &&& 63)) &&& 1 = 1) ↔ ¬ hB S x = 0 := by
  obtain ⟨v, hv, rfl⟩ := isV_of h
  rw [isIn_iff (by omega), hB_iff (by omega)]
