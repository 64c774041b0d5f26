/-! more rows of the machine, small numbers, sets as longs -/
section JMM
variable {l : Launch} {D : mD} {M : mM} {d mc ms : Nat} {Q : Option aV → aS → Prop} {uc us pc : Nat} {ls : List (Option aV)} {sk : List aV} {st : aS}
theorem jm_getq {k i j ci idx c0 t : Nat} (hl : jm_FL M.1.cls idx ci j) (hd : decode M.2.1 pc = .ok (.getfield idx, 3)) (hk : kob k = some ci) (hc : kly k j = c0 + 3) (hr : st.2.2.1 k i j = some t) (kk : MS l D M d mc ms Q uc us (pc + 3) ls (vR (some (c0, t)) :: sk) st) : MS l D M d mc ms Q uc us pc ls (vR (some (k, i)) :: sk) st := by
  refine jm_getr hl hd hk hc ?_
  rw [hr]
  exact kk
theorem jm_getn {k i j ci idx c0 : Nat} (hl : jm_FL M.1.cls idx ci j) (hd : decode M.2.1 pc = .ok (.getfield idx, 3)) (hk : kob k = some ci) (hc : kly k j = c0 + 3) (hr : st.2.2.1 k i j = none) (kk : MS l D M d mc ms Q uc us (pc + 3) ls (vR none :: sk) st) : MS l D M d mc ms Q uc us pc ls (vR (some (k, i)) :: sk) st := by
  refine jm_getr hl hd hk hc ?_
  rw [hr]
  exact kk
theorem jm_aalq {k i c0 t : Nat} {x : Int32} (hd : decode M.2.1 pc = .ok (.aaload, 1)) (hk : kob k = none) (hn : kat k < katn) (ht : (katy (kat k)).isReference = true) (hc : ∀ j, kly k j = c0 + 3) (hin : vp_in x (kln k)) (hr : st.2.2.1 k i x.toNatClampNeg = some t) (kk : MS l D M d mc ms Q uc us (pc + 1) ls (vR (some (c0, t)) :: sk) st) : MS l D M d mc ms Q uc us pc ls (vI x :: vR (some (k, i)) :: sk) st := by
  refine jm_aald hd hk hn ht hc hin ?_
  rw [hr]
  exact kk
theorem MS.to {ls' : List (Option aV)} {sk' : List aV} {st' : aS} (h : MS l D M d mc ms Q uc us pc ls' sk' st') (e1 : ls = ls') (e2 : sk = sk') (e3 : st = st') : MS l D M d mc ms Q uc us pc ls sk st := by
  subst e1; subst e2; subst e3
  exact h
end JMM
/-- a condition as Java's boolean -/
def jb (p : Prop) [Decidable p] : Int32 := if p then 1 else 0
theorem jb_t {p : Prop} [Decidable p] (h : p) : jb p = 1 := if_pos h
theorem jb_f {p : Prop} [Decidable p] (h : ¬ p) : jb p = 0 := if_neg h
theorem jb_01 (p : Prop) [Decidable p] : jb p = 0 ∨ jb p = 1 := by
  unfold jb
  split
  · exact Or.inr rfl
  · exact Or.inl rfl
theorem jb_eq0 {p : Prop} [Decidable p] (h : jb p = 0) : ¬ p := by
  intro hp
  rw [jb_t hp] at h
  exact absurd h (by decide)
theorem jb_ne0 {p : Prop} [Decidable p] (h : ¬ jb p = 0) : p := by
  by_cases hp : p
  · exact hp
  · exact absurd (jb_f hp) h
theorem jb_congr {p q : Prop} [Decidable p] [Decidable q] (h : p ↔ q) : jb p = jb q := by
  by_cases hp : p
  · rw [jb_t hp, jb_t (h.mp hp)]
  · rw [jb_f hp, jb_f (fun z => hp (h.mpr z))]
theorem lg0 {x : Int64} : lg_cmp x 0 = 0 ↔ x = 0 := by
  unfold lg_cmp
  split
  · next h =>
    constructor
    · intro q; exact absurd q (by decide)
    · intro q; subst q; exact absurd h (by decide)
  · split
    · next h => exact ⟨fun _ => h, fun _ => rfl⟩
    · next h => exact ⟨fun q => absurd q (by decide), fun q => absurd q h⟩
theorem ni1 (k : Nat) : nI k + Int32.ofInt 1 = nI (k + 1) := nI_1 k
theorem nim1 (k : Nat) : nI (k + 1) + Int32.ofInt (-1) = nI k := by
  rw [← ni1, Int32.add_assoc]
  have : Int32.ofInt 1 + Int32.ofInt (-1) = 0 := by decide
  rw [this, Int32.add_zero]
/-- one variable as a set -/
def b1 (v : Nat) : Int64 := (1 : Int64) <<< ((nI v).toInt64 &&& 63)
/-- the variables of a row from k on, n of them -/
def rsF (vr : Nat → Nat) : Nat → Nat → Int64 → Int64
  | 0, _, s => s
  | n + 1, k, s => rsF vr n (k + 1) (s ||| b1 (vr k))
def rowS (w : Nat) (vr : Nat → Nat) (fr : Nat) : Int64 := rsF vr (w - fr) fr 0
/-- bit k of a set, by the unsigned shift -/
def hB (S : Int64) (x : Int32) : Int64 := (S.toUInt64 >>> (x.toInt64.toUInt64 &&& Int64.toUInt64 63)).toInt64 &&& 1
def hP (p k : Int32) : Int32 := (p.toUInt32 >>> (k.toUInt32 &&& Int32.toUInt32 31)).toInt32 &&& 1
/-- the IN places of a row, n of them from k on -/
def insF (o : Int32) (vr : Nat → Nat) : Nat → Nat → Int64 → Int64
  | 0, _, s => s
  | n + 1, k, s => insF o vr n (k + 1) (if hP o (nI k) = 0 then s ||| b1 (vr k) else s)
def insS (o : Int32) (w : Nat) (vr : Nat → Nat) : Int64 := insF o vr w 0 0
/-- a node's row -/
def nV (st : aS) (i w : Nat) (vr : Nat → Nat) : Prop := st.1 0 i 2 = nI w ∧ w ≤ 7 ∧ st.2.2.1 0 i 1 = some i ∧ ∀ k, k < w → st.1 6 i k = nI (vr k) ∧ vr k < 60
/-- what isn't in a set -/
def nt (a : Int64) : Int64 := a ^^^ (-1)
theorem jbt {p : Prop} [Decidable p] (h : p) : (some (vI 1) : Option aV) = some (vI (jb p)) := by rw [jb_t h]
theorem jbf {p : Prop} [Decidable p] (h : ¬ p) : (some (vI 0) : Option aV) = some (vI (jb p)) := by rw [jb_f h]
