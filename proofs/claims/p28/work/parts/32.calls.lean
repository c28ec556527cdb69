/-! What the calls answer, and the state behind them. -/
/-- the place of a key in a page -/
def fnd (sz ky : Nat → Nat) (p k : Nat) : Option Nat :=
  if 0 < cnt (sz p) (pk ky p) (k + 1) ∧ ky (5 * p + (cnt (sz p) (pk ky p) (k + 1) - 1)) = k then some (cnt (sz p) (pk ky p) (k + 1) - 1) else none
theorem fnd_some {sz ky : Nat → Nat} {p k j : Nat} (h : fnd sz ky p k = some j) : j < sz p ∧ ky (5 * p + j) = k := by
  unfold fnd at h
  split at h
  · rename_i c
    have := cnt_le (sz p) (pk ky p) (k + 1)
    cases h
    exact ⟨by omega, c.2⟩
  · cases h
def getS (s : SG) (k : Nat) : Option Nat := match s with
  | (lv, lev, lo, hi, ri, sz, ky, vl, go, rt, ep, wq, wn, cn, op, cl, ca, ce, kc, nb) => (fnd sz ky (dnF lev hi ri sz ky vl k 0 2000 rt).1 k).map fun j => vl (5 * (dnF lev hi ri sz ky vl k 0 2000 rt).1 + j)
def putS (s : SG) (k v : Nat) : SG × Option Nat := match s with
  | (lv, lev, lo, hi, ri, sz, ky, vl, go, rt, ep, wq, wn, cn, op, cl, ca, ce, kc, nb) => match fnd sz ky (dnF lev hi ri sz ky vl k 0 2000 rt).1 k with
    | some j => (setS (lv, lev, lo, hi, ri, sz, ky, vl, go, rt, ep, wq, wn, cn, op, cl, ca, ce, kc, nb) (dnF lev hi ri sz ky vl k 0 2000 rt).1 j v, some (vl (5 * (dnF lev hi ri sz ky vl k 0 2000 rt).1 + j)))
    | none => (kcS (addS (lv, lev, lo, hi, ri, sz, ky, vl, go, rt, ep, wq, wn, cn, op, cl, ca, ce, kc, nb) (dnF lev hi ri sz ky vl k 0 2000 rt).1 k v) (kc + 1), none)
def takS (s : SG) (k : Nat) : SG × Option Nat := match s with
  | (lv, lev, lo, hi, ri, sz, ky, vl, go, rt, ep, wq, wn, cn, op, cl, ca, ce, kc, nb) => match fnd sz ky (dnF lev hi ri sz ky vl k 0 2000 rt).1 k with
    | some j => (kcS (remS (lv, lev, lo, hi, ri, sz, ky, vl, go, rt, ep, wq, wn, cn, op, cl, ca, ce, kc, nb) (dnF lev hi ri sz ky vl k 0 2000 rt).1 j) (kc - 1), some (vl (5 * (dnF lev hi ri sz ky vl k 0 2000 rt).1 + j)))
    | none => ((lv, lev, lo, hi, ri, sz, ky, vl, go, rt, ep, wq, wn, cn, op, cl, ca, ce, kc, nb), none)
