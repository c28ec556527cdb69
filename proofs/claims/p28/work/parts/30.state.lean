/-! The state: pages by their numbers (as the reference's arrays hold them), and what the calls do to it. -/
abbrev SG : Type := (Nat → Bool) × (Nat → Nat) × (Nat → Nat) × (Nat → Nat) × (Nat → Option Nat) × (Nat → Nat) × (Nat → Nat) × (Nat → Nat) × (Nat → Option Nat) × Nat × Nat × (Nat → Nat) × Nat × Nat × (Nat → Bool) × (Nat → Nat) × (Nat → Nat) × (Nat → Nat) × Nat × Nat
/-- one more than the last place whose key is less than c -/
def cnt : Nat → (Nat → Nat) → Nat → Nat
  | 0, _, _ => 0
  | n + 1, f, c => if f n < c then n + 1 else cnt n f c
theorem cnt_le (n : Nat) (f : Nat → Nat) (c : Nat) : cnt n f c ≤ n := by
  induction n with
  | zero => exact Nat.le_refl _
  | succ n ih => unfold cnt; split <;> omega
theorem cnt_ge (n : Nat) (f : Nat → Nat) (c : Nat) : ∀ k, cnt n f c ≤ k → k < n → c ≤ f k := by
  induction n with
  | zero => intro k _ h; omega
  | succ n ih =>
    intro k h1 h2
    unfold cnt at h1
    split at h1
    · omega
    · rcases Nat.lt_or_ge k n with q | q
      · exact ih k h1 q
      · have : k = n := by omega
        subst this; omega
theorem cnt_lt (n : Nat) (f : Nat → Nat) (c : Nat) (h : 0 < cnt n f c) : f (cnt n f c - 1) < c := by
  induction n with
  | zero => simp [cnt] at h
  | succ n ih =>
    unfold cnt at h ⊢
    split
    · simpa using ‹f n < c›
    · rename_i hn
      rw [if_neg hn] at h
      exact ih h
/-- in rising keys: the number of those less than c -/
theorem cnt_eq (n : Nat) (f : Nat → Nat) (c q : Nat) (hq : q ≤ n) (h1 : ∀ k, k < q → f k < c) (h2 : ∀ k, q ≤ k → k < n → c ≤ f k) : cnt n f c = q := by
  have a := cnt_le n f c
  rcases Nat.lt_trichotomy (cnt n f c) q with h | h | h
  · have := cnt_ge n f c (cnt n f c) (Nat.le_refl _) (by omega)
    have := h1 _ h
    omega
  · exact h
  · have := cnt_lt n f c (by omega)
    have := h2 (cnt n f c - 1) (by omega) (by omega)
    omega
theorem cnt_congr {n : Nat} {f g : Nat → Nat} {c : Nat} (h : ∀ k, k < n → f k = g k) : cnt n f c = cnt n g c := by
  induction n with
  | zero => rfl
  | succ n ih => unfold cnt; rw [h n (by omega), ih (fun k hk => h k (by omega))]
/-- the keys of page p -/
abbrev pk (ky : Nat → Nat) (p : Nat) : Nat → Nat := fun k => ky (5 * p + k)
/-- the step down from page p for a key to a level: the next page -/
def nxt (lev hi : Nat → Nat) (ri : Nat → Option Nat) (sz ky vl : Nat → Nat) (key lvl p : Nat) : Option Nat :=
  if hi p ≤ key then ri p else if lvl < lev p then some (vl (5 * p + (cnt (sz p) (pk ky p) (key + 1) - 1))) else none
def dnF (lev hi : Nat → Nat) (ri : Nat → Option Nat) (sz ky vl : Nat → Nat) (key lvl : Nat) : Nat → Nat → Nat × Nat
  | 0, p => (p, 0)
  | f + 1, p => match nxt lev hi ri sz ky vl key lvl p with
    | none => (p, 0)
    | some r => ((dnF lev hi ri sz ky vl key lvl f r).1, (if hi p ≤ key then 1 else 0) + (dnF lev hi ri sz ky vl key lvl f r).2)
/-- where one comes to, going down for a key to a level; and how many right links are followed -/
def dn (s : SG) (key lvl : Nat) : Nat × Nat := match s with
  | (lv, lev, lo, hi, ri, sz, ky, vl, go, rt, ep, wq, wn, cn, op, cl, ca, ce, kc, nb) => dnF lev hi ri sz ky vl key lvl 2000 rt
/-- the lowest number that no page has -/
def frF (lv : Nat → Bool) : Nat → Nat → Nat
  | 0, n => n
  | f + 1, n => if lv n = true then frF lv f (n + 1) else n
def fr (lv : Nat → Bool) : Nat := frF lv 800 0
/-- a value x put at place c of page p, that has n -/
def insA (f : Nat → Nat) (p c n x : Nat) : Nat → Nat := fun i => if i = 5 * p + c then x else if 5 * p + c < i ∧ i ≤ 5 * p + n then f (i - 1) else f i
def delA (f : Nat → Nat) (p j n : Nat) : Nat → Nat := fun i => if 5 * p + j ≤ i ∧ i + 1 < 5 * p + n then f (i + 1) else f i
def insS (s : SG) (p x v : Nat) : SG := match s with
  | (lv, lev, lo, hi, ri, sz, ky, vl, go, rt, ep, wq, wn, cn, op, cl, ca, ce, kc, nb) => (lv, lev, lo, hi, ri, va_up sz p (sz p + 1), insA ky p (cnt (sz p) (pk ky p) (x + 1)) (sz p) x, insA vl p (cnt (sz p) (pk ky p) (x + 1)) (sz p) v, go, rt, ep, wq, wn, cn, op, cl, ca, ce, kc, nb)
def splS (s : SG) (p m : Nat) : SG := match s with
  | (lv, lev, lo, hi, ri, sz, ky, vl, go, rt, ep, wq, wn, cn, op, cl, ca, ce, kc, nb) => (va_up lv m true, va_up lev m (lev p), va_up lo m (ky (5 * p + 3)), va_up (va_up hi m (hi p)) p (ky (5 * p + 3)), va_up (va_up ri m (ri p)) p (some m), va_up (va_up sz m 2) p 3, va_up (va_up ky (5 * m) (ky (5 * p + 3))) (5 * m + 1) (ky (5 * p + 4)), va_up (va_up vl (5 * m) (vl (5 * p + 3))) (5 * m + 1) (vl (5 * p + 4)), va_up go m none, rt, ep, va_up wq wn m, wn + 1, cn, op, cl, ca, ce, kc, nb + 1)
def addS (s : SG) (p x v : Nat) : SG := match s with
  | (lv, lev, lo, hi, ri, sz, ky, vl, go, rt, ep, wq, wn, cn, op, cl, ca, ce, kc, nb) => if sz p = 4 then splS (insS (lv, lev, lo, hi, ri, sz, ky, vl, go, rt, ep, wq, wn, cn, op, cl, ca, ce, kc, nb) p x v) p (fr lv) else insS (lv, lev, lo, hi, ri, sz, ky, vl, go, rt, ep, wq, wn, cn, op, cl, ca, ce, kc, nb) p x v
def popS (s : SG) : SG := match s with
  | (lv, lev, lo, hi, ri, sz, ky, vl, go, rt, ep, wq, wn, cn, op, cl, ca, ce, kc, nb) => (lv, lev, lo, hi, ri, sz, ky, vl, go, rt, ep, fun i => if i < wn - 1 then wq (i + 1) else wq i, wn - 1, cn, op, cl, ca, ce, kc, nb)
def groS (s : SG) (w m : Nat) : SG := match s with
  | (lv, lev, lo, hi, ri, sz, ky, vl, go, rt, ep, wq, wn, cn, op, cl, ca, ce, kc, nb) => (va_up lv m true, va_up lev m (lev w + 1), va_up lo m 0, va_up hi m 200, va_up ri m none, va_up sz m 2, va_up (va_up ky (5 * m) 0) (5 * m + 1) (lo w), va_up (va_up vl (5 * m) rt) (5 * m + 1) w, va_up go m none, m, ep, wq, wn, cn, op, cl, ca, ce, kc, nb + 1)
/-- the split that waits the longest is posted -/
def posS (s : SG) : SG := match s with
  | (lv, lev, lo, hi, ri, sz, ky, vl, go, rt, ep, wq, wn, cn, op, cl, ca, ce, kc, nb) => if lev (wq 0) = lev rt then groS (popS (lv, lev, lo, hi, ri, sz, ky, vl, go, rt, ep, wq, wn, cn, op, cl, ca, ce, kc, nb)) (wq 0) (fr lv) else addS (popS (lv, lev, lo, hi, ri, sz, ky, vl, go, rt, ep, wq, wn, cn, op, cl, ca, ce, kc, nb)) (dn (popS (lv, lev, lo, hi, ri, sz, ky, vl, go, rt, ep, wq, wn, cn, op, cl, ca, ce, kc, nb)) (lo (wq 0)) (lev (wq 0) + 1)).1 (lo (wq 0)) (wq 0)
def waits (s : SG) : Nat := match s with
  | (lv, lev, lo, hi, ri, sz, ky, vl, go, rt, ep, wq, wn, cn, op, cl, ca, ce, kc, nb) => wn
/-- all posted: the state, and how many -/
def paS : Nat → SG → SG × Nat
  | 0, s => (s, 0)
  | f + 1, s => if waits s = 0 then (s, 0) else ((paS f (posS s)).1, (paS f (posS s)).2 + 1)
/-- the key at place j of the leaf p goes -/
def remS (s : SG) (p j : Nat) : SG := match s with
  | (lv, lev, lo, hi, ri, sz, ky, vl, go, rt, ep, wq, wn, cn, op, cl, ca, ce, kc, nb) => (lv, lev, lo, hi, ri, va_up sz p (sz p - 1), delA ky p j (sz p), delA vl p j (sz p), go, rt, ep, wq, wn, cn, op, cl, ca, ce, kc, nb)
def setS (s : SG) (p j v : Nat) : SG := match s with
  | (lv, lev, lo, hi, ri, sz, ky, vl, go, rt, ep, wq, wn, cn, op, cl, ca, ce, kc, nb) => (lv, lev, lo, hi, ri, sz, ky, va_up vl (5 * p + j) v, go, rt, ep, wq, wn, cn, op, cl, ca, ce, kc, nb)
def kcS (s : SG) (k : Nat) : SG := match s with
  | (lv, lev, lo, hi, ri, sz, ky, vl, go, rt, ep, wq, wn, cn, op, cl, ca, ce, kc, nb) => (lv, lev, lo, hi, ri, sz, ky, vl, go, rt, ep, wq, wn, cn, op, cl, ca, ce, k, nb)
/-- the entry at place j of page p goes, its leaf is dead, q links to what the leaf linked to -/
def touS (s : SG) (p j q : Nat) : SG := match s with
  | (lv, lev, lo, hi, ri, sz, ky, vl, go, rt, ep, wq, wn, cn, op, cl, ca, ce, kc, nb) => (lv, lev, lo, va_up hi q (hi (vl (5 * p + j))), va_up ri q (ri (vl (5 * p + j))), va_up sz p (sz p - 1), delA ky p j (sz p), delA vl p j (sz p), va_up go (vl (5 * p + j)) (some ep), rt, ep + 1, wq, wn, cn, op, cl, ca, ce, kc, nb)

