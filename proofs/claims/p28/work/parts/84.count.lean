/-! Pages, entries and splits that wait: the pages that are not dead are the entries, the waiting ones and the root. -/
section CT0
variable {lv : Nat → Bool} {lev lo hi : Nat → Nat} {ri : Nat → Option Nat} {sz ky vl : Nat → Nat} {go : Nat → Option Nat} {rt ep : Nat} {wq : Nat → Nat} {wn cn : Nat} {op : Nat → Bool} {cl ca ce : Nat → Nat} {kc nb : Nat} {o t : Nat}
def alF (lv : Nat → Bool) (go : Nat → Option Nat) : Nat → Nat := fun n => if lv n = true ∧ go n = none then 1 else 0
def enF (lv : Nat → Bool) (lev sz : Nat → Nat) : Nat → Nat := fun n => if lv n = true ∧ 0 < lev n then sz n else 0
theorem al_new {m : Nat} : alF (va_up lv m true) (va_up go m none) = va_up (alF lv go) m 1 := by
  funext n
  by_cases e : n = m
  · subst e; rw [va_up_self]; unfold alF; rw [va_up_self, va_up_self]; exact if_pos ⟨rfl, rfl⟩
  · rw [va_up_ne _ _ e]; unfold alF; rw [va_up_ne _ _ e, va_up_ne _ _ e]
theorem al_go {x e9 : Nat} : alF lv (va_up go x (some e9)) = va_up (alF lv go) x 0 := by
  funext n
  by_cases e : n = x
  · subst e; rw [va_up_self]; unfold alF; rw [va_up_self]; exact if_neg (fun q => by cases q.2)
  · rw [va_up_ne _ _ e]; unfold alF; rw [va_up_ne _ _ e]
theorem en_sz {p x : Nat} (h : lv p = true) : enF lv lev (va_up sz p x) = va_up (enF lv lev sz) p (if 0 < lev p then x else 0) := by
  funext n
  by_cases e : n = p
  · subst e; rw [va_up_self]; unfold enF; rw [va_up_self]
    by_cases c : 0 < lev n
    · rw [if_pos ⟨h, c⟩, if_pos c]
    · rw [if_neg (fun q => c q.2), if_neg c]
  · rw [va_up_ne _ _ e]; unfold enF; rw [va_up_ne _ _ e]
theorem en_new {m x y : Nat} : enF (va_up lv m true) (va_up lev m y) (va_up sz m x) = va_up (enF lv lev sz) m (if 0 < y then x else 0) := by
  funext n
  by_cases e : n = m
  · subst e; rw [va_up_self]; unfold enF; rw [va_up_self, va_up_self, va_up_self]
    by_cases c : 0 < y
    · rw [if_pos ⟨rfl, c⟩, if_pos c]
    · rw [if_neg (fun q => c q.2), if_neg c]
  · rw [va_up_ne _ _ e]; unfold enF; rw [va_up_ne _ _ e, va_up_ne _ _ e, va_up_ne _ _ e]
theorem al_at {p : Nat} (h : Al lv go p) : alF lv go p = 1 := if_pos h
theorem al_no {p : Nat} (h : lv p = false) : alF lv go p = 0 := if_neg (fun q => by rw [h] at q; cases q.1)
theorem en_at {p : Nat} (h : lv p = true) : enF lv lev sz p = if 0 < lev p then sz p else 0 := by
  unfold enF
  by_cases c : 0 < lev p
  · rw [if_pos ⟨h, c⟩, if_pos c]
  · rw [if_neg (fun q => c q.2), if_neg c]
theorem en_no {p : Nat} (h : lv p = false) : enF lv lev sz p = 0 := if_neg (fun q => by rw [h] at q; cases q.1)
def aS (s : SG) : Nat := match s with
  | (lv, lev, lo, hi, ri, sz, ky, vl, go, rt, ep, wq, wn, cn, op, cl, ca, ce, kc, nb) => sumN 800 (alF lv go)
def eS (s : SG) : Nat := match s with
  | (lv, lev, lo, hi, ri, sz, ky, vl, go, rt, ep, wq, wn, cn, op, cl, ca, ce, kc, nb) => sumN 800 (enF lv lev sz)
def CNF (lv : Nat → Bool) (lev sz : Nat → Nat) (go : Nat → Option Nat) (wn : Nat) : Prop := sumN 800 (alF lv go) = sumN 800 (enF lv lev sz) + 1 + wn
def CN (s : SG) : Prop := match s with
  | (lv, lev, lo, hi, ri, sz, ky, vl, go, rt, ep, wq, wn, cn, op, cl, ca, ce, kc, nb) => CNF lv lev sz go wn
theorem cn_of {s : SG} (h : aS s = eS s + 1 + waits s) : CN s := by
  obtain ⟨lv, lev, lo, hi, ri, sz, ky, vl, go, rt, ep, wq, wn, cn, op, cl, ca, ce, kc, nb⟩ := s
  have e1 : aS (lv, lev, lo, hi, ri, sz, ky, vl, go, rt, ep, wq, wn, cn, op, cl, ca, ce, kc, nb) = sumN 800 (alF lv go) := rfl
  have e2 : eS (lv, lev, lo, hi, ri, sz, ky, vl, go, rt, ep, wq, wn, cn, op, cl, ca, ce, kc, nb) = sumN 800 (enF lv lev sz) := rfl
  have e3 : waits (lv, lev, lo, hi, ri, sz, ky, vl, go, rt, ep, wq, wn, cn, op, cl, ca, ce, kc, nb) = wn := rfl
  rw [e1, e2, e3] at h
  show CNF lv lev sz go wn
  exact h
theorem cn_add {p x v : Nat} (hP : PgI lv lev lo hi ri sz ky vl go rt ep nb 800) (hb : nb ≤ 513) (hA : Al lv go p) :
    aS (addS (lv, lev, lo, hi, ri, sz, ky, vl, go, rt, ep, wq, wn, cn, op, cl, ca, ce, kc, nb) p x v) + sumN 800 (enF lv lev sz) + wn + (if 0 < lev p then 1 else 0) = sumN 800 (alF lv go) + eS (addS (lv, lev, lo, hi, ri, sz, ky, vl, go, rt, ep, wq, wn, cn, op, cl, ca, ce, kc, nb) p x v) + waits (addS (lv, lev, lo, hi, ri, sz, ky, vl, go, rt, ep, wq, wn, cn, op, cl, ca, ce, kc, nb) p x v) := by
  obtain ⟨f1, f2, f3⟩ := fr_spec hP hb
  have hmp : fr lv ≠ p := by intro e; rw [e] at f1; have := hA.1; rw [f1] at this; cases this
  have hp8 : p < 800 := by have := (hP.1 p hA.1).1; omega
  have hm8 : fr lv < 800 := by omega
  by_cases h : sz p = 4
  · rw [addS_eq h]
    generalize fr lv = m at f1 hmp hm8
    have g0 : va_up (va_up (va_up sz p (sz p + 1)) m 2) p 3 = va_up (va_up (va_up sz p (sz p + 1)) p 3) m 2 := by
      funext n; unfold va_up; by_cases a : n = p
      · subst a; simp [hmp.symm]
      · simp [a]
    show sumN 800 (alF (va_up lv m true) (va_up go m none)) + sumN 800 (enF lv lev sz) + wn + (if 0 < lev p then 1 else 0) = sumN 800 (alF lv go) + sumN 800 (enF (va_up lv m true) (va_up lev m (lev p)) (va_up (va_up (va_up sz p (sz p + 1)) m 2) p 3)) + (wn + 1)
    rw [g0, al_new, en_new, en_sz hA.1, en_sz hA.1]
    have a1 := sumN_up (n := 800) (f := alF lv go) (k := m) (v := 1) hm8
    rw [al_no f1] at a1
    have b1 := sumN_up (n := 800) (f := enF lv lev sz) (k := p) (v := if 0 < lev p then sz p + 1 else 0) hp8
    have b2 := sumN_up (n := 800) (f := va_up (enF lv lev sz) p (if 0 < lev p then sz p + 1 else 0)) (k := p) (v := if 0 < lev p then 3 else 0) hp8
    have b3 := sumN_up (n := 800) (f := va_up (va_up (enF lv lev sz) p (if 0 < lev p then sz p + 1 else 0)) p (if 0 < lev p then 3 else 0)) (k := m) (v := if 0 < lev p then 2 else 0) hm8
    rw [va_up_ne _ _ hmp, va_up_ne _ _ hmp, en_no f1] at b3
    rw [va_up_self] at b2
    rw [en_at hA.1] at b1
    by_cases c : 0 < lev p
    · simp only [if_pos c] at b1 b2 b3 ⊢; omega
    · simp only [if_neg c] at b1 b2 b3 ⊢; omega
  · rw [addS_lt h]
    show sumN 800 (alF lv go) + sumN 800 (enF lv lev sz) + wn + (if 0 < lev p then 1 else 0) = sumN 800 (alF lv go) + sumN 800 (enF lv lev (va_up sz p (sz p + 1))) + wn
    rw [en_sz hA.1]
    have b1 := sumN_up (n := 800) (f := enF lv lev sz) (k := p) (v := if 0 < lev p then sz p + 1 else 0) hp8
    rw [en_at hA.1] at b1
    by_cases c : 0 < lev p
    · simp only [if_pos c] at b1 ⊢; omega
    · simp only [if_neg c] at b1 ⊢; omega
theorem cn_pos (hC : Core (lv, lev, lo, hi, ri, sz, ky, vl, go, rt, ep, wq, wn, cn, op, cl, ca, ce, kc, nb)) (hb : nb ≤ 513) (h0 : 0 < wn) (hN : CN (lv, lev, lo, hi, ri, sz, ky, vl, go, rt, ep, wq, wn, cn, op, cl, ca, ce, kc, nb)) : CN (posS (lv, lev, lo, hi, ri, sz, ky, vl, go, rt, ep, wq, wn, cn, op, cl, ca, ce, kc, nb)) := by
  obtain ⟨hP, hQ, hCu⟩ := hC
  have hN : CNF lv lev sz go wn := hN
  unfold CNF at hN
  obtain ⟨w1, w2, w3, -⟩ := hQ 0 h0
  obtain ⟨f1, f2, f3⟩ := fr_spec hP hb
  have bw := hP.1 _ w1.1
  by_cases h : lev (wq 0) = lev rt
  · rw [posS_eq h]
    have hm8 : fr lv < 800 := by omega
    generalize fr lv = m at f1 hm8
    show CNF (va_up lv m true) (va_up lev m (lev (wq 0) + 1)) (va_up sz m 2) (va_up go m none) (wn - 1)
    unfold CNF
    rw [al_new, en_new, if_pos (by omega)]
    have a1 := sumN_up (n := 800) (f := alF lv go) (k := m) (v := 1) hm8
    rw [al_no f1] at a1
    have b1 := sumN_up (n := 800) (f := enF lv lev sz) (k := m) (v := 2) hm8
    rw [en_no f1] at b1
    omega
  · rw [posS_ne h]
    have hl : lev (wq 0) + 1 ≤ lev rt := by omega
    obtain ⟨d1, d2, d3, d4⟩ := dnF_at (key := lo (wq 0)) (lvl := lev (wq 0) + 1) hP (by omega) 2000 rt (vp_root hP hl) (by have := mu_root hP hb; omega)
    generalize (dnF lev hi ri sz ky vl (lo (wq 0)) (lev (wq 0) + 1) 2000 rt).1 = p at d1 d2 d3 d4 ⊢
    have hq := cn_add (wq := fun i => if i < wn - 1 then wq (i + 1) else wq i) (wn := wn - 1) (cn := cn) (op := op) (cl := cl) (ca := ca) (ce := ce) (kc := kc) (x := lo (wq 0)) (v := wq 0) hP hb d1
    rw [if_pos (by omega)] at hq
    unfold popS
    dsimp only
    exact cn_of (by omega)
end CT0
section CT1
variable {t : Nat}
theorem inv_core {s : SG} (h : Inv s t) : Core s ∧ nbS s ≤ 513 := ⟨(Inv_iff.mp h).1, (inv_nb h).1⟩
theorem cn_posS {s : SG} (h : Inv s t) (h0 : 0 < waits s) (hN : CN s) : CN (posS s) := by
  obtain ⟨hC, hb⟩ := inv_core h
  obtain ⟨lv, lev, lo, hi, ri, sz, ky, vl, go, rt, ep, wq, wn, cn, op, cl, ca, ce, kc, nb⟩ := s
  exact cn_pos hC hb h0 hN
theorem cn_pa (f : Nat) : ∀ {s : SG}, Inv s t → CN s → CN (paS f s).1 := by
  induction f with
  | zero => intro s _ h; exact h
  | succ f ih =>
    intro s h hN
    by_cases c : waits s = 0
    · have e : paS (f + 1) s = (s, 0) := if_pos c
      rw [e]; exact hN
    · have e : paS (f + 1) s = ((paS f (posS s)).1, (paS f (posS s)).2 + 1) := if_neg c
      rw [e]
      exact ih (inv_pos h (by omega)).1 (cn_posS h (by omega) hN)
theorem cn_kcS {s : SG} {k : Nat} (h : CN s) : CN (kcS s k) := by
  obtain ⟨lv, lev, lo, hi, ri, sz, ky, vl, go, rt, ep, wq, wn, cn, op, cl, ca, ce, kc, nb⟩ := s
  have h : CNF lv lev sz go wn := h
  show CNF lv lev sz go wn
  exact h
theorem cn_put {s : SG} {k v : Nat} (h : Inv s t) (hk : k < 200) (hN : CN s) : CN (putS s k v).1 := by
  have hb := (inv_nb h).1
  obtain ⟨lv, lev, lo, hi, ri, sz, ky, vl, go, rt, ep, wq, wn, cn, op, cl, ca, ce, kc, nb⟩ := s
  have hP := h.1
  have hb : nb ≤ 513 := hb
  obtain ⟨d1, d2, d3, d4⟩ := down_at hP hb hk
  unfold putS
  dsimp only
  generalize (dnF lev hi ri sz ky vl k 0 2000 rt).1 = p at d1 d2 d3 d4 ⊢
  cases hf : fnd sz ky p k with
  | some j => exact hN
  | none =>
    show CN (kcS (addS (lv, lev, lo, hi, ri, sz, ky, vl, go, rt, ep, wq, wn, cn, op, cl, ca, ce, kc, nb) p k v) (kc + 1))
    refine cn_kcS ?_
    have hq := cn_add (wq := wq) (wn := wn) (cn := cn) (op := op) (cl := cl) (ca := ca) (ce := ce) (kc := kc) (x := k) (v := v) hP hb d1
    rw [if_neg (by omega)] at hq
    have hN : CNF lv lev sz go wn := hN
    unfold CNF at hN
    exact cn_of (by omega)
theorem cn_tak {s : SG} {k : Nat} (h : Inv s t) (hk : k < 200) (hN : CN s) : CN (takS s k).1 := by
  have hb := (inv_nb h).1
  obtain ⟨lv, lev, lo, hi, ri, sz, ky, vl, go, rt, ep, wq, wn, cn, op, cl, ca, ce, kc, nb⟩ := s
  have hP := h.1
  have hb : nb ≤ 513 := hb
  obtain ⟨d1, d2, d3, d4⟩ := down_at hP hb hk
  unfold takS
  dsimp only
  generalize (dnF lev hi ri sz ky vl k 0 2000 rt).1 = p at d1 d2 d3 d4 ⊢
  cases hf : fnd sz ky p k with
  | none => exact hN
  | some j =>
    have hN : CNF lv lev sz go wn := hN
    unfold CNF at hN
    show CNF lv lev (va_up sz p (sz p - 1)) go wn
    unfold CNF
    rw [en_sz d1.1, if_neg (by omega)]
    have b1 := sumN_up (n := 800) (f := enF lv lev sz) (k := p) (v := 0) (by have := (hP.1 p d1.1).1; omega)
    rw [en_at d1.1, if_neg (by omega)] at b1
    omega
theorem cn_tou {s : SG} {r : SG × Option Nat} (h : Inv s t) (h1 : TouR s r) (hN : CN s) : CN r.1 := by
  have hb := (inv_nb h).1
  obtain ⟨lv, lev, lo, hi, ri, sz, ky, vl, go, rt, ep, wq, wn, cn, op, cl, ca, ce, kc, nb⟩ := s
  have hP := h.1
  have hb : nb ≤ 513 := hb
  rcases h1 with ⟨p, j, q, a1, a2, a3, a4, rfl⟩ | ⟨a1, rfl⟩
  · obtain ⟨c1, c2, c3, c4, c5⟩ := cand_leaf hP a1
    obtain ⟨b1, b2, b3, b4, b5⟩ := a1
    have hN : CNF lv lev sz go wn := hN
    unfold CNF at hN
    show CNF lv lev (va_up sz p (sz p - 1)) (va_up go (vl (5 * p + j)) (some ep)) wn
    unfold CNF
    generalize vl (5 * p + j) = x at c2 c3 c4 b5 a4 ⊢
    rw [al_go, en_sz b1, if_pos (by omega)]
    have a1 := sumN_up (n := 800) (f := alF lv go) (k := x) (v := 0) (by have := (hP.1 x c2.1).1; omega)
    rw [al_at c2] at a1
    have b6 := sumN_up (n := 800) (f := enF lv lev sz) (k := p) (v := sz p - 1) (by have := (hP.1 p b1).1; omega)
    rw [en_at b1, if_pos (by omega)] at b6
    omega
  · exact hN
theorem cn_rec {s : SG} (h : Inv s t) (hN : CN s) : CN (recS s).1 := by
  obtain ⟨lv, lev, lo, hi, ri, sz, ky, vl, go, rt, ep, wq, wn, cn, op, cl, ca, ce, kc, nb⟩ := s
  have hP := h.1
  have hN : CNF lv lev sz go wn := hN
  show CNF (fun n => lv n && !rcB go cn op ce n) lev sz go wn
  have hr : ∀ n, rcB go cn op ce n = true → ∃ e, go n = some e := fun n q => by
    obtain ⟨e, q2, -⟩ := rcB_iff.mp q
    exact ⟨e, q2⟩
  have e1 : alF (fun n => lv n && !rcB go cn op ce n) go = alF lv go := by
    funext n
    unfold alF
    by_cases c : lv n = true ∧ go n = none
    · rw [if_pos c]
      refine if_pos ⟨?_, c.2⟩
      cases hb : rcB go cn op ce n with
      | false => dsimp only; rw [c.1, hb]; rfl
      | true =>
        obtain ⟨e, q⟩ := hr n hb
        rw [c.2] at q; cases q
    · rw [if_neg c]
      exact if_neg (fun q => c ⟨(Bool.and_eq_true_iff.mp q.1).1, q.2⟩)
  have e2 : enF (fun n => lv n && !rcB go cn op ce n) lev sz = enF lv lev sz := by
    funext n
    unfold enF
    by_cases c : lv n = true ∧ 0 < lev n
    · rw [if_pos c]
      refine if_pos ⟨?_, c.2⟩
      cases hb : rcB go cn op ce n with
      | false => dsimp only; rw [c.1, hb]; rfl
      | true =>
        obtain ⟨e, q⟩ := hr n hb
        have := (hP.2.2.2.2.2.2.1 n e c.1 q).1
        omega
    · rw [if_neg c]
      exact if_neg (fun q => c ⟨(Bool.and_eq_true_iff.mp q.1).1, q.2⟩)
  unfold CNF at hN ⊢
  rw [e1, e2]
  exact hN
theorem cn_ini : CN iniS := by
  show CNF (va_up (fun _ => false) 0 true) (va_up (fun _ => 0) 0 0) (va_up (fun _ => 0) 0 0) (va_up (fun _ => some 0) 0 none) 0
  unfold CNF
  have e1 : alF (va_up (fun _ => false) 0 true) (va_up (fun _ => some 0) 0 none) = va_up (fun _ => 0) 0 1 := by
    rw [al_new]
    have e9 : alF (fun _ => false) (fun _ => some 0) = fun _ => 0 := by
      funext n
      exact if_neg (fun q => by cases q.1)
    rw [e9]
  have e2 : enF (va_up (fun _ => false) 0 true) (va_up (fun _ => 0) 0 0) (va_up (fun _ => 0) 0 0) = fun _ => 0 := by
    funext n
    unfold enF
    by_cases e : n = 0
    · subst e; simp [va_up]
    · simp [va_up, e]
  have z : ∀ n, sumN n (fun _ => 0) = 0 := by
    intro n
    induction n with
    | zero => rfl
    | succ n ih => show sumN n (fun _ => 0) + 0 = 0; rw [ih]
  have a1 := sumN_up (n := 800) (f := fun _ => 0) (k := 0) (v := 1) (by decide)
  rw [z] at a1
  rw [e1, e2, z]
  omega
theorem cn_nxt {s : SG} {c : Nat} (h : CN s) : CN (nxtS s c).1 := by
  obtain ⟨lv, lev, lo, hi, ri, sz, ky, vl, go, rt, ep, wq, wn, cn, op, cl, ca, ce, kc, nb⟩ := s
  have h : CNF lv lev sz go wn := h
  unfold nxtS nxeS
  dsimp only
  split
  · show CNF lv lev sz go wn
    exact h
  · show CNF lv lev sz go wn
    exact h
theorem cn_clo {s : SG} {c : Nat} (h : CN s) : CN (cloS s c) := by
  obtain ⟨lv, lev, lo, hi, ri, sz, ky, vl, go, rt, ep, wq, wn, cn, op, cl, ca, ce, kc, nb⟩ := s
  have h : CNF lv lev sz go wn := h
  show CNF lv lev sz go wn
  exact h
theorem cn_opn {s : SG} {c : Nat} (h : CN s) : CN (opnS s c) := by
  obtain ⟨lv, lev, lo, hi, ri, sz, ky, vl, go, rt, ep, wq, wn, cn, op, cl, ca, ce, kc, nb⟩ := s
  have h : CNF lv lev sz go wn := h
  show CNF lv lev sz go wn
  exact h
end CT1
