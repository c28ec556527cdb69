section KP5
variable {lv : Nat → Bool} {lev lo hi : Nat → Nat} {ri : Nat → Option Nat} {sz ky vl : Nat → Nat} {go : Nat → Option Nat} {rt ep : Nat} {wq : Nat → Nat} {wn cn : Nat} {op : Nat → Bool} {cl ca ce : Nat → Nat} {kc nb : Nat} {o t : Nat}
def Core (s : SG) : Prop := match s with
  | (lv, lev, lo, hi, ri, sz, ky, vl, go, rt, ep, wq, wn, cn, op, cl, ca, ce, kc, nb) => PgI lv lev lo hi ri sz ky vl go rt ep nb 800 ∧ WqI lv lev lo sz vl go rt wq wn ∧ CuI lv lev go ep cn op cl ca ce
def sumK (s : SG) : Nat := match s with
  | (lv, lev, lo, hi, ri, sz, ky, vl, go, rt, ep, wq, wn, cn, op, cl, ca, ce, kc, nb) => sumN 800 (kcF lv lev sz)
def sumE (s : SG) : Nat := match s with
  | (lv, lev, lo, hi, ri, sz, ky, vl, go, rt, ep, wq, wn, cn, op, cl, ca, ce, kc, nb) => sumN 800 (exF lv sz)
def nbS (s : SG) : Nat := match s with
  | (lv, lev, lo, hi, ri, sz, ky, vl, go, rt, ep, wq, wn, cn, op, cl, ca, ce, kc, nb) => nb
def epS (s : SG) : Nat := match s with
  | (lv, lev, lo, hi, ri, sz, ky, vl, go, rt, ep, wq, wn, cn, op, cl, ca, ce, kc, nb) => ep
def kcN (s : SG) : Nat := match s with
  | (lv, lev, lo, hi, ri, sz, ky, vl, go, rt, ep, wq, wn, cn, op, cl, ca, ce, kc, nb) => kc
theorem Inv_iff {s : SG} {t : Nat} : Inv s t ↔ Core s ∧ kcN s = sumK s ∧ nbS s + sumE s + waits s ≤ 1 + t ∧ t ≤ 512 ∧ epS s ≤ t ∧ kcN s ≤ t := by
  obtain ⟨lv, lev, lo, hi, ri, sz, ky, vl, go, rt, ep, wq, wn, cn, op, cl, ca, ce, kc, nb⟩ := s
  constructor
  · rintro ⟨a, b, c, d⟩; exact ⟨⟨a, b, c⟩, d⟩
  · rintro ⟨⟨a, b, c⟩, d⟩; exact ⟨a, b, c, d⟩
/-- what a step may do to the sums -/
def StepK (s s2 : SG) (a b : Nat) : Prop := Core s2 ∧ sumK s2 = sumK s + a ∧ nbS s2 + sumE s2 + waits s2 ≤ nbS s + sumE s + waits s + b ∧ sumE s2 + 2 * waits s2 ≤ sumE s + 2 * waits s + b ∧ epS s2 = epS s ∧ kcN s2 = kcN s
theorem add_core {p x v : Nat} (hC : Core (lv, lev, lo, hi, ri, sz, ky, vl, go, rt, ep, wq, wn, cn, op, cl, ca, ce, kc, nb)) (hb : nb ≤ 513) (hA : Al lv go p) (hx1 : lo p ≤ x) (hx2 : x < hi p) (hx3 : ∀ k, k < sz p → ky (5 * p + k) ≠ x) (hv : v < 10000) (hv2 : 0 < lev p → Al lv go v ∧ lev v + 1 = lev p ∧ lo v = x) (hvq : 0 < lev p → ∀ i, i < wn → v ≠ wq i) :
    StepK (lv, lev, lo, hi, ri, sz, ky, vl, go, rt, ep, wq, wn, cn, op, cl, ca, ce, kc, nb) (addS (lv, lev, lo, hi, ri, sz, ky, vl, go, rt, ep, wq, wn, cn, op, cl, ca, ce, kc, nb) p x v) (if lev p = 0 then 1 else 0) 1 := by
  obtain ⟨hP, hQ, hCu⟩ := hC
  have hI := keep_ins hP hb hA hx1 hx2 hx3 hv hv2
  have hc := cnt_le (sz p) (pk ky p) (x + 1)
  have hW := wq_ins (v := v) hP hb hQ hA hc hvq
  have s4 := pgi_s4 hP hb hA.1
  have hp8 : p < 800 := by have := (hP.1 p hA.1).1; omega
  have e1 : sumN 800 (exF lv (va_up sz p (sz p + 1))) + (sz p - 2) = sumN 800 (exF lv sz) + (sz p + 1 - 2) := by
    rw [ex_sz hA.1, ← ex_at (sz := sz) hA.1]; exact sumN_up hp8
  have e2 : sumN 800 (kcF lv lev (va_up sz p (sz p + 1))) = sumN 800 (kcF lv lev sz) + (if lev p = 0 then 1 else 0) := by
    have := sumN_up (n := 800) (f := kcF lv lev sz) (v := if lev p = 0 then sz p + 1 else 0) hp8
    rw [← kc_sz hA.1, kc_at hA.1] at this
    by_cases q : lev p = 0
    · simp only [if_pos q] at this ⊢; omega
    · simp only [if_neg q] at this ⊢; omega
  unfold addS
  dsimp only
  by_cases h : sz p = 4
  · rw [if_pos h]
    obtain ⟨f1, f2, f3⟩ := fr_spec hP hb
    have hmp : fr lv ≠ p := by intro e; rw [e] at f1; have := hA.1; rw [f1] at this; cases this
    have h5 : va_up sz p (sz p + 1) p = 5 := by rw [va_up_self]; omega
    have hI2 := keep_spl hI hA h5 f1 f3 hb
    have hW2 := wq_spl hI hW hA h5 f1
    have g0 : va_up (va_up (va_up sz p (sz p + 1)) (fr lv) 2) p 3 = va_up (va_up (va_up sz p (sz p + 1)) p 3) (fr lv) 2 := by
      funext n; unfold va_up; by_cases a : n = p
      · subst a; simp [hmp.symm]
      · simp [a]
    have g1 : sumN 800 (exF (va_up lv (fr lv) true) (va_up (va_up (va_up sz p (sz p + 1)) (fr lv) 2) p 3)) + (sz p - 2) = sumN 800 (exF lv sz) + 1 := by
      rw [g0, ex_new]
      have a1 := sumN_up (n := 800) (f := exF lv (va_up (va_up sz p (sz p + 1)) p 3)) (k := fr lv) (v := 2 - 2) (by omega)
      rw [ex_no f1, ex_sz hA.1] at a1
      have a2 := sumN_up (n := 800) (f := exF lv (va_up sz p (sz p + 1))) (k := p) (v := 3 - 2) hp8
      rw [ex_at hA.1, va_up_self] at a2
      rw [ex_sz hA.1]
      omega
    have g2 : sumN 800 (kcF (va_up lv (fr lv) true) (va_up lev (fr lv) (lev p)) (va_up (va_up (va_up sz p (sz p + 1)) (fr lv) 2) p 3)) = sumN 800 (kcF lv lev sz) + (if lev p = 0 then 1 else 0) := by
      rw [g0, kc_new]
      have a1 := sumN_up (n := 800) (f := kcF lv lev (va_up (va_up sz p (sz p + 1)) p 3)) (k := fr lv) (v := if lev p = 0 then 2 else 0) (by omega)
      rw [kc_no f1, kc_sz hA.1] at a1
      have a2 := sumN_up (n := 800) (f := kcF lv lev (va_up sz p (sz p + 1))) (k := p) (v := if lev p = 0 then 3 else 0) hp8
      rw [kc_at hA.1, va_up_self] at a2
      rw [kc_sz hA.1]
      split at a2 <;> rename_i q
      · simp only [if_pos q] at a1 e2 ⊢; omega
      · simp only [if_neg q] at a1 e2 ⊢; omega
    refine ⟨⟨hI2, hW2, cu_new hCu f1⟩, g2, ?_, ?_, rfl, rfl⟩
    · show nb + 1 + sumN 800 (exF (va_up lv (fr lv) true) (va_up (va_up (va_up sz p (sz p + 1)) (fr lv) 2) p 3)) + (wn + 1) ≤ nb + sumN 800 (exF lv sz) + wn + 1
      omega
    · show sumN 800 (exF (va_up lv (fr lv) true) (va_up (va_up (va_up sz p (sz p + 1)) (fr lv) 2) p 3)) + 2 * (wn + 1) ≤ sumN 800 (exF lv sz) + 2 * wn + 1
      omega
  · rw [if_neg h]
    refine ⟨⟨pgi_o hI (by rw [va_up_self]; omega) hb, hW, hCu⟩, e2, ?_, ?_, rfl, rfl⟩
    · show nb + sumN 800 (exF lv (va_up sz p (sz p + 1))) + wn ≤ nb + sumN 800 (exF lv sz) + wn + 1
      omega
    · show sumN 800 (exF lv (va_up sz p (sz p + 1))) + 2 * wn ≤ sumN 800 (exF lv sz) + 2 * wn + 1
      omega
theorem pos_core (hC : Core (lv, lev, lo, hi, ri, sz, ky, vl, go, rt, ep, wq, wn, cn, op, cl, ca, ce, kc, nb)) (hb : nb ≤ 513) (h0 : 0 < wn) : Core (posS (lv, lev, lo, hi, ri, sz, ky, vl, go, rt, ep, wq, wn, cn, op, cl, ca, ce, kc, nb)) ∧ sumK (posS (lv, lev, lo, hi, ri, sz, ky, vl, go, rt, ep, wq, wn, cn, op, cl, ca, ce, kc, nb)) = sumN 800 (kcF lv lev sz) ∧ nbS (posS (lv, lev, lo, hi, ri, sz, ky, vl, go, rt, ep, wq, wn, cn, op, cl, ca, ce, kc, nb)) + sumE (posS (lv, lev, lo, hi, ri, sz, ky, vl, go, rt, ep, wq, wn, cn, op, cl, ca, ce, kc, nb)) + waits (posS (lv, lev, lo, hi, ri, sz, ky, vl, go, rt, ep, wq, wn, cn, op, cl, ca, ce, kc, nb)) ≤ nb + sumN 800 (exF lv sz) + wn ∧ sumE (posS (lv, lev, lo, hi, ri, sz, ky, vl, go, rt, ep, wq, wn, cn, op, cl, ca, ce, kc, nb)) + 2 * waits (posS (lv, lev, lo, hi, ri, sz, ky, vl, go, rt, ep, wq, wn, cn, op, cl, ca, ce, kc, nb)) + 1 ≤ sumN 800 (exF lv sz) + 2 * wn ∧ epS (posS (lv, lev, lo, hi, ri, sz, ky, vl, go, rt, ep, wq, wn, cn, op, cl, ca, ce, kc, nb)) = ep ∧ kcN (posS (lv, lev, lo, hi, ri, sz, ky, vl, go, rt, ep, wq, wn, cn, op, cl, ca, ce, kc, nb)) = kc := by
  obtain ⟨hP, hQ, hCu⟩ := hC
  obtain ⟨w1, w2, w3, -⟩ := hQ 0 h0
  obtain ⟨hQ2, w4⟩ := wq_pop hQ h0
  obtain ⟨f1, f2, f3⟩ := fr_spec hP hb
  have bw := hP.1 _ w1.1
  have hP0 := hP
  unfold posS
  dsimp only
  by_cases h : lev (wq 0) = lev rt
  · rw [if_pos h]
    have hI := keep_gro hP w1 w2 h f1 f3 hb
    have hW := wq_gro hP hb hQ2 f1 w4
    have g1 : sumN 800 (exF (va_up lv (fr lv) true) (va_up sz (fr lv) 2)) = sumN 800 (exF lv sz) := by
      have a1 := sumN_up (n := 800) (f := exF lv sz) (k := fr lv) (v := 2 - 2) (by omega)
      rw [ex_no f1] at a1
      rw [ex_new]; omega
    have g2 : sumN 800 (kcF (va_up lv (fr lv) true) (va_up lev (fr lv) (lev (wq 0) + 1)) (va_up sz (fr lv) 2)) = sumN 800 (kcF lv lev sz) := by
      have a1 := sumN_up (n := 800) (f := kcF lv lev sz) (k := fr lv) (v := if lev (wq 0) + 1 = 0 then 2 else 0) (by omega)
      rw [kc_no f1, if_neg (by omega)] at a1
      rw [kc_new, if_neg (by omega)]; omega
    refine ⟨⟨hI, hW, cu_new hCu f1⟩, g2, ?_, ?_, rfl, rfl⟩
    · show nb + 1 + sumN 800 (exF (va_up lv (fr lv) true) (va_up sz (fr lv) 2)) + (wn - 1) ≤ nb + sumN 800 (exF lv sz) + wn
      omega
    · show sumN 800 (exF (va_up lv (fr lv) true) (va_up sz (fr lv) 2)) + 2 * (wn - 1) + 1 ≤ sumN 800 (exF lv sz) + 2 * wn
      omega
  · rw [if_neg h]
    have hl : lev (wq 0) + 1 ≤ lev rt := by omega
    obtain ⟨d1, d2, d3, d4⟩ := dnF_at (key := lo (wq 0)) (lvl := lev (wq 0) + 1) hP (by omega) 2000 rt (vp_root hP hl) (by have := mu_root hP hb; omega)
    have hdn : (dn (popS (lv, lev, lo, hi, ri, sz, ky, vl, go, rt, ep, wq, wn, cn, op, cl, ca, ce, kc, nb)) (lo (wq 0)) (lev (wq 0) + 1)).1 = (dnF lev hi ri sz ky vl (lo (wq 0)) (lev (wq 0) + 1) 2000 rt).1 := rfl
    rw [hdn]
    generalize (dnF lev hi ri sz ky vl (lo (wq 0)) (lev (wq 0) + 1) 2000 rt).1 = p at d1 d2 d3 d4 ⊢
    have hx3 : ∀ k, k < sz p → ky (5 * p + k) ≠ lo (wq 0) := by
      intro k hk e
      obtain ⟨b1, b2, b3⟩ := (hP.2.2.2.2.2.1 p d1 (by omega)).2.2 k hk
      have b4 := (hP.1 _ b1.1)
      have := at_one (key := lo (wq 0)) hP b1 w1 (by omega) (by omega) (by omega) (by omega) (by omega)
      exact w3 p k d1 (by omega) hk this
    obtain ⟨k1, k2, k3, k4, k5, k6⟩ := add_core (wq := fun i => if i < wn - 1 then wq (i + 1) else wq i) (wn := wn - 1) (cn := cn) (op := op) (cl := cl) (ca := ca) (ce := ce) (kc := kc) (x := lo (wq 0)) (v := wq 0) ⟨hP, hQ2, hCu⟩ hb d1 d3 d4 hx3 (by omega) (fun _ => ⟨w1, d2.symm, rfl⟩) (fun _ => w4)
    rw [if_neg (by omega)] at k2
    unfold popS
    dsimp only
    refine ⟨k1, k2.trans (Nat.add_zero _), ?_, ?_, k5, k6⟩
    · refine Nat.le_trans k3 ?_
      show nb + sumN 800 (exF lv sz) + (wn - 1) + 1 ≤ _
      omega
    · refine Nat.le_trans (Nat.add_le_add_right k4 1) ?_
      show sumN 800 (exF lv sz) + 2 * (wn - 1) + 1 + 1 ≤ _
      omega
theorem inv_pos {s : SG} (h : Inv s t) (h0 : 0 < waits s) : Inv (posS s) t ∧ sumE (posS s) + 2 * waits (posS s) + 1 ≤ sumE s + 2 * waits s := by
  rw [Inv_iff] at h
  obtain ⟨a, b, c, d, e, f⟩ := h
  obtain ⟨lv, lev, lo, hi, ri, sz, ky, vl, go, rt, ep, wq, wn, cn, op, cl, ca, ce, kc, nb⟩ := s
  have c' : nb + sumN 800 (exF lv sz) + wn ≤ 1 + t := c
  obtain ⟨k1, k2, k3, k4, k5, k6⟩ := pos_core a (by omega) h0
  refine ⟨Inv_iff.2 ⟨k1, ?_, by omega, d, ?_, ?_⟩, k4⟩
  · rw [k6, k2]; exact b
  · rw [k5]; exact e
  · rw [k6]; exact f
theorem inv_room {s : SG} (h : Inv s t) : sumE s + 2 * waits s ≤ 1024 := by
  rw [Inv_iff] at h
  obtain ⟨a, b, c, d, e, f⟩ := h
  obtain ⟨lv, lev, lo, hi, ri, sz, ky, vl, go, rt, ep, wq, wn, cn, op, cl, ca, ce, kc, nb⟩ := s
  have c' : nb + sumN 800 (exF lv sz) + wn ≤ 1 + t := c
  have : 0 < nb := by have := (a.1.1 rt a.1.2.2.2.2.2.2.2.1.1.1).1; omega
  show sumN 800 (exF lv sz) + 2 * wn ≤ 1024
  omega
theorem inv_pa (f : Nat) : ∀ {s : SG}, Inv s t → sumE s + 2 * waits s ≤ f → Inv (paS f s).1 t ∧ waits (paS f s).1 = 0 ∧ (paS f s).2 ≤ f := by
  induction f with
  | zero =>
    intro s h hf
    have h0 : waits s = 0 := by omega
    exact ⟨h, h0, Nat.le_refl 0⟩
  | succ f ih =>
    intro s h hf
    unfold paS
    by_cases c : waits s = 0
    · rw [if_pos c]; exact ⟨h, c, Nat.zero_le _⟩
    · rw [if_neg c]
      obtain ⟨i1, i2⟩ := inv_pos h (by omega)
      obtain ⟨j1, j2, j3⟩ := ih i1 (by omega)
      exact ⟨j1, j2, Nat.succ_le_succ j3⟩
theorem inv_up {s : SG} (h : Inv s t) (ht : t < 512) : Inv s (t + 1) := by
  rw [Inv_iff] at h ⊢
  obtain ⟨a, b, c, d, e, f⟩ := h
  exact ⟨a, b, by omega, by omega, by omega, by omega⟩
theorem inv_kcS {s : SG} {k : Nat} (h1 : Core s) (h2 : k = sumK s) (h3 : nbS s + sumE s + waits s ≤ 1 + t) (ht : t ≤ 512) (h4 : epS s ≤ t) (h5 : k ≤ t) : Inv (kcS s k) t := by
  obtain ⟨lv, lev, lo, hi, ri, sz, ky, vl, go, rt, ep, wq, wn, cn, op, cl, ca, ce, kc, nb⟩ := s
  exact ⟨h1.1, h1.2.1, h1.2.2, h2, h3, ht, h4, h5⟩
theorem inv_put {s : SG} {k v : Nat} (h : Inv s t) (ht : t < 512) (hk : k < 200) (hv : v < 10000) : Inv (putS s k v).1 (t + 1) := by
  have h' := h
  rw [Inv_iff] at h'
  obtain ⟨a, b, c, d, e, f⟩ := h'
  obtain ⟨lv, lev, lo, hi, ri, sz, ky, vl, go, rt, ep, wq, wn, cn, op, cl, ca, ce, kc, nb⟩ := s
  have c' : nb + sumN 800 (exF lv sz) + wn ≤ 1 + t := c
  have hb : nb ≤ 513 := by omega
  obtain ⟨hP, hQ, hCu⟩ := a
  obtain ⟨d1, d2, d3, d4⟩ := dnF_at (key := k) (lvl := 0) hP hk 2000 rt (vp_root hP (Nat.zero_le _)) (by have := mu_root hP hb; omega)
  unfold putS
  dsimp only
  generalize (dnF lev hi ri sz ky vl k 0 2000 rt).1 = p at d1 d2 d3 d4 ⊢
  cases hf : fnd sz ky p k with
  | some j =>
    dsimp only
    obtain ⟨g1, g2⟩ := fnd_some hf
    have := pgi_s4 hP hb d1.1
    refine inv_up (Inv_iff.2 ⟨⟨keep_set hP hb d2 (by omega) hv, wq_set hP hb hQ d2 (by omega), hCu⟩, b, c, d, e, f⟩) ht
  | none =>
    dsimp only
    have hx3 : ∀ i, i < sz p → ky (5 * p + i) ≠ k := by
      intro i hi9 e
      have q2 := hP.2.1 p d1.1
      have l1 := cnt_le (sz p) (pk ky p) (k + 1)
      have hlt : i < cnt (sz p) (pk ky p) (k + 1) := by
        rcases Nat.lt_or_ge i (cnt (sz p) (pk ky p) (k + 1)) with z | z
        · exact z
        · have := cnt_ge (sz p) (pk ky p) (k + 1) i z hi9
          simp only [pk] at this; omega
      have l2 := cnt_lt (sz p) (pk ky p) (k + 1) (by omega)
      simp only [pk] at l2
      have heq : i = cnt (sz p) (pk ky p) (k + 1) - 1 := by
        rcases Nat.lt_or_ge i (cnt (sz p) (pk ky p) (k + 1) - 1) with z | z
        · have := (q2 (cnt (sz p) (pk ky p) (k + 1) - 1) (by omega)).2.2.2 i z; omega
        · omega
      unfold fnd at hf
      rw [if_pos ⟨by omega, by rw [← heq]; exact e⟩] at hf
      cases hf
    obtain ⟨k1, k2, k3, k4, k5, k6⟩ := add_core (x := k) (v := v) (wq := wq) (wn := wn) (cn := cn) (op := op) (cl := cl) (ca := ca) (ce := ce) (kc := kc) ⟨hP, hQ, hCu⟩ hb d1 d3 d4 hx3 hv (fun z => by omega) (fun z => by omega)
    rw [if_pos d2] at k2
    generalize addS (lv, lev, lo, hi, ri, sz, ky, vl, go, rt, ep, wq, wn, cn, op, cl, ca, ce, kc, nb) p k v = s2 at k1 k2 k3 k4 k5 k6
    have b' : kc = sumN 800 (kcF lv lev sz) := b
    have f' : kc ≤ t := f
    have e' : ep ≤ t := e
    have k2' : sumK s2 = sumN 800 (kcF lv lev sz) + 1 := k2
    have k3' : nbS s2 + sumE s2 + waits s2 ≤ nb + sumN 800 (exF lv sz) + wn + 1 := k3
    have k5' : epS s2 = ep := k5
    exact inv_kcS k1 (by rw [k2', ← b']) (by omega) ht (by omega) (by omega)
theorem inv_tak {s : SG} {k : Nat} (h : Inv s t) (hk : k < 200) : Inv (takS s k).1 t := by
  have h' := h
  rw [Inv_iff] at h'
  obtain ⟨a, b, c, d, e, f⟩ := h'
  obtain ⟨lv, lev, lo, hi, ri, sz, ky, vl, go, rt, ep, wq, wn, cn, op, cl, ca, ce, kc, nb⟩ := s
  have c' : nb + sumN 800 (exF lv sz) + wn ≤ 1 + t := c
  have hb : nb ≤ 513 := by omega
  obtain ⟨hP, hQ, hCu⟩ := a
  obtain ⟨d1, d2, d3, d4⟩ := dnF_at (key := k) (lvl := 0) hP hk 2000 rt (vp_root hP (Nat.zero_le _)) (by have := mu_root hP hb; omega)
  unfold takS
  dsimp only
  generalize (dnF lev hi ri sz ky vl k 0 2000 rt).1 = p at d1 d2 d3 d4 ⊢
  cases hf : fnd sz ky p k with
  | none => exact h
  | some j =>
    dsimp only
    obtain ⟨g1, g2⟩ := fnd_some hf
    have hp8 : p < 800 := by have := (hP.1 p d1.1).1; omega
    have e1 := sumN_up (n := 800) (f := exF lv sz) (k := p) (v := sz p - 1 - 2) hp8
    rw [← ex_sz d1.1, ex_at d1.1] at e1
    have e2 := sumN_up (n := 800) (f := kcF lv lev sz) (k := p) (v := if lev p = 0 then sz p - 1 else 0) hp8
    rw [← kc_sz d1.1, kc_at d1.1, if_pos d2, if_pos d2] at e2
    have b' : kc = sumN 800 (kcF lv lev sz) := b
    have f' : kc ≤ t := f
    refine Inv_iff.2 ⟨⟨keep_rem hP hb d1 g1 (fun z => by omega), wq_rem hP hb hQ d1 g1, hCu⟩, ?_, ?_, d, e, ?_⟩
    · show kc - 1 = sumN 800 (kcF lv lev (va_up sz p (sz p - 1)))
      omega
    · show nb + sumN 800 (exF lv (va_up sz p (sz p - 1))) + wn ≤ 1 + t
      omega
    · show kc - 1 ≤ t
      omega
end KP5
