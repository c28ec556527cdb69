section KP6
variable {lv : Nat → Bool} {lev lo hi : Nat → Nat} {ri : Nat → Option Nat} {sz ky vl : Nat → Nat} {go : Nat → Option Nat} {rt ep : Nat} {wq : Nat → Nat} {wn cn : Nat} {op : Nat → Bool} {cl ca ce : Nat → Nat} {kc nb : Nat} {o t : Nat}
def allB : Nat → (Nat → Bool) → Bool
  | 0, _ => true
  | n + 1, f => allB n f && f n
theorem allB_iff {n : Nat} {f : Nat → Bool} : allB n f = true ↔ ∀ k, k < n → f k = true := by
  induction n with
  | zero => exact ⟨fun _ k h => absurd h (Nat.not_lt_zero _), fun _ => rfl⟩
  | succ n ih =>
    unfold allB
    rw [Bool.and_eq_true, ih]
    constructor
    · rintro ⟨a, b⟩ k hk
      by_cases e : k = n
      · subst e; exact b
      · exact a k (by omega)
    · intro a; exact ⟨fun k hk => a k (by omega), a n (by omega)⟩
def cntB : Nat → (Nat → Bool) → Nat
  | 0, _ => 0
  | n + 1, f => cntB n f + (if f n = true then 1 else 0)
theorem cntB_more {n : Nat} {f : Nat → Bool} (d : Nat) (h : ∀ k, n ≤ k → f k = false) : cntB (n + d) f = cntB n f := by
  induction d with
  | zero => rfl
  | succ d ih =>
    show cntB (n + d) f + (if f (n + d) = true then 1 else 0) = _
    rw [h (n + d) (by omega), if_neg Bool.false_ne_true, ih]; rfl
theorem cntB_le (n : Nat) (f : Nat → Bool) : cntB n f ≤ n := by
  induction n with
  | zero => exact Nat.le_refl _
  | succ n ih => unfold cntB; split <;> omega
theorem sumN_more {n : Nat} {f : Nat → Nat} (d : Nat) (h : ∀ k, n ≤ k → f k = 0) : sumN (n + d) f = sumN n f := by
  induction d with
  | zero => rfl
  | succ d ih =>
    show sumN (n + d) f + f (n + d) = _
    rw [h (n + d) (by omega), ih]; rfl
def rcB (go : Nat → Option Nat) (cn : Nat) (op : Nat → Bool) (ce : Nat → Nat) (n : Nat) : Bool := match go n with
  | none => false
  | some e => allB cn (fun c => !(op c && decide (ce c ≤ e)))
theorem rcB_iff {n : Nat} : rcB go cn op ce n = true ↔ rcS go cn op ce n := by
  unfold rcB rcS
  cases go n with
  | none => exact ⟨fun h => (by cases h), fun ⟨e, h, _⟩ => (by cases h)⟩
  | some e =>
    dsimp only
    rw [allB_iff]
    constructor
    · intro h
      refine ⟨e, rfl, fun c hc ho => ?_⟩
      have := h c hc
      rw [ho] at this
      simp at this; exact this
    · rintro ⟨e2, h, h2⟩ c hc
      cases h
      cases ho : op c with
      | false => rfl
      | true => have := h2 c hc ho; simp; exact this
def recS (s : SG) : SG × Nat := match s with
  | (lv, lev, lo, hi, ri, sz, ky, vl, go, rt, ep, wq, wn, cn, op, cl, ca, ce, kc, nb) => ((fun n => lv n && !rcB go cn op ce n, lev, lo, hi, ri, sz, ky, vl, go, rt, ep, wq, wn, cn, op, cl, ca, ce, kc, nb), cntB 800 fun n => lv n && rcB go cn op ce n)
theorem inv_rec {s : SG} (h : Inv s t) : Inv (recS s).1 t := by
  obtain ⟨lv, lev, lo, hi, ri, sz, ky, vl, go, rt, ep, wq, wn, cn, op, cl, ca, ce, kc, nb⟩ := s
  obtain ⟨hP, hQ, hC, hk, hs, ht, he, hkt⟩ := h
  have h2 : ∀ n, (lv n && !rcB go cn op ce n) = true ↔ lv n = true ∧ ¬ rcS go cn op ce n := by
    intro n
    rw [Bool.and_eq_true, ← rcB_iff]
    cases rcB go cn op ce n <;> simp
  have z : ∀ n, lv n = true → (lv n && !rcB go cn op ce n) ≠ true → sz n = 0 := by
    intro n hn h3
    have : ¬ ¬ rcS go cn op ce n := fun h4 => h3 ((h2 n).2 ⟨hn, h4⟩)
    have h5 : rcS go cn op ce n := Classical.not_not.1 this
    obtain ⟨e, he, _⟩ := h5
    exact (hP.2.2.2.2.2.2.1 n e hn he).2.1
  have e1 : exF (fun n => lv n && !rcB go cn op ce n) sz = exF lv sz := by
    funext n; unfold exF
    by_cases a : lv n = true
    · rw [if_pos a]
      by_cases b : (lv n && !rcB go cn op ce n) = true
      · rw [if_pos b]
      · rw [if_neg b, z n a b]
    · rw [if_neg a, if_neg (fun b => a ((h2 n).1 b).1)]
  have e2 : kcF (fun n => lv n && !rcB go cn op ce n) lev sz = kcF lv lev sz := by
    funext n; unfold kcF
    by_cases a : lv n = true ∧ lev n = 0
    · rw [if_pos a]
      by_cases b : (lv n && !rcB go cn op ce n) = true ∧ lev n = 0
      · rw [if_pos b]
      · rw [if_neg b, z n a.1 (fun q => b ⟨q, a.2⟩)]
    · rw [if_neg a, if_neg (fun b => a ⟨((h2 n).1 b.1).1, b.2⟩)]
  unfold recS
  dsimp only
  refine ⟨keep_rec hP h2, wq_rec hQ h2, cu_rec hC h2, ?_, ?_, ht, he, hkt⟩
  · rw [e2]; exact hk
  · rw [e1]; exact hs
/-- an entry, not the first of its page, whose leaf is empty -/
def Cand (lv : Nat → Bool) (lev sz vl : Nat → Nat) (p j : Nat) : Prop := lv p = true ∧ lev p = 1 ∧ 0 < j ∧ j < sz p ∧ sz (vl (5 * p + j)) = 0
def TouR (s : SG) (r : SG × Option Nat) : Prop := match s with
  | (lv, lev, lo, hi, ri, sz, ky, vl, go, rt, ep, wq, wn, cn, op, cl, ca, ce, kc, nb) =>
    (∃ p j q, Cand lv lev sz vl p j ∧ (∀ p2 j2, Cand lv lev sz vl p2 j2 → ky (5 * p + j) ≤ ky (5 * p2 + j2)) ∧ Al lv go q ∧ ri q = some (vl (5 * p + j)) ∧ r = (touS (lv, lev, lo, hi, ri, sz, ky, vl, go, rt, ep, wq, wn, cn, op, cl, ca, ce, kc, nb) p j q, some (vl (5 * p + j)))) ∨ ((∀ p j, ¬ Cand lv lev sz vl p j) ∧ r = ((lv, lev, lo, hi, ri, sz, ky, vl, go, rt, ep, wq, wn, cn, op, cl, ca, ce, kc, nb), none))
theorem al_lv (hP : PgI lv lev lo hi ri sz ky vl go rt ep nb o) {p : Nat} (h : lv p = true) (hl : 0 < lev p) : Al lv go p := by
  refine ⟨h, ?_⟩
  cases hg : go p with
  | none => rfl
  | some e => have := hP.2.2.2.2.2.2.1 p e h hg; omega
theorem left_one (hP : PgI lv lev lo hi ri sz ky vl go rt ep nb o) {n q x : Nat} (hn : Al lv go n) (hq : Al lv go q) (h1 : ri n = some x) (h2 : ri q = some x) : n = q := by
  obtain ⟨p1, p2, p3, p4, p5, -⟩ := hP
  obtain ⟨a1, a2, a3, -⟩ := p4 n x hn.1 h1
  obtain ⟨b1, b2, b3, -⟩ := p4 q x hq.1 h2
  by_cases e : n = q
  · exact e
  · have := (p1 n hn.1).2.2.1
    have := (p1 q hq.1).2.2.1
    rcases p5 n q hn hq (by omega) e with z | z <;> omega
/-- the page left of a page -/
theorem left_ex (hP : PgI lv lev lo hi ri sz ky vl go rt ep nb o) (hb : nb ≤ 513) {x : Nat} (hx : Al lv go x) (h0 : 0 < lo x) : ∃ q, Al lv go q ∧ ri q = some x ∧ lev q = lev x ∧ lo q < lo x := by
  have hP0 := hP
  obtain ⟨p1, p2, p3, p4, p5, -⟩ := hP
  have b := p1 x hx.1
  obtain ⟨d1, d2, d3, d4⟩ := dnF_at (key := lo x - 1) (lvl := lev x) hP0 (by omega) 2000 rt (vp_root hP0 b.2.1) (by have := mu_root hP0 hb; omega)
  generalize (dnF lev hi ri sz ky vl (lo x - 1) (lev x) 2000 rt).1 = q at d1 d2 d3 d4
  have e : q ≠ x := by rintro rfl; omega
  have hq : hi q = lo x := by rcases p5 q x d1 hx d2 e with z | z <;> omega
  cases hr : ri q with
  | none => have := p3 q d1.1 hr; omega
  | some r =>
    obtain ⟨a1, a2, a3, a4, a5⟩ := p4 q r d1.1 hr
    have br := p1 r a1
    have : r = x := at_one (key := lo x) hP0 ⟨a1, a4 d1.2⟩ hx (by omega) (by omega) (by omega) (by omega) (by omega)
    subst this
    exact ⟨q, d1, hr, d2, by omega⟩
theorem cand_leaf (hP : PgI lv lev lo hi ri sz ky vl go rt ep nb o) {p j : Nat} (h : Cand lv lev sz vl p j) : Al lv go p ∧ Al lv go (vl (5 * p + j)) ∧ lev (vl (5 * p + j)) = 0 ∧ lo (vl (5 * p + j)) = ky (5 * p + j) ∧ 0 < ky (5 * p + j) := by
  obtain ⟨h1, h2, h3, h4, h5⟩ := h
  have hA := al_lv hP h1 (by omega)
  obtain ⟨a, b, c⟩ := hP.2.2.2.2.2.1 p hA (by omega)
  obtain ⟨c1, c2, c3⟩ := c j h4
  have := (hP.2.1 p h1 j h4).2.2.2 0 h3
  exact ⟨hA, c1, by omega, c3, by omega⟩
theorem cand_one (hP : PgI lv lev lo hi ri sz ky vl go rt ep nb o) {p j p2 j2 : Nat} (h : Cand lv lev sz vl p j) (h2 : Cand lv lev sz vl p2 j2) (he : ky (5 * p + j) = ky (5 * p2 + j2)) : p = p2 ∧ j = j2 := by
  obtain ⟨a1, a2, a3, a4, a5⟩ := cand_leaf hP h
  obtain ⟨b1, b2, b3, b4, b5⟩ := cand_leaf hP h2
  have c1 := hP.1 _ a2.1
  have c2 := hP.1 _ b2.1
  have := at_one (key := ky (5 * p + j)) hP a2 b2 (by omega) (by omega) (by omega) (by omega) (by omega)
  exact ent_one hP a1 b1 (by have := h.2.1; omega) (by have := h2.2.1; omega) h.2.2.2.1 h2.2.2.2.1 this
theorem touR_one {s : SG} {r1 r2 : SG × Option Nat} (h : Inv s t) (h1 : TouR s r1) (h2 : TouR s r2) : r1 = r2 := by
  obtain ⟨lv, lev, lo, hi, ri, sz, ky, vl, go, rt, ep, wq, wn, cn, op, cl, ca, ce, kc, nb⟩ := s
  have hP := h.1
  rcases h1 with ⟨p, j, q, a1, a2, a3, a4, rfl⟩ | ⟨a1, rfl⟩ <;> rcases h2 with ⟨p2, j2, q2, b1, b2, b3, b4, rfl⟩ | ⟨b1, rfl⟩
  · have c1 := a2 p2 j2 b1
    have c2 := b2 p j a1
    obtain ⟨e1, e2⟩ := cand_one hP a1 b1 (by omega)
    subst e1; subst e2
    have := left_one hP a3 b3 a4 b4
    subst this; rfl
  · exact absurd a1 (b1 p j)
  · exact absurd b1 (a1 p2 j2)
  · rfl
theorem touR_inv {s : SG} {r : SG × Option Nat} (h : Inv s t) (ht : t < 512) (h1 : TouR s r) : Inv r.1 (t + 1) := by
  have h0 := h
  obtain ⟨lv, lev, lo, hi, ri, sz, ky, vl, go, rt, ep, wq, wn, cn, op, cl, ca, ce, kc, nb⟩ := s
  obtain ⟨hP, hQ, hC, hk, hs, -, he, hkt⟩ := h
  have hb : nb ≤ 513 := by omega
  rcases h1 with ⟨p, j, q, a1, a2, a3, a4, rfl⟩ | ⟨a1, rfl⟩
  · obtain ⟨c1, c2, c3, c4, c5⟩ := cand_leaf hP a1
    obtain ⟨b1, b2, b3, b4, b5⟩ := a1
    have hp8 : p < 800 := by have := (hP.1 p b1).1; omega
    have e1 := sumN_up (n := 800) (f := exF lv sz) (k := p) (v := sz p - 1 - 2) hp8
    rw [← ex_sz b1, ex_at b1] at e1
    have e2 := sumN_up (n := 800) (f := kcF lv lev sz) (k := p) (v := if lev p = 0 then sz p - 1 else 0) hp8
    rw [← kc_sz b1, kc_at b1, if_neg (by omega), if_neg (by omega)] at e2
    refine ⟨keep_tou hP hb c1 b2 b3 b4 rfl b5 a3 a4, wq_tou hP hb hQ c1 (by omega) b4 rfl, cu_tou hC, ?_, ?_, ht, Nat.succ_le_succ he, Nat.le_succ_of_le hkt⟩
    · have e3 : sumN 800 (kcF lv lev (va_up sz p (sz p - 1))) = sumN 800 (kcF lv lev sz) := by omega
      exact hk.trans e3.symm
    · have : nb + sumN 800 (exF lv (va_up sz p (sz p - 1))) + wn ≤ 1 + (t + 1) := by omega
      exact this
  · exact inv_up h0 ht
def opnS (s : SG) (k : Nat) : SG := match s with
  | (lv, lev, lo, hi, ri, sz, ky, vl, go, rt, ep, wq, wn, cn, op, cl, ca, ce, kc, nb) => (lv, lev, lo, hi, ri, sz, ky, vl, go, rt, ep, wq, wn, cn + 1, va_up op cn true, va_up cl cn (dnF lev hi ri sz ky vl k 0 2000 rt).1, va_up ca cn k, va_up ce cn ep, kc, nb)
theorem inv_opn {k : Nat} (h : Inv (lv, lev, lo, hi, ri, sz, ky, vl, go, rt, ep, wq, wn, cn, op, cl, ca, ce, kc, nb) t) (hk : k < 200) (hcn : cn < 20) : Inv (opnS (lv, lev, lo, hi, ri, sz, ky, vl, go, rt, ep, wq, wn, cn, op, cl, ca, ce, kc, nb) k) t := by
  obtain ⟨hP, hQ, hC, hkk, hs, ht, he, hkt⟩ := h
  have hb : nb ≤ 513 := by omega
  obtain ⟨d1, d2, d3, d4⟩ := dnF_at (key := k) (lvl := 0) hP hk 2000 rt (vp_root hP (Nat.zero_le _)) (by have := mu_root hP hb; omega)
  refine ⟨hP, hQ, ⟨hcn, fun c hc => ?_⟩, hkk, hs, ht, he, hkt⟩
  by_cases e : c = cn
  · subst e
    rw [va_up_self, va_up_self, va_up_self, va_up_self]
    exact ⟨by omega, Nat.le_refl _, fun _ => ⟨d1.1, d2, fun e h => by rw [d1.2] at h; cases h⟩⟩
  · rw [va_up_ne _ _ e, va_up_ne _ _ e, va_up_ne _ _ e, va_up_ne _ _ e]; exact hC.2 c (by omega)
def cloS (s : SG) (c : Nat) : SG := match s with
  | (lv, lev, lo, hi, ri, sz, ky, vl, go, rt, ep, wq, wn, cn, op, cl, ca, ce, kc, nb) => (lv, lev, lo, hi, ri, sz, ky, vl, go, rt, ep, wq, wn, cn, va_up op c false, cl, ca, ce, kc, nb)
theorem inv_clo {s : SG} {c : Nat} (h : Inv s t) : Inv (cloS s c) t := by
  obtain ⟨lv, lev, lo, hi, ri, sz, ky, vl, go, rt, ep, wq, wn, cn, op, cl, ca, ce, kc, nb⟩ := s
  obtain ⟨hP, hQ, hC, hkk, hs, ht, he, hkt⟩ := h
  refine ⟨hP, hQ, ⟨hC.1, fun i hi9 => ?_⟩, hkk, hs, ht, he, hkt⟩
  obtain ⟨a, b, d⟩ := hC.2 i hi9
  refine ⟨a, b, fun h => d ?_⟩
  by_cases e : i = c
  · subst e; rw [va_up_self] at h; cases h
  · rw [va_up_ne _ _ e] at h; exact h
/-- right, to the first leaf that has a key not less than b, or the last leaf -/
def wkF (ri : Nat → Option Nat) (sz ky : Nat → Nat) (b : Nat) : Nat → Nat → Nat
  | 0, p => p
  | f + 1, p => if sz p ≤ cnt (sz p) (pk ky p) b then match ri p with
      | none => p
      | some r => wkF ri sz ky b f r
    else p
theorem wk_fuel {b : Nat} (hP : PgI lv lev lo hi ri sz ky vl go rt ep nb o) : ∀ (f g p : Nat), lv p = true → 200 - lo p < f → 200 - lo p < g → wkF ri sz ky b f p = wkF ri sz ky b g p := by
  intro f
  induction f with
  | zero => intro g p _ h; omega
  | succ f ih =>
    intro g p hv h1 h2
    cases g with
    | zero => omega
    | succ g =>
      unfold wkF
      by_cases c : sz p ≤ cnt (sz p) (pk ky p) b
      · rw [if_pos c, if_pos c]
        cases hr : ri p with
        | none => rfl
        | some r =>
          obtain ⟨b1, b2, b3, b4, b5⟩ := hP.2.2.2.1 p r hv hr
          have := hP.1 p hv
          have := hP.1 r b1
          exact ih g r b1 (by omega) (by omega)
      · rw [if_neg c, if_neg c]
theorem wk_step {b p : Nat} (hP : PgI lv lev lo hi ri sz ky vl go rt ep nb o) (hv : lv p = true) : wkF ri sz ky b 800 p = if sz p ≤ cnt (sz p) (pk ky p) b then (match ri p with | none => p | some r => wkF ri sz ky b 800 r) else p := by
  rw [wk_fuel hP 800 801 p hv (by omega) (by omega)]
  rfl
theorem wk_at {b c0 : Nat} (hP : PgI lv lev lo hi ri sz ky vl go rt ep nb o) : ∀ (f p : Nat), lv p = true → lev p = 0 → (∀ e, go p = some e → c0 ≤ e) → lv (wkF ri sz ky b f p) = true ∧ lev (wkF ri sz ky b f p) = 0 ∧ ∀ e, go (wkF ri sz ky b f p) = some e → c0 ≤ e := by
  intro f
  induction f with
  | zero => intro p h1 h2 h3; exact ⟨h1, h2, h3⟩
  | succ f ih =>
    intro p h1 h2 h3
    unfold wkF
    split
    · cases hr : ri p with
      | none => exact ⟨h1, h2, h3⟩
      | some r =>
        obtain ⟨b1, b2, b3, b4, b5⟩ := hP.2.2.2.1 p r h1 hr
        refine ih r b1 (by omega) (fun e he => ?_)
        cases hg : go p with
        | none => rw [b4 hg] at he; cases he
        | some a => have := h3 a hg; have := b5 a e hg he; omega
    · exact ⟨h1, h2, h3⟩
/-- the next key of cursor c, if the way ends at leaf p -/
def nxeS (s : SG) (c p : Nat) : SG × Option Nat := match s with
  | (lv, lev, lo, hi, ri, sz, ky, vl, go, rt, ep, wq, wn, cn, op, cl, ca, ce, kc, nb) => if cnt (sz p) (pk ky p) (ca c) < sz p then ((lv, lev, lo, hi, ri, sz, ky, vl, go, rt, ep, wq, wn, cn, op, va_up cl c p, va_up ca c (ky (5 * p + cnt (sz p) (pk ky p) (ca c)) + 1), ce, kc, nb), some (ky (5 * p + cnt (sz p) (pk ky p) (ca c)))) else ((lv, lev, lo, hi, ri, sz, ky, vl, go, rt, ep, wq, wn, cn, op, va_up cl c p, ca, ce, kc, nb), none)
def nxtS (s : SG) (c : Nat) : SG × Option Nat := match s with
  | (lv, lev, lo, hi, ri, sz, ky, vl, go, rt, ep, wq, wn, cn, op, cl, ca, ce, kc, nb) => nxeS (lv, lev, lo, hi, ri, sz, ky, vl, go, rt, ep, wq, wn, cn, op, cl, ca, ce, kc, nb) c (wkF ri sz ky (ca c) 800 (cl c))
theorem inv_nxt {c : Nat} (h : Inv (lv, lev, lo, hi, ri, sz, ky, vl, go, rt, ep, wq, wn, cn, op, cl, ca, ce, kc, nb) t) (hc : c < cn) (ho : op c = true) : Inv (nxtS (lv, lev, lo, hi, ri, sz, ky, vl, go, rt, ep, wq, wn, cn, op, cl, ca, ce, kc, nb) c).1 t := by
  obtain ⟨hP, hQ, hC, hkk, hs, ht, he, hkt⟩ := h
  have key : ∀ (p : Nat) (ca2 : Nat → Nat), (c < cn → op c = true → lv p = true ∧ lev p = 0 ∧ ∀ e, go p = some e → ce c ≤ e) → (∀ i, i < cn → ca2 i ≤ 200) → CuI lv lev go ep cn op (va_up cl c p) ca2 ce := by
    intro p ca2 h1 h2
    refine ⟨hC.1, fun i hi9 => ?_⟩
    obtain ⟨a, b, d⟩ := hC.2 i hi9
    refine ⟨h2 i hi9, b, fun ho => ?_⟩
    by_cases e : i = c
    · subst e; rw [va_up_self]; exact h1 hi9 ho
    · rw [va_up_ne _ _ e]; exact d ho
  have hw : c < cn → op c = true → lv (wkF ri sz ky (ca c) 800 (cl c)) = true ∧ lev (wkF ri sz ky (ca c) 800 (cl c)) = 0 ∧ ∀ e, go (wkF ri sz ky (ca c) 800 (cl c)) = some e → ce c ≤ e := by
    intro h1 h2
    obtain ⟨d1, d2, d3⟩ := (hC.2 c h1).2.2 h2
    exact wk_at hP 800 _ d1 d2 d3
  unfold nxtS nxeS
  dsimp only
  generalize wkF ri sz ky (ca c) 800 (cl c) = p at hw ⊢
  split
  · rename_i h9
    refine ⟨hP, hQ, key p _ hw (fun i hi9 => ?_), hkk, hs, ht, he, hkt⟩
    by_cases e : i = c
    · subst e; rw [va_up_self]; have := (hP.2.1 p (hw hc ho).1 _ h9).2.1; have := hP.1 p (hw hc ho).1; omega
    · rw [va_up_ne _ _ e]; exact (hC.2 i hi9).1
  · exact ⟨hP, hQ, key p _ hw (fun i hi9 => (hC.2 i hi9).1), hkk, hs, ht, he, hkt⟩
end KP6
