/-! What get answers behind put and take: a key is on a leaf, or on none. -/
section HS
variable {lv : Nat → Bool} {lev lo hi : Nat → Nat} {ri : Nat → Option Nat} {sz ky vl : Nat → Nat} {go : Nat → Option Nat} {rt ep : Nat} {wq : Nat → Nat} {wn cn : Nat} {op : Nat → Bool} {cl ca ce : Nat → Nat} {kc nb : Nat} {o t k v : Nat}
/-- the key is on a leaf that is not dead, with this value -/
def Hs (lv : Nat → Bool) (lev sz ky vl : Nat → Nat) (go : Nat → Option Nat) (k v : Nat) : Prop := ∃ p j, Al lv go p ∧ lev p = 0 ∧ j < sz p ∧ ky (5 * p + j) = k ∧ vl (5 * p + j) = v
theorem fnd_of {p j : Nat} (hr : ∀ k, k < sz p → ∀ j, j < k → ky (5 * p + j) < ky (5 * p + k)) (hj : j < sz p) (he : ky (5 * p + j) = k) : fnd sz ky p k = some j := by
  have hc : cnt (sz p) (pk ky p) (k + 1) = j + 1 := by
    refine cnt_eq _ _ _ _ (by omega) (fun i hi9 => ?_) (fun i h1 h2 => ?_)
    · show ky (5 * p + i) < k + 1
      by_cases e : i = j
      · subst e; omega
      · have := hr j hj i (by omega); omega
    · show k + 1 ≤ ky (5 * p + i)
      have := hr i h2 j (by omega); omega
  unfold fnd
  rw [hc, if_pos ⟨by omega, by rw [Nat.add_sub_cancel]; exact he⟩, Nat.add_sub_cancel]
theorem fnd_none {p : Nat} (hr : ∀ k, k < sz p → ∀ j, j < k → ky (5 * p + j) < ky (5 * p + k)) (h : fnd sz ky p k = none) : ∀ i, i < sz p → ky (5 * p + i) ≠ k := by
  intro i hi9 e
  rw [fnd_of hr hi9 e] at h; cases h
theorem down_at (hP : PgI lv lev lo hi ri sz ky vl go rt ep nb o) (hb : nb ≤ 513) (hk : k < 200) : Al lv go (dnF lev hi ri sz ky vl k 0 2000 rt).1 ∧ lev (dnF lev hi ri sz ky vl k 0 2000 rt).1 = 0 ∧ lo (dnF lev hi ri sz ky vl k 0 2000 rt).1 ≤ k ∧ k < hi (dnF lev hi ri sz ky vl k 0 2000 rt).1 :=
  dnF_at (key := k) (lvl := 0) hP hk 2000 rt (vp_root hP (Nat.zero_le _)) (by have := mu_root hP hb; omega)
theorem pg_rise (hP : PgI lv lev lo hi ri sz ky vl go rt ep nb o) {p : Nat} (h : lv p = true) : ∀ k, k < sz p → ∀ j, j < k → ky (5 * p + j) < ky (5 * p + k) := fun k hk => (hP.2.1 p h k hk).2.2.2
theorem get_hs (hP : PgI lv lev lo hi ri sz ky vl go rt ep nb o) (hb : nb ≤ 513) (hk : k < 200) : getS (lv, lev, lo, hi, ri, sz, ky, vl, go, rt, ep, wq, wn, cn, op, cl, ca, ce, kc, nb) k = some v ↔ Hs lv lev sz ky vl go k v := by
  obtain ⟨d1, d2, d3, d4⟩ := down_at hP hb hk
  unfold getS
  dsimp only
  generalize (dnF lev hi ri sz ky vl k 0 2000 rt).1 = p at d1 d2 d3 d4 ⊢
  constructor
  · intro h
    cases hf : fnd sz ky p k with
    | none => rw [hf] at h; cases h
    | some j =>
      rw [hf] at h
      obtain ⟨g1, g2⟩ := fnd_some hf
      exact ⟨p, j, d1, d2, g1, g2, Option.some.inj h⟩
  · rintro ⟨q, j, h1, h2, h3, h4, h5⟩
    have b := hP.2.1 q h1.1 j h3
    have : q = p := at_one (key := k) hP h1 d1 (by omega) (by omega) (by omega) d3 d4
    subst this
    rw [fnd_of (pg_rise hP h1.1) h3 h4]
    exact congrArg some h5
end HS
def HsS (s : SG) (k v : Nat) : Prop := match s with
  | (lv, lev, lo, hi, ri, sz, ky, vl, go, rt, ep, wq, wn, cn, op, cl, ca, ce, kc, nb) => Hs lv lev sz ky vl go k v
theorem inv_nb {s : SG} {t : Nat} (h : Inv s t) : nbS s ≤ 513 ∧ nbS s + waits s ≤ 1 + t ∧ t ≤ 512 := by
  rw [Inv_iff] at h
  obtain ⟨-, -, c, d, -⟩ := h
  omega
theorem get_iff {s : SG} {t k v : Nat} (h : Inv s t) (hk : k < 200) : getS s k = some v ↔ HsS s k v := by
  have hb := (inv_nb h).1
  obtain ⟨lv, lev, lo, hi, ri, sz, ky, vl, go, rt, ep, wq, wn, cn, op, cl, ca, ce, kc, nb⟩ := s
  exact get_hs h.1 hb hk
theorem get_none {s : SG} {t k : Nat} (h : Inv s t) (hk : k < 200) : getS s k = none ↔ ∀ v, ¬ HsS s k v := by
  constructor
  · intro e v hv
    rw [(get_iff h hk).mpr hv] at e; cases e
  · intro e
    cases hg : getS s k with
    | none => rfl
    | some v => exact absurd ((get_iff h hk).mp hg) (e v)
theorem get_val {s : SG} {t k v : Nat} (h : Inv s t) (hk : k < 200) (hg : getS s k = some v) : v < 10000 := by
  have hs := (get_iff h hk).mp hg
  obtain ⟨lv, lev, lo, hi, ri, sz, ky, vl, go, rt, ep, wq, wn, cn, op, cl, ca, ce, kc, nb⟩ := s
  obtain ⟨p, j, h1, h2, h3, h4, rfl⟩ := hs
  exact (h.1.2.1 p h1.1 j h3).2.2.1
theorem put_2 {s : SG} {k v : Nat} : (putS s k v).2 = getS s k := by
  obtain ⟨lv, lev, lo, hi, ri, sz, ky, vl, go, rt, ep, wq, wn, cn, op, cl, ca, ce, kc, nb⟩ := s
  unfold putS getS
  dsimp only
  split <;> rename_i h <;> rw [h] <;> rfl
theorem tak_2 {s : SG} {k : Nat} : (takS s k).2 = getS s k := by
  obtain ⟨lv, lev, lo, hi, ri, sz, ky, vl, go, rt, ep, wq, wn, cn, op, cl, ca, ce, kc, nb⟩ := s
  unfold takS getS
  dsimp only
  split <;> rename_i h <;> rw [h] <;> rfl
theorem tak_same {s : SG} {k : Nat} (h : getS s k = none) : (takS s k).1 = s := by
  obtain ⟨lv, lev, lo, hi, ri, sz, ky, vl, go, rt, ep, wq, wn, cn, op, cl, ca, ce, kc, nb⟩ := s
  unfold getS at h
  dsimp only at h
  unfold takS
  dsimp only
  split <;> rename_i j hj
  · rw [hj] at h; cases h
  · rfl
theorem kcS_has {s : SG} {k v c : Nat} : HsS (kcS s c) k v ↔ HsS s k v := by
  obtain ⟨lv, lev, lo, hi, ri, sz, ky, vl, go, rt, ep, wq, wn, cn, op, cl, ca, ce, kc, nb⟩ := s
  show Hs lv lev sz ky vl go k v ↔ Hs lv lev sz ky vl go k v
  exact Iff.rfl
theorem add_has {lv : Nat → Bool} {lev lo hi : Nat → Nat} {ri : Nat → Option Nat} {sz ky vl : Nat → Nat} {go : Nat → Option Nat} {rt ep : Nat} {wq : Nat → Nat} {wn cn : Nat} {op : Nat → Bool} {cl ca ce : Nat → Nat} {kc nb : Nat} {p k v : Nat} (hP : PgI lv lev lo hi ri sz ky vl go rt ep nb 800) (hb : nb ≤ 513) (hA : Al lv go p) (h0 : lev p = 0) : HsS (addS (lv, lev, lo, hi, ri, sz, ky, vl, go, rt, ep, wq, wn, cn, op, cl, ca, ce, kc, nb) p k v) k v := by
  have hc := cnt_le (sz p) (pk ky p) (k + 1)
  have s4 := pgi_s4 hP hb hA.1
  obtain ⟨f1, f2, f3⟩ := fr_spec hP hb
  have hmp : fr lv ≠ p := by intro e; rw [e] at f1; have := hA.1; rw [f1] at this; cases this
  by_cases h : sz p = 4
  · rw [addS_eq h]
    generalize fr lv = m at f1 hmp
    unfold insS splS
    dsimp only
    generalize cnt (sz p) (pk ky p) (k + 1) = c at hc
    by_cases c3 : c < 3
    · refine ⟨p, c, ⟨?_, ?_⟩, ?_, ?_, ?_, ?_⟩
      · rw [va_up_ne _ _ hmp.symm]; exact hA.1
      · rw [va_up_ne _ _ hmp.symm]; exact hA.2
      · rw [va_up_ne _ _ hmp.symm]; exact h0
      · rw [va_up_self]; exact c3
      · rw [va_up_ne _ _ (by omega), va_up_ne _ _ (by omega)]; exact insA_eq
      · rw [va_up_ne _ _ (by omega), va_up_ne _ _ (by omega)]; exact insA_eq
    · refine ⟨m, c - 3, ⟨va_up_self _ _ _, va_up_self _ _ _⟩, by rw [va_up_self]; exact h0, by rw [va_up_ne _ _ hmp, va_up_self]; omega, ?_, ?_⟩
      · rcases (show c = 3 ∨ c = 4 by omega) with rfl | rfl
        · rw [va_up_ne _ _ (by omega)]; exact (va_up_self _ _ _).trans insA_eq
        · exact (va_up_self _ _ _).trans insA_eq
      · rcases (show c = 3 ∨ c = 4 by omega) with rfl | rfl
        · rw [va_up_ne _ _ (by omega)]; exact (va_up_self _ _ _).trans insA_eq
        · exact (va_up_self _ _ _).trans insA_eq
  · rw [addS_lt h]
    unfold insS
    dsimp only
    generalize cnt (sz p) (pk ky p) (k + 1) = c at hc
    exact ⟨p, c, hA, h0, by rw [va_up_self]; omega, insA_eq, insA_eq⟩
theorem put_has {s : SG} {t k v : Nat} (h : Inv s t) (hk : k < 200) : HsS (putS s k v).1 k v := by
  have hb := (inv_nb h).1
  obtain ⟨lv, lev, lo, hi, ri, sz, ky, vl, go, rt, ep, wq, wn, cn, op, cl, ca, ce, kc, nb⟩ := s
  have hP := h.1
  have hb : nb ≤ 513 := hb
  obtain ⟨d1, d2, d3, d4⟩ := down_at hP hb hk
  unfold putS
  dsimp only
  generalize (dnF lev hi ri sz ky vl k 0 2000 rt).1 = p at d1 d2 d3 d4 ⊢
  cases hf : fnd sz ky p k with
  | some j =>
    obtain ⟨g1, g2⟩ := fnd_some hf
    exact ⟨p, j, d1, d2, g1, g2, va_up_self _ _ _⟩
  | none => exact kcS_has.mpr (add_has hP hb d1 d2)
theorem put_get {s : SG} {t k v : Nat} (h : Inv s t) (ht : t < 512) (hk : k < 200) (hv : v < 10000) : getS (putS s k v).1 k = some v :=
  (get_iff (inv_put h ht hk hv) hk).mpr (put_has h hk)
theorem tak_get {s : SG} {t k : Nat} (h : Inv s t) (hk : k < 200) : getS (takS s k).1 k = none := by
  rw [get_none (inv_tak h hk) hk]
  have hb := (inv_nb h).1
  obtain ⟨lv, lev, lo, hi, ri, sz, ky, vl, go, rt, ep, wq, wn, cn, op, cl, ca, ce, kc, nb⟩ := s
  have hP := h.1
  have hb : nb ≤ 513 := hb
  obtain ⟨d1, d2, d3, d4⟩ := down_at hP hb hk
  intro v
  unfold takS
  dsimp only
  generalize (dnF lev hi ri sz ky vl k 0 2000 rt).1 = p at d1 d2 d3 d4 ⊢
  have hr := pg_rise hP d1.1
  cases hf : fnd sz ky p k with
  | some j =>
    dsimp only
    rw [kcS_has]
    obtain ⟨g1, g2⟩ := fnd_some hf
    rintro ⟨q, i, h1, h2, h3, h4, -⟩
    by_cases e : q = p
    · subst e
      rw [va_up_self] at h3
      rcases Nat.lt_or_ge i j with z | z
      · rw [delA_lt z] at h4; have := hr j g1 i z; omega
      · rw [delA_ge z (by omega)] at h4; have := hr (i + 1) (by omega) j (by omega); omega
    · rw [va_up_ne _ _ e] at h3
      have s4 := pgi_s4 hP hb h1.1
      have s5 := pgi_s4 hP hb d1.1
      rw [delA_ne e (by omega) (by omega)] at h4
      have b := hP.2.1 q h1.1 i h3
      exact e (at_one (key := k) hP h1 d1 (by omega) (by omega) (by omega) d3 d4)
  | none =>
    rintro ⟨q, i, h1, h2, h3, h4, -⟩
    have b := hP.2.1 q h1.1 i h3
    have : q = p := at_one (key := k) hP h1 d1 (by omega) (by omega) (by omega) d3 d4
    subst this
    exact fnd_none hr hf i h3 h4
theorem kcS_kc {s : SG} {c : Nat} : kcN (kcS s c) = c := by
  obtain ⟨lv, lev, lo, hi, ri, sz, ky, vl, go, rt, ep, wq, wn, cn, op, cl, ca, ce, kc, nb⟩ := s
  rfl
def o1 (r : Option Nat) : Nat := match r with
  | none => 1
  | some _ => 0
theorem put_kc {s : SG} {k v : Nat} : kcN (putS s k v).1 = kcN s + o1 (getS s k) := by
  obtain ⟨lv, lev, lo, hi, ri, sz, ky, vl, go, rt, ep, wq, wn, cn, op, cl, ca, ce, kc, nb⟩ := s
  unfold putS getS
  dsimp only
  generalize (dnF lev hi ri sz ky vl k 0 2000 rt).1 = p
  cases hf : fnd sz ky p k with
  | some j => rfl
  | none => exact kcS_kc
theorem sumN_1le {n : Nat} {f : Nat → Nat} {k : Nat} (hk : k < n) : f k ≤ sumN n f := by
  have := sumN_up (f := f) (v := 0) hk
  omega
theorem tak_kc {s : SG} {t k : Nat} (h : Inv s t) (hk : k < 200) : kcN (takS s k).1 + 1 = kcN s + o1 (getS s k) := by
  have hb := (inv_nb h).1
  obtain ⟨lv, lev, lo, hi, ri, sz, ky, vl, go, rt, ep, wq, wn, cn, op, cl, ca, ce, kc, nb⟩ := s
  have hP := h.1
  have hb : nb ≤ 513 := hb
  have hkc : kc = sumN 800 (kcF lv lev sz) := h.2.2.2.1
  obtain ⟨d1, d2, d3, d4⟩ := down_at hP hb hk
  unfold takS getS
  dsimp only
  generalize (dnF lev hi ri sz ky vl k 0 2000 rt).1 = p at d1 d2 d3 d4 ⊢
  cases hf : fnd sz ky p k with
  | some j =>
    obtain ⟨g1, g2⟩ := fnd_some hf
    have hp8 : p < 800 := by have := (hP.1 p d1.1).1; omega
    have := sumN_1le (f := kcF lv lev sz) hp8
    rw [kc_at d1.1, if_pos d2] at this
    dsimp only
    rw [kcS_kc]
    show kc - 1 + 1 = kc + 0
    omega
  | none => rfl
