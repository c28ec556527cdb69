/-! Along a level: what a walk over the right links counts. -/
section CH
variable {lv : Nat → Bool} {lev lo hi : Nat → Nat} {ri : Nat → Option Nat} {sz ky vl : Nat → Nat} {go : Nat → Option Nat} {rt ep : Nat} {wq : Nat → Nat} {wn cn : Nat} {op : Nat → Bool} {cl ca ce : Nat → Nat} {kc nb : Nat} {o t : Nat}
/-- the pages of a level that are not dead and begin below low, each with its weight -/
def chF (lv : Nat → Bool) (lev lo : Nat → Nat) (go : Nat → Option Nat) (g : Nat → Nat) (l low : Nat) : Nat → Nat := fun n => if Al lv go n ∧ lev n = l ∧ lo n < low then g n else 0
def lvF (lv : Nat → Bool) (lev : Nat → Nat) (go : Nat → Option Nat) (g : Nat → Nat) (l : Nat) : Nat → Nat := fun n => if Al lv go n ∧ lev n = l then g n else 0
def abF (lv : Nat → Bool) (lev : Nat → Nat) (go : Nat → Option Nat) (g : Nat → Nat) (d : Nat) : Nat → Nat := fun n => if Al lv go n ∧ d ≤ lev n then g n else 0
theorem sumN_zero (n : Nat) : sumN n (fun _ => 0) = 0 := by
  induction n with
  | zero => rfl
  | succ n ih => show sumN n (fun _ => 0) + 0 = 0; rw [ih]
theorem sumN_plus (n : Nat) (f g : Nat → Nat) : sumN n (fun k => f k + g k) = sumN n f + sumN n g := by
  induction n with
  | zero => rfl
  | succ n ih =>
    show sumN n (fun k => f k + g k) + (f n + g n) = (sumN n f + f n) + (sumN n g + g n)
    rw [ih]; omega
theorem sumN_cap {n c : Nat} {f : Nat → Nat} (h : ∀ k, k < n → f k ≤ c) : sumN n f ≤ n * c := by
  induction n with
  | zero => exact Nat.zero_le _
  | succ n ih =>
    have h1 := ih (fun k hk => h k (by omega))
    have h2 := h n (by omega)
    show sumN n f + f n ≤ (n + 1) * c
    rw [Nat.succ_mul]; omega
theorem ch_step {g : Nat → Nat} {p : Nat} (hP : PgI lv lev lo hi ri sz ky vl go rt ep nb o) (hb : nb ≤ 513) (hA : Al lv go p) : sumN 800 (chF lv lev lo go g (lev p) (hi p)) = sumN 800 (chF lv lev lo go g (lev p) (lo p)) + g p := by
  have e : chF lv lev lo go g (lev p) (hi p) = va_up (chF lv lev lo go g (lev p) (lo p)) p (g p) := by
    have hp := hP.1 p hA.1
    funext n
    by_cases e : n = p
    · subst e; rw [va_up_self]; exact if_pos ⟨hA, rfl, hp.2.2.1⟩
    · rw [va_up_ne _ _ e]
      unfold chF
      by_cases c : Al lv go n ∧ lev n = lev p
      · have hn := hP.1 n c.1.1
        rcases hP.2.2.2.2.1 n p c.1 hA c.2 e with z | z
        · rw [if_pos ⟨c.1, c.2, by omega⟩, if_pos ⟨c.1, c.2, by omega⟩]
        · rw [if_neg (fun q => by have := q.2.2; omega), if_neg (fun q => by have := q.2.2; omega)]
      · rw [if_neg (fun q => c ⟨q.1, q.2.1⟩), if_neg (fun q => c ⟨q.1, q.2.1⟩)]
  have h0 : chF lv lev lo go g (lev p) (lo p) p = 0 := if_neg (fun q => Nat.lt_irrefl _ q.2.2)
  have hp8 : p < 800 := by have := (hP.1 p hA.1).1; omega
  have := sumN_up (f := chF lv lev lo go g (lev p) (lo p)) (v := g p) hp8
  rw [e]; omega
theorem ch_zero {g : Nat → Nat} {l : Nat} : sumN 800 (chF lv lev lo go g l 0) = 0 := by
  have e : chF lv lev lo go g l 0 = fun _ => 0 := by
    funext n; exact if_neg (fun q => Nat.not_lt_zero _ q.2.2)
  rw [e, sumN_zero]
theorem ch_end {g : Nat → Nat} {l : Nat} (hP : PgI lv lev lo hi ri sz ky vl go rt ep nb o) : chF lv lev lo go g l 200 = lvF lv lev go g l := by
  funext n
  unfold chF lvF
  by_cases c : Al lv go n ∧ lev n = l
  · have hn := hP.1 n c.1.1
    rw [if_pos ⟨c.1, c.2, by omega⟩, if_pos c]
  · rw [if_neg (fun q => c ⟨q.1, q.2.1⟩), if_neg c]
theorem ab_step {g : Nat → Nat} {d : Nat} : sumN 800 (abF lv lev go g d) = sumN 800 (abF lv lev go g (d + 1)) + sumN 800 (lvF lv lev go g d) := by
  rw [← sumN_plus]
  congr 1
  funext n
  unfold abF lvF
  by_cases c : Al lv go n
  · rcases Nat.lt_trichotomy (lev n) d with z | z | z
    · rw [if_neg (fun q => by have := q.2; omega), if_neg (fun q => by have := q.2; omega), if_neg (fun q => by have := q.2; omega)]
    · rw [if_pos ⟨c, by omega⟩, if_neg (fun q => by have := q.2; omega), if_pos ⟨c, z⟩]; omega
    · rw [if_pos ⟨c, by omega⟩, if_pos ⟨c, by omega⟩, if_neg (fun q => by have := q.2; omega)]; rfl
  · rw [if_neg (fun q => c q.1), if_neg (fun q => c q.1), if_neg (fun q => c q.1)]
theorem ab_top {g : Nat → Nat} {d : Nat} (hP : PgI lv lev lo hi ri sz ky vl go rt ep nb o) (hd : lev rt < d) : sumN 800 (abF lv lev go g d) = 0 := by
  have e : abF lv lev go g d = fun _ => 0 := by
    funext n; exact if_neg (fun q => by have := (hP.1 n q.1.1).2.1; have := q.2; omega)
  rw [e, sumN_zero]
theorem ab_all : abF lv lev go (fun _ => 1) 0 = alF lv go := by
  funext n
  unfold abF alF
  by_cases c : Al lv go n
  · rw [if_pos ⟨c, Nat.zero_le _⟩, if_pos c]
  · rw [if_neg (fun q => c q.1), if_neg c]
theorem ab_ent (hP : PgI lv lev lo hi ri sz ky vl go rt ep nb o) : abF lv lev go sz 1 = enF lv lev sz := by
  funext n
  unfold abF enF
  by_cases c : lv n = true ∧ 0 < lev n
  · rw [if_pos ⟨al_lv hP c.1 c.2, c.2⟩, if_pos c]
  · rw [if_neg (fun q => c ⟨q.1.1, q.2⟩), if_neg c]
theorem lv_keys (hP : PgI lv lev lo hi ri sz ky vl go rt ep nb o) : lvF lv lev go sz 0 = kcF lv lev sz := by
  funext n
  unfold lvF kcF
  by_cases c : lv n = true ∧ lev n = 0
  · rw [if_pos c]
    by_cases hA : Al lv go n
    · exact if_pos ⟨hA, c.2⟩
    · rw [if_neg (fun q => hA q.1)]
      cases hg : go n with
      | none => exact absurd ⟨c.1, hg⟩ hA
      | some e => exact (hP.2.2.2.2.2.2.1 n e c.1 hg).2.1.symm
  · rw [if_neg (fun q => c ⟨q.1.1, q.2⟩), if_neg c]
theorem lv_cap {g : Nat → Nat} {l c : Nat} (hg : ∀ n, Al lv go n → g n ≤ c) : sumN 800 (lvF lv lev go g l) ≤ 800 * c := by
  refine sumN_cap (fun k _ => ?_)
  unfold lvF
  split
  · rename_i h; exact hg k h.1
  · exact Nat.zero_le _
theorem ab_cap {g : Nat → Nat} {d c : Nat} (hg : ∀ n, Al lv go n → g n ≤ c) : sumN 800 (abF lv lev go g d) ≤ 800 * c := by
  refine sumN_cap (fun k _ => ?_)
  unfold abF
  split
  · rename_i h; exact hg k h.1
  · exact Nat.zero_le _
theorem ch_cap {g : Nat → Nat} {l low c : Nat} (hg : ∀ n, Al lv go n → g n ≤ c) : sumN 800 (chF lv lev lo go g l low) ≤ 800 * c := by
  refine sumN_cap (fun k _ => ?_)
  unfold chF
  split
  · rename_i h; exact hg k h.1
  · exact Nat.zero_le _
theorem ab_nb {d : Nat} (hP : PgI lv lev lo hi ri sz ky vl go rt ep nb o) (hb : nb ≤ 513) : sumN 800 (abF lv lev go (fun _ => 1) d) ≤ nb := by
  have h := sumN_more (n := nb) (f := abF lv lev go (fun _ => 1) d) (800 - nb) (fun k hk => if_neg (fun q => by have := (hP.1 k q.1.1).1; omega))
  rw [show nb + (800 - nb) = 800 by omega] at h
  rw [h]
  have := sumN_cap (n := nb) (c := 1) (f := abF lv lev go (fun _ => 1) d) (fun k _ => by unfold abF; split; exact Nat.le_refl 1; exact Nat.zero_le _)
  omega
theorem cnt_al (n : Nat) : cntB n lv = cntB n (fun n => lv n && (go n).isSome) + sumN n (alF lv go) := by
  induction n with
  | zero => rfl
  | succ n ih =>
    show cntB n lv + (if lv n = true then 1 else 0) = (cntB n (fun n => lv n && (go n).isSome) + (if (lv n && (go n).isSome) = true then 1 else 0)) + (sumN n (alF lv go) + alF lv go n)
    unfold alF
    unfold alF at ih
    cases h1 : lv n <;> cases h2 : go n <;> simp <;> omega
/-- the page of the first entry begins where the page does -/
theorem first_child {p : Nat} (hP : PgI lv lev lo hi ri sz ky vl go rt ep nb o) (hA : Al lv go p) (h0 : 0 < lev p) : 1 ≤ sz p ∧ Al lv go (vl (5 * p)) ∧ lev (vl (5 * p)) + 1 = lev p ∧ lo (vl (5 * p)) = lo p := by
  obtain ⟨a, b, c⟩ := hP.2.2.2.2.2.1 p hA h0
  obtain ⟨c1, c2, c3⟩ := c 0 (by omega)
  exact ⟨a, c1, c2, c3.trans b⟩
end CH
