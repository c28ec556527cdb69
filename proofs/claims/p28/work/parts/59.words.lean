/-! Words and rows that the reference's side brought along in the claim whole. -/
def oI (r : Option Nat) : Int32 := match r with
  | none => -1
  | some x => nI x
def bI (b : Bool) : Int32 := if b = true then nI 1 else nI 0
def lI (c : Nat) : Int32 := nI c - nI 1
theorem lI_s (k : Nat) : lI (k + 1) = nI k := by unfold lI; rw [pk_sub (by omega)]; rfl
theorem pg_bd {lv : Nat → Bool} {lev lo hi : Nat → Nat} {ri : Nat → Option Nat} {sz ky vl : Nat → Nat} {go : Nat → Option Nat} {rt ep nb : Nat} {o n : Nat} (hP : PgI lv lev lo hi ri sz ky vl go rt ep nb o) (hb : nb ≤ 513) (hn : lv n = true) : n < 513 ∧ lev n < 513 ∧ hi n ≤ 200 ∧ lo n < hi n ∧ sz n ≤ 5 ∧ ∀ k, k < sz n → ky (5 * n + k) < 200 ∧ vl (5 * n + k) < 10000 := by
  obtain ⟨p1, p2, p3, p4, p5, p6, p7, p8, p9, p10⟩ := hP
  obtain ⟨a1, a2, a3, a4, a5⟩ := p1 n hn
  refine ⟨by omega, by omega, a4, a3, by split at a5 <;> omega, fun k hk => ?_⟩
  obtain ⟨b1, b2, b3, b4⟩ := p2 n hn k hk
  exact ⟨by omega, b3⟩
theorem lI_1 (c : Nat) : lI c + nI 1 = nI c := by unfold lI; rw [Int32.sub_add_cancel]
def kyA (sz ky : Nat → Nat) (j c : Nat) : Option Nat := if c < sz j then some (ky (5 * j + c)) else none
def blA (lev sz vl : Nat → Nat) (j c : Nat) : Option Nat := if c < sz j ∧ 0 < lev j then some (vl (5 * j + c)) else none
theorem cntB_s1 {n : Nat} {f : Nat → Bool} (h : f n = true) : cntB (n + 1) f = cntB n f + 1 := by show cntB n f + (if f n = true then 1 else 0) = _; rw [if_pos h]
theorem cntB_s0 {n : Nat} {f : Nat → Bool} (h : f n = false) : cntB (n + 1) f = cntB n f := by show cntB n f + (if f n = true then 1 else 0) = _; rw [h]; rfl
def iniS : SG := (va_up (fun _ => false) 0 true, va_up (fun _ => 0) 0 0, va_up (fun _ => 0) 0 0, va_up (fun _ => 0) 0 200, va_up (fun _ => some 0) 0 none, va_up (fun _ => 0) 0 0, fun _ => 0, fun _ => 0, va_up (fun _ => some 0) 0 none, 0, 0, fun _ => 0, 0, 0, fun _ => false, fun _ => 0, fun _ => 1, fun _ => 0, 0, 1)
theorem iniS_inv : Inv iniS 0 := by
  have a0 : va_up (fun _ => false) 0 true 0 = true := rfl
  have al : ∀ n, va_up (fun _ => false) 0 true n = true → n = 0 := by
    intro n h
    by_cases e : n = 0
    · exact e
    · rw [va_up_ne _ _ e] at h; cases h
  have ks : sumN 800 (kcF (va_up (fun _ => false) 0 true) (va_up (fun _ => 0) 0 0) (va_up (fun _ => 0) 0 0)) = 0 := by
    have : kcF (va_up (fun _ => false) 0 true) (va_up (fun _ => 0) 0 0) (va_up (fun _ => 0) 0 0) = fun _ => 0 := by
      funext n; unfold kcF va_up; split <;> (try split) <;> rfl
    rw [this]; decide +kernel
  have es : sumN 800 (exF (va_up (fun _ => false) 0 true) (va_up (fun _ => 0) 0 0)) = 0 := by
    have : exF (va_up (fun _ => false) 0 true) (va_up (fun _ => 0) 0 0) = fun _ => 0 := by
      funext n; unfold exF va_up; split <;> (try split) <;> rfl
    rw [this]; decide +kernel
  refine ⟨⟨?_, ?_, ?_, ?_, ?_, ?_, ?_, ?_, ?_, ?_⟩, fun i h => absurd h (Nat.not_lt_zero _), ⟨Nat.zero_le _, fun c h => absurd h (Nat.not_lt_zero _)⟩, ks.symm, ?_, Nat.zero_le _, Nat.le_refl _, Nat.le_refl _⟩
  · intro n h; obtain rfl := al n h; exact ⟨by decide, by decide, by decide, by decide, by decide⟩
  · intro n h k hk; obtain rfl := al n h; exact absurd hk (Nat.not_lt_zero _)
  · intro n h _; obtain rfl := al n h; rfl
  · intro n r h h2; obtain rfl := al n h; cases h2
  · intro n m h h2 _ h3; exact absurd ((al n h.1).trans (al m h2.1).symm) h3
  · intro n h h2; obtain rfl := al n h.1; exact absurd h2 (by decide)
  · intro n e h h2; obtain rfl := al n h; cases h2
  · exact ⟨⟨rfl, rfl⟩, rfl⟩
  · exact ⟨⟨rfl, rfl⟩, rfl, rfl⟩
  · decide
  · rw [es]; decide
