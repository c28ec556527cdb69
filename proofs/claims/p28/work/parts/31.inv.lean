/-! What holds between the calls; going down. -/
def sumN : Nat → (Nat → Nat) → Nat
  | 0, _ => 0
  | n + 1, f => sumN n f + f n
theorem sumN_congr {n : Nat} {f g : Nat → Nat} (h : ∀ k, k < n → f k = g k) : sumN n f = sumN n g := by
  induction n with
  | zero => rfl
  | succ n ih => unfold sumN; rw [ih (fun k hk => h k (by omega)), h n (by omega)]
theorem sumN_up {n : Nat} {f : Nat → Nat} {k v : Nat} (hk : k < n) : sumN n (va_up f k v) + f k = sumN n f + v := by
  induction n with
  | zero => omega
  | succ n ih =>
    unfold sumN
    rcases Nat.lt_or_ge k n with q | q
    · have := ih q
      rw [va_up_ne _ _ (by omega)]; omega
    · have e : k = n := by omega
      subst e
      rw [va_up_self, sumN_congr (g := f) (fun j hj => va_up_ne _ _ (by omega))]; omega
/-- how much of a page's size counts -/
def exF (lv : Nat → Bool) (sz : Nat → Nat) : Nat → Nat := fun n => if lv n = true then sz n - 2 else 0
def kcF (lv : Nat → Bool) (lev sz : Nat → Nat) : Nat → Nat := fun n => if lv n = true ∧ lev n = 0 then sz n else 0
/-- a page that is there and not dead -/
abbrev Al (lv : Nat → Bool) (go : Nat → Option Nat) (n : Nat) : Prop := lv n = true ∧ go n = none
/-- the pages (o: the one that may hold five) -/
def PgI (lv : Nat → Bool) (lev lo hi : Nat → Nat) (ri : Nat → Option Nat) (sz ky vl : Nat → Nat) (go : Nat → Option Nat) (rt ep nb o : Nat) : Prop :=
  (∀ n, lv n = true → n < nb ∧ lev n ≤ lev rt ∧ lo n < hi n ∧ hi n ≤ 200 ∧ sz n ≤ (if n = o then 5 else 4)) ∧
  (∀ n, lv n = true → ∀ k, k < sz n → lo n ≤ ky (5 * n + k) ∧ ky (5 * n + k) < hi n ∧ vl (5 * n + k) < 10000 ∧ ∀ j, j < k → ky (5 * n + j) < ky (5 * n + k)) ∧
  (∀ n, lv n = true → ri n = none → hi n = 200) ∧
  (∀ n r, lv n = true → ri n = some r → lv r = true ∧ lev r = lev n ∧ lo r = hi n ∧ (go n = none → go r = none) ∧ ∀ a b, go n = some a → go r = some b → a < b) ∧
  (∀ n m, Al lv go n → Al lv go m → lev n = lev m → n ≠ m → hi n ≤ lo m ∨ hi m ≤ lo n) ∧
  (∀ n, Al lv go n → 0 < lev n → 1 ≤ sz n ∧ ky (5 * n) = lo n ∧ ∀ k, k < sz n → Al lv go (vl (5 * n + k)) ∧ lev (vl (5 * n + k)) + 1 = lev n ∧ lo (vl (5 * n + k)) = ky (5 * n + k)) ∧
  (∀ n e, lv n = true → go n = some e → lev n = 0 ∧ sz n = 0 ∧ e < ep) ∧
  (Al lv go rt ∧ lo rt = 0) ∧ (Al lv go 0 ∧ lev 0 = 0 ∧ lo 0 = 0) ∧ lev rt < nb
def WqI (lv : Nat → Bool) (lev lo : Nat → Nat) (sz vl : Nat → Nat) (go : Nat → Option Nat) (rt : Nat) (wq : Nat → Nat) (wn : Nat) : Prop :=
  ∀ i, i < wn → Al lv go (wq i) ∧ wq i ≠ rt ∧ (∀ n k, Al lv go n → 0 < lev n → k < sz n → vl (5 * n + k) ≠ wq i) ∧ ∀ j, j < i → wq j ≠ wq i
def CuI (lv : Nat → Bool) (lev : Nat → Nat) (go : Nat → Option Nat) (ep cn : Nat) (op : Nat → Bool) (cl ca ce : Nat → Nat) : Prop :=
  cn ≤ 20 ∧ ∀ c, c < cn → ca c ≤ 200 ∧ ce c ≤ ep ∧ (op c = true → lv (cl c) = true ∧ lev (cl c) = 0 ∧ ∀ e, go (cl c) = some e → ce c ≤ e)
/-- all of it; t: how many calls were made -/
def InvF (lv : Nat → Bool) (lev : Nat → Nat) (lo : Nat → Nat) (hi : Nat → Nat) (ri : Nat → Option Nat) (sz : Nat → Nat) (ky : Nat → Nat) (vl : Nat → Nat) (go : Nat → Option Nat) (rt : Nat) (ep : Nat) (wq : Nat → Nat) (wn : Nat) (cn : Nat) (op : Nat → Bool) (cl : Nat → Nat) (ca : Nat → Nat) (ce : Nat → Nat) (kc : Nat) (nb : Nat) (o t : Nat) : Prop :=
  PgI lv lev lo hi ri sz ky vl go rt ep nb o ∧ WqI lv lev lo sz vl go rt wq wn ∧ CuI lv lev go ep cn op cl ca ce ∧
  kc = sumN 800 (kcF lv lev sz) ∧ nb + sumN 800 (exF lv sz) + wn ≤ 1 + t ∧ t ≤ 512 ∧ ep ≤ t ∧ kc ≤ t
def Inv (s : SG) (t : Nat) : Prop := match s with
  | (lv, lev, lo, hi, ri, sz, ky, vl, go, rt, ep, wq, wn, cn, op, cl, ca, ce, kc, nb) => InvF lv lev lo hi ri sz ky vl go rt ep wq wn cn op cl ca ce kc nb 800 t
/-- on the way down -/
def VP (lv : Nat → Bool) (lev lo : Nat → Nat) (go : Nat → Option Nat) (key lvl p : Nat) : Prop := Al lv go p ∧ lo p ≤ key ∧ lvl ≤ lev p
def mu (lev lo : Nat → Nat) (p : Nat) : Nat := 200 + lev p - lo p
section DN
variable {lv : Nat → Bool} {lev lo hi : Nat → Nat} {ri : Nat → Option Nat} {sz ky vl : Nat → Nat} {go : Nat → Option Nat} {rt ep : Nat} {wq : Nat → Nat} {wn cn : Nat} {op : Nat → Bool} {cl ca ce : Nat → Nat} {kc nb : Nat} {o key lvl p : Nat}
theorem nxt_vp (hP : PgI lv lev lo hi ri sz ky vl go rt ep nb o) (hk : key < 200) (hv : VP lv lev lo go key lvl p) :
    (nxt lev hi ri sz ky vl key lvl p = none ∧ lev p = lvl ∧ key < hi p) ∨ ∃ r, nxt lev hi ri sz ky vl key lvl p = some r ∧ VP lv lev lo go key lvl r ∧ mu lev lo r < mu lev lo p ∧ ((hi p ≤ key ∧ ri p = some r ∧ lev r = lev p) ∨ (key < hi p ∧ lvl < lev p ∧ lev r < lev p ∧ 0 < cnt (sz p) (pk ky p) (key + 1) ∧ r = vl (5 * p + (cnt (sz p) (pk ky p) (key + 1) - 1)))) := by
  obtain ⟨p1, p2, p3, p4, p5, p6, p7, p8, p9, p10⟩ := hP
  obtain ⟨⟨v1, v2⟩, v3, v4⟩ := hv
  obtain ⟨a1, a2, a3, a4, a5⟩ := p1 p v1
  unfold nxt
  by_cases c : hi p ≤ key
  · rw [if_pos c]
    cases hr : ri p with
    | none => have := p3 p v1 hr; omega
    | some r =>
      obtain ⟨b1, b2, b3, b4, b5⟩ := p4 p r v1 hr
      exact Or.inr ⟨r, rfl, ⟨⟨b1, b4 v2⟩, by omega, by omega⟩, by unfold mu; omega, Or.inl ⟨c, rfl, b2⟩⟩
  · rw [if_neg c]
    by_cases c2 : lvl < lev p
    · rw [if_pos c2]
      obtain ⟨b1, b2, b3⟩ := p6 p ⟨v1, v2⟩ (by omega)
      have hc0 : 0 < cnt (sz p) (pk ky p) (key + 1) := by
        rcases Nat.eq_zero_or_pos (cnt (sz p) (pk ky p) (key + 1)) with h | h
        · have := cnt_ge (sz p) (pk ky p) (key + 1) 0 (by omega) (by omega)
          simp only [pk, Nat.add_zero] at this
          omega
        · exact h
      have hle := cnt_le (sz p) (pk ky p) (key + 1)
      have hlt := cnt_lt (sz p) (pk ky p) (key + 1) hc0
      have hsz : sz p ≤ 5 := by split at a5 <;> omega
      obtain ⟨d1, d2, d3⟩ := b3 (cnt (sz p) (pk ky p) (key + 1) - 1) (by omega)
      obtain ⟨e1, -⟩ := p2 p v1 (cnt (sz p) (pk ky p) (key + 1) - 1) (by omega)
      simp only [pk] at hlt
      exact Or.inr ⟨_, rfl, ⟨d1, by rw [d3]; omega, by omega⟩, by unfold mu; rw [d3]; omega, Or.inr ⟨by omega, c2, by omega, hc0, rfl⟩⟩
    · rw [if_neg c2]
      exact Or.inl ⟨rfl, by omega, by omega⟩
theorem dnF_fuel (hP : PgI lv lev lo hi ri sz ky vl go rt ep nb o) (hk : key < 200) : ∀ (f g p : Nat), VP lv lev lo go key lvl p → mu lev lo p < f → mu lev lo p < g → dnF lev hi ri sz ky vl key lvl f p = dnF lev hi ri sz ky vl key lvl g p := by
  intro f
  induction f with
  | zero => intro g p _ h; omega
  | succ f ih =>
    intro g p hv h1 h2
    cases g with
    | zero => omega
    | succ g =>
      unfold dnF
      rcases nxt_vp hP hk hv with ⟨hn, -, -⟩ | ⟨r, hn, hr, hm, -⟩
      · rw [hn]
      · rw [hn]
        dsimp only
        rw [ih g r hr (by omega) (by omega)]
theorem dnF_at (hP : PgI lv lev lo hi ri sz ky vl go rt ep nb o) (hk : key < 200) : ∀ (f p : Nat), VP lv lev lo go key lvl p → mu lev lo p < f → Al lv go (dnF lev hi ri sz ky vl key lvl f p).1 ∧ lev (dnF lev hi ri sz ky vl key lvl f p).1 = lvl ∧ lo (dnF lev hi ri sz ky vl key lvl f p).1 ≤ key ∧ key < hi (dnF lev hi ri sz ky vl key lvl f p).1 := by
  intro f
  induction f with
  | zero => intro p _ h; omega
  | succ f ih =>
    intro p hv h1
    unfold dnF
    rcases nxt_vp hP hk hv with ⟨hn, h2, h3⟩ | ⟨r, hn, hr, hm, -⟩
    · rw [hn]; exact ⟨hv.1, h2, hv.2.1, h3⟩
    · rw [hn]; exact ih r hr (by omega)
theorem vp_root (hP : PgI lv lev lo hi ri sz ky vl go rt ep nb o) (hl : lvl ≤ lev rt) : VP lv lev lo go key lvl rt := by
  obtain ⟨p1, p2, p3, p4, p5, p6, p7, ⟨p8, p8'⟩, p9, p10⟩ := hP
  exact ⟨p8, by omega, hl⟩
theorem mu_root (hP : PgI lv lev lo hi ri sz ky vl go rt ep nb o) (hn : nb ≤ 513) : mu lev lo rt < 800 := by
  obtain ⟨p1, p2, p3, p4, p5, p6, p7, p8, p9, p10⟩ := hP
  unfold mu; omega
/-- the page for a key at a level is one alone -/
theorem at_one (hP : PgI lv lev lo hi ri sz ky vl go rt ep nb o) {n m : Nat} (hn : Al lv go n) (hm : Al lv go m) (hl : lev n = lev m) (h1 : lo n ≤ key) (h2 : key < hi n) (h3 : lo m ≤ key) (h4 : key < hi m) : n = m := by
  obtain ⟨p1, p2, p3, p4, p5, p6, p7, p8, p9, p10⟩ := hP
  by_cases e : n = m
  · exact e
  · rcases p5 n m hn hm hl e with h | h <;> omega
theorem frF_spec : ∀ (f n : Nat), (∃ j, n ≤ j ∧ j < n + f ∧ lv j = false) → (∀ j, j < n → lv j = true) → lv (frF lv f n) = false ∧ (∀ j, j < frF lv f n → lv j = true) ∧ frF lv f n < n + f := by
  intro f
  induction f with
  | zero => rintro n ⟨j, h1, h2, h3⟩ _; omega
  | succ f ih =>
    rintro n ⟨j, h1, h2, h3⟩ h4
    unfold frF
    by_cases c : lv n = true
    · rw [if_pos c]
      have hj : j ≠ n := by rintro rfl; rw [c] at h3; cases h3
      obtain ⟨a, b, d⟩ := ih (n + 1) ⟨j, by omega, by omega, h3⟩ (fun k hk => by
        rcases Nat.lt_or_ge k n with q | q
        · exact h4 k q
        · have : k = n := by omega
          subst this; exact c)
      exact ⟨a, b, by omega⟩
    · rw [if_neg c]
      exact ⟨by simpa using c, h4, by omega⟩
theorem fr_spec (hP : PgI lv lev lo hi ri sz ky vl go rt ep nb o) (hn : nb ≤ 513) : lv (fr lv) = false ∧ (∀ j, j < fr lv → lv j = true) ∧ fr lv ≤ nb := by
  have hb : lv nb = false := by
    cases h : lv nb with
    | false => rfl
    | true => have := (hP.1 nb h).1; omega
  obtain ⟨a, b, d⟩ := frF_spec (lv := lv) 800 0 ⟨nb, Nat.zero_le _, by omega, hb⟩ (fun j hj => by omega)
  refine ⟨a, b, ?_⟩
  rcases Nat.lt_or_ge nb (fr lv) with q | q
  · have := b nb q
    rw [hb] at this; cases this
  · exact q
end DN

