/-! The calls keep what holds. -/
section KP
variable {lv : Nat → Bool} {lev lo hi : Nat → Nat} {ri : Nat → Option Nat} {sz ky vl : Nat → Nat} {go : Nat → Option Nat} {rt ep : Nat} {wq : Nat → Nat} {wn cn : Nat} {op : Nat → Bool} {cl ca ce : Nat → Nat} {kc nb : Nat} {o t : Nat}
theorem insA_lt {f : Nat → Nat} {p c n x i : Nat} (h : i < c) : insA f p c n x (5 * p + i) = f (5 * p + i) := by
  unfold insA; rw [if_neg (by omega), if_neg (by omega)]
theorem insA_eq {f : Nat → Nat} {p c n x : Nat} : insA f p c n x (5 * p + c) = x := by
  unfold insA; rw [if_pos rfl]
theorem insA_gt {f : Nat → Nat} {p c n x i : Nat} (h : c < i) (h2 : i ≤ n) : insA f p c n x (5 * p + i) = f (5 * p + (i - 1)) := by
  unfold insA; rw [if_neg (by omega), if_pos (by omega)]; congr 1; omega
theorem insA_ne {f : Nat → Nat} {p c n x q i : Nat} (h : q ≠ p) (hc : c ≤ n) (h2 : n ≤ 4) (h3 : i < 5) : insA f p c n x (5 * q + i) = f (5 * q + i) := by
  unfold insA; rw [if_neg (by omega), if_neg (by omega)]
theorem delA_lt {f : Nat → Nat} {p j n i : Nat} (h : i < j) : delA f p j n (5 * p + i) = f (5 * p + i) := by
  unfold delA; rw [if_neg (by omega)]
theorem delA_ge {f : Nat → Nat} {p j n i : Nat} (h : j ≤ i) (h2 : i + 1 < n) : delA f p j n (5 * p + i) = f (5 * p + (i + 1)) := by
  unfold delA; rw [if_pos (by omega)]; congr 1
theorem delA_ne {f : Nat → Nat} {p j n q i : Nat} (h : q ≠ p) (h2 : n ≤ 5) (h3 : i < 5) : delA f p j n (5 * q + i) = f (5 * q + i) := by
  unfold delA; rw [if_neg (by omega)]
theorem pgi_s5 (hP : PgI lv lev lo hi ri sz ky vl go rt ep nb o) {n : Nat} (h : lv n = true) : sz n ≤ 5 := by
  have := (hP.1 n h).2.2.2.2
  split at this <;> omega
theorem pgi_s4 (hP : PgI lv lev lo hi ri sz ky vl go rt ep nb 800) (hb : nb ≤ 513) {n : Nat} (h : lv n = true) : sz n ≤ 4 := by
  have := (hP.1 n h)
  have h1 := this.1
  have := this.2.2.2.2
  rw [if_neg (by omega)] at this; exact this
/-- the place for x in page p -/
theorem cnt_at (hP : PgI lv lev lo hi ri sz ky vl go rt ep nb o) {p x : Nat} (hl : lv p = true) (hx : ∀ k, k < sz p → ky (5 * p + k) ≠ x) :
    (∀ k, k < cnt (sz p) (pk ky p) (x + 1) → ky (5 * p + k) < x) ∧ (∀ k, cnt (sz p) (pk ky p) (x + 1) ≤ k → k < sz p → x < ky (5 * p + k)) := by
  have hle := cnt_le (sz p) (pk ky p) (x + 1)
  constructor
  · intro k hk
    have h1 := cnt_lt (sz p) (pk ky p) (x + 1) (by omega)
    have h2 := hx k (by omega)
    have h3 := hP.2.1 p hl (cnt (sz p) (pk ky p) (x + 1) - 1) (by omega)
    simp only [pk] at h1
    rcases Nat.lt_or_ge k (cnt (sz p) (pk ky p) (x + 1) - 1) with q | q
    · have := h3.2.2.2 k q; omega
    · have e : k = cnt (sz p) (pk ky p) (x + 1) - 1 := by omega
      rw [← e] at h1; omega
  · intro k h1 h2
    have := cnt_ge (sz p) (pk ky p) (x + 1) k h1 h2
    simp only [pk] at this; omega
theorem keep_ins {p x v : Nat} (hP : PgI lv lev lo hi ri sz ky vl go rt ep nb 800) (hb : nb ≤ 513) (hA : Al lv go p) (hx1 : lo p ≤ x) (hx2 : x < hi p) (hx3 : ∀ k, k < sz p → ky (5 * p + k) ≠ x) (hv : v < 10000) (hv2 : 0 < lev p → Al lv go v ∧ lev v + 1 = lev p ∧ lo v = x) :
    PgI lv lev lo hi ri (va_up sz p (sz p + 1)) (insA ky p (cnt (sz p) (pk ky p) (x + 1)) (sz p) x) (insA vl p (cnt (sz p) (pk ky p) (x + 1)) (sz p) v) go rt ep nb p := by
  have h4 := pgi_s4 hP hb hA.1
  have hc := cnt_le (sz p) (pk ky p) (x + 1)
  obtain ⟨c1, c2⟩ := cnt_at hP hA.1 hx3
  generalize cnt (sz p) (pk ky p) (x + 1) = c at hc c1 c2 ⊢
  have hP0 := hP
  obtain ⟨p1, p2, p3, p4, p5, p6, p7, p8, p9, p10⟩ := hP
  have q2 := p2 p hA.1
  have szp : va_up sz p (sz p + 1) p = sz p + 1 := va_up_self _ _ _
  have szn : ∀ n, n ≠ p → va_up sz p (sz p + 1) n = sz n := fun n h => va_up_ne _ _ h
  refine ⟨?_, ?_, p3, p4, p5, ?_, ?_, p8, p9, p10⟩
  · intro n hn
    obtain ⟨a1, a2, a3, a4, a5⟩ := p1 n hn
    refine ⟨a1, a2, a3, a4, ?_⟩
    by_cases e : n = p
    · subst e; rw [if_pos rfl, szp]; omega
    · rw [if_neg e, szn n e]; exact pgi_s4 hP0 hb hn
  · intro n hn k hk
    by_cases e : n = p
    · subst e
      rw [szp] at hk
      have kx : ∀ i, i < sz n + 1 → (lo n ≤ insA ky n c (sz n) x (5 * n + i) ∧ insA ky n c (sz n) x (5 * n + i) < hi n ∧ insA vl n c (sz n) v (5 * n + i) < 10000) ∧ (i < c → insA ky n c (sz n) x (5 * n + i) = ky (5 * n + i)) ∧ (i = c → insA ky n c (sz n) x (5 * n + i) = x) ∧ (c < i → insA ky n c (sz n) x (5 * n + i) = ky (5 * n + (i - 1))) := by
        intro i hi9
        rcases Nat.lt_trichotomy i c with h | h | h
        · rw [insA_lt h, insA_lt h]
          obtain ⟨b1, b2, b3, -⟩ := q2 i (by omega)
          exact ⟨⟨b1, b2, b3⟩, fun _ => rfl, fun e => absurd e (by omega), fun e => absurd e (by omega)⟩
        · subst h
          rw [insA_eq, insA_eq]
          exact ⟨⟨hx1, hx2, hv⟩, fun e => absurd e (by omega), fun _ => rfl, fun e => absurd e (by omega)⟩
        · rw [insA_gt h (by omega), insA_gt h (by omega)]
          obtain ⟨b1, b2, b3, -⟩ := q2 (i - 1) (by omega)
          exact ⟨⟨b1, b2, b3⟩, fun e => absurd e (by omega), fun e => absurd e (by omega), fun _ => rfl⟩
      obtain ⟨⟨k1, k2, k3⟩, k4, k5, k6⟩ := kx k hk
      refine ⟨k1, k2, k3, ?_⟩
      intro j hj
      obtain ⟨-, j4, j5, j6⟩ := kx j (by omega)
      rcases Nat.lt_trichotomy k c with h | h | h
      · rw [k4 h, j4 (by omega)]; exact (q2 k (by omega)).2.2.2 j hj
      · rw [k5 h, j4 (by omega)]; exact c1 j (by omega)
      · rw [k6 h]
        rcases Nat.lt_trichotomy j c with g | g | g
        · rw [j4 g]; exact (q2 (k - 1) (by omega)).2.2.2 j (by omega)
        · rw [j5 g]; exact c2 (k - 1) (by omega) (by omega)
        · rw [j6 g]; exact (q2 (k - 1) (by omega)).2.2.2 (j - 1) (by omega)
    · rw [szn n e] at hk
      have s5 := pgi_s4 hP0 hb hn
      rw [insA_ne e hc h4 (by omega), insA_ne e hc h4 (by omega)]
      obtain ⟨b1, b2, b3, b4⟩ := p2 n hn k hk
      refine ⟨b1, b2, b3, fun j hj => ?_⟩
      rw [insA_ne e hc h4 (by omega)]; exact b4 j hj
  · intro n hn hl
    obtain ⟨d1, d2, d3⟩ := p6 n hn hl
    by_cases e : n = p
    · subst e
      have hc0 : 0 < c := by
        rcases Nat.eq_zero_or_pos c with h | h
        · have := c2 0 (by omega) (by omega); rw [Nat.add_zero, d2] at this; omega
        · exact h
      have z0 := insA_lt (f := ky) (p := n) (n := sz n) (x := x) hc0
      rw [Nat.add_zero] at z0
      rw [szp, z0]
      refine ⟨by omega, d2, fun k hk => ?_⟩
      rcases Nat.lt_trichotomy k c with h | h | h
      · rw [insA_lt h, insA_lt h]; exact d3 k (by omega)
      · subst h; rw [insA_eq, insA_eq]; exact hv2 hl
      · rw [insA_gt h (by omega), insA_gt h (by omega)]; exact d3 (k - 1) (by omega)
    · rw [szn n e]
      have s5 := pgi_s4 hP0 hb hn.1
      have z0 := insA_ne (f := ky) (x := x) (i := 0) e hc h4 (by omega)
      rw [Nat.add_zero] at z0
      rw [z0]
      refine ⟨d1, d2, fun k hk => ?_⟩
      rw [insA_ne e hc h4 (by omega), insA_ne e hc h4 (by omega)]; exact d3 k hk
  · intro n e hn hg
    have : n ≠ p := by rintro rfl; rw [hA.2] at hg; cases hg
    rw [szn n this]; exact p7 n e hn hg
theorem pgi_o {p : Nat} (hP : PgI lv lev lo hi ri sz ky vl go rt ep nb p) (h : sz p ≤ 4) (hb : nb ≤ 513) : PgI lv lev lo hi ri sz ky vl go rt ep nb 800 := by
  obtain ⟨p1, p2⟩ := hP
  refine ⟨fun n hn => ?_, p2⟩
  obtain ⟨a1, a2, a3, a4, a5⟩ := p1 n hn
  refine ⟨a1, a2, a3, a4, ?_⟩
  rw [if_neg (by omega)]
  by_cases e : n = p
  · subst e; exact h
  · rw [if_neg e] at a5; exact a5
end KP
section KP2
variable {lv : Nat → Bool} {lev lo hi : Nat → Nat} {ri : Nat → Option Nat} {sz ky vl : Nat → Nat} {go : Nat → Option Nat} {rt ep : Nat} {wq : Nat → Nat} {wn cn : Nat} {op : Nat → Bool} {cl ca ce : Nat → Nat} {kc nb : Nat} {o t : Nat}
theorem keep_spl {p m : Nat} (hP : PgI lv lev lo hi ri sz ky vl go rt ep nb p) (hA : Al lv go p) (h5 : sz p = 5) (hm : lv m = false) (hmn : m ≤ nb) (hb : nb ≤ 513) :
    PgI (va_up lv m true) (va_up lev m (lev p)) (va_up lo m (ky (5 * p + 3))) (va_up (va_up hi m (hi p)) p (ky (5 * p + 3))) (va_up (va_up ri m (ri p)) p (some m)) (va_up (va_up sz m 2) p 3) (va_up (va_up ky (5 * m) (ky (5 * p + 3))) (5 * m + 1) (ky (5 * p + 4))) (va_up (va_up vl (5 * m) (vl (5 * p + 3))) (5 * m + 1) (vl (5 * p + 4))) (va_up go m none) rt ep (nb + 1) 800 := by
  have hP0 := hP
  have hmp : m ≠ p := by rintro rfl; have := hA.1; rw [hm] at this; cases this
  have hpm : p ≠ m := fun e => hmp e.symm
  have nem : ∀ n, lv n = true → n ≠ m := by rintro n hn rfl; rw [hm] at hn; cases hn
  have alm : ∀ n, Al (va_up lv m true) (va_up go m none) n → n ≠ m → Al lv go n := by
    rintro n ⟨h1, h2⟩ h; rw [va_up_ne _ _ h] at h1 h2; exact ⟨h1, h2⟩
  have alk : ∀ n, Al lv go n → Al (va_up lv m true) (va_up go m none) n := by
    rintro n ⟨h1, h2⟩; unfold Al; rw [va_up_ne _ _ (nem n h1), va_up_ne _ _ (nem n h1)]; exact ⟨h1, h2⟩
  obtain ⟨p1, p2, p3, p4, p5, p6, p7, ⟨p8, p8'⟩, ⟨p9, p9', p9''⟩, p10⟩ := hP
  obtain ⟨a1, a2, a3, a4, a5⟩ := p1 p hA.1
  have q2 := p2 p hA.1
  have x3 := q2 3 (by omega)
  have x4 := q2 4 (by omega)
  have x03 := x3.2.2.2 0 (by omega)
  have x34 := x4.2.2.2 3 (by omega)
  have x0 := q2 0 (by omega)
  have kyo : ∀ n i, n ≠ m → i < 5 → va_up (va_up ky (5 * m) (ky (5 * p + 3))) (5 * m + 1) (ky (5 * p + 4)) (5 * n + i) = ky (5 * n + i) := fun n i h h2 => by rw [va_up_ne _ _ (by omega), va_up_ne _ _ (by omega)]
  have vlo : ∀ n i, n ≠ m → i < 5 → va_up (va_up vl (5 * m) (vl (5 * p + 3))) (5 * m + 1) (vl (5 * p + 4)) (5 * n + i) = vl (5 * n + i) := fun n i h h2 => by rw [va_up_ne _ _ (by omega), va_up_ne _ _ (by omega)]
  have ky0 : va_up (va_up ky (5 * m) (ky (5 * p + 3))) (5 * m + 1) (ky (5 * p + 4)) (5 * m) = ky (5 * p + 3) := by rw [va_up_ne _ _ (by omega), va_up_self]
  have ky1 : va_up (va_up ky (5 * m) (ky (5 * p + 3))) (5 * m + 1) (ky (5 * p + 4)) (5 * m + 1) = ky (5 * p + 4) := va_up_self _ _ _
  have vl0 : va_up (va_up vl (5 * m) (vl (5 * p + 3))) (5 * m + 1) (vl (5 * p + 4)) (5 * m) = vl (5 * p + 3) := by rw [va_up_ne _ _ (by omega), va_up_self]
  have vl1 : va_up (va_up vl (5 * m) (vl (5 * p + 3))) (5 * m + 1) (vl (5 * p + 4)) (5 * m + 1) = vl (5 * p + 4) := va_up_self _ _ _
  have hip : va_up (va_up hi m (hi p)) p (ky (5 * p + 3)) p = ky (5 * p + 3) := va_up_self _ _ _
  have him : va_up (va_up hi m (hi p)) p (ky (5 * p + 3)) m = hi p := by rw [va_up_ne _ _ hmp, va_up_self]
  have hio : ∀ n, n ≠ m → n ≠ p → va_up (va_up hi m (hi p)) p (ky (5 * p + 3)) n = hi n := fun n h h2 => by rw [va_up_ne _ _ h2, va_up_ne _ _ h]
  have rip : va_up (va_up ri m (ri p)) p (some m) p = some m := va_up_self _ _ _
  have rim : va_up (va_up ri m (ri p)) p (some m) m = ri p := by rw [va_up_ne _ _ hmp, va_up_self]
  have rio : ∀ n, n ≠ m → n ≠ p → va_up (va_up ri m (ri p)) p (some m) n = ri n := fun n h h2 => by rw [va_up_ne _ _ h2, va_up_ne _ _ h]
  have szp : va_up (va_up sz m 2) p 3 p = 3 := va_up_self _ _ _
  have szm : va_up (va_up sz m 2) p 3 m = 2 := by rw [va_up_ne _ _ hmp, va_up_self]
  have szo : ∀ n, n ≠ m → n ≠ p → va_up (va_up sz m 2) p 3 n = sz n := fun n h h2 => by rw [va_up_ne _ _ h2, va_up_ne _ _ h]
  have levm : va_up lev m (lev p) m = lev p := va_up_self _ _ _
  have levo : ∀ n, n ≠ m → va_up lev m (lev p) n = lev n := fun n h => va_up_ne _ _ h
  have lom : va_up lo m (ky (5 * p + 3)) m = ky (5 * p + 3) := va_up_self _ _ _
  have loo : ∀ n, n ≠ m → va_up lo m (ky (5 * p + 3)) n = lo n := fun n h => va_up_ne _ _ h
  have gom : va_up go m none m = none := va_up_self _ _ _
  have goo : ∀ n, n ≠ m → va_up go m none n = go n := fun n h => va_up_ne _ _ h
  have lvo : ∀ n, n ≠ m → va_up lv m true n = lv n := fun n h => va_up_ne _ _ h
  have lvm : va_up lv m true m = true := va_up_self _ _ _
  have szle : ∀ n, lv n = true → n ≠ p → sz n ≤ 4 := by
    intro n hn hnp; have := (p1 n hn).2.2.2.2; rw [if_neg hnp] at this; exact this
  simp only [Nat.add_zero] at x0 x03
  refine ⟨?_, ?_, ?_, ?_, ?_, ?_, ?_, ⟨alk _ p8, by rw [loo _ (nem _ p8.1)]; exact p8'⟩, ⟨alk _ p9, by rw [levo _ (nem _ p9.1)]; exact p9', by rw [loo _ (nem _ p9.1)]; exact p9''⟩, by rw [levo _ (nem _ p8.1)]; omega⟩
  · intro n hn
    rw [levo rt (nem _ p8.1)]
    by_cases e : n = m
    · subst e; rw [levm, lom, him, szm, if_neg (by omega)]; omega
    · rw [lvo n e] at hn
      have b := p1 n hn
      rw [levo n e, loo n e]
      by_cases e2 : n = p
      · subst e2; rw [hip, szp, if_neg (by omega)]; omega
      · have := szle n hn e2
        rw [hio n e e2, szo n e e2, if_neg (by omega)]; omega
  · intro n hn k hk
    by_cases e : n = m
    · subst e; rw [szm] at hk
      rw [lom, him]
      rcases (by omega : k = 0 ∨ k = 1) with rfl | rfl
      · rw [show (5 * n + 0 : Nat) = 5 * n from rfl, ky0, vl0]; exact ⟨by omega, by omega, by omega, fun j hj => by omega⟩
      · rw [ky1, vl1]; refine ⟨by omega, by omega, by omega, fun j hj => ?_⟩
        obtain rfl : j = 0 := by omega
        rw [show (5 * n + 0 : Nat) = 5 * n from rfl, ky0]; exact x34
    · rw [lvo n e] at hn
      rw [loo n e]
      by_cases e2 : n = p
      · subst e2; rw [szp] at hk
        rw [hip, kyo n k e (by omega), vlo n k e (by omega)]
        obtain ⟨b1, b2, b3, b4⟩ := q2 k (by omega)
        refine ⟨b1, x3.2.2.2 k (by omega), b3, fun j hj => ?_⟩
        rw [kyo n j e (by omega)]; exact b4 j hj
      · rw [szo n e e2] at hk
        have := szle n hn e2
        rw [hio n e e2, kyo n k e (by omega), vlo n k e (by omega)]
        obtain ⟨b1, b2, b3, b4⟩ := p2 n hn k hk
        refine ⟨b1, b2, b3, fun j hj => ?_⟩
        rw [kyo n j e (by omega)]; exact b4 j hj
  · intro n hn hr
    by_cases e : n = m
    · subst e; rw [rim] at hr; rw [him]; exact p3 p hA.1 hr
    · rw [lvo n e] at hn
      by_cases e2 : n = p
      · subst e2; rw [rip] at hr; cases hr
      · rw [rio n e e2] at hr; rw [hio n e e2]; exact p3 n hn hr
  · intro n r hn hr
    by_cases e : n = m
    · subst e; rw [rim] at hr
      obtain ⟨b1, b2, b3, b4, b5⟩ := p4 p r hA.1 hr
      have hrm := nem r b1
      rw [lvo r hrm, levo r hrm, loo r hrm, goo r hrm, levm, him, gom]
      exact ⟨b1, b2, b3, fun _ => b4 hA.2, fun a b h => by cases h⟩
    · rw [lvo n e] at hn
      by_cases e2 : n = p
      · subst e2; rw [rip] at hr; cases hr
        rw [lvm, levm, lom, hip, gom, levo n e, goo n e]
        exact ⟨rfl, rfl, rfl, fun _ => rfl, fun a b h h2 => by cases h2⟩
      · rw [rio n e e2] at hr
        obtain ⟨b1, b2, b3, b4, b5⟩ := p4 n r hn hr
        have hrm := nem r b1
        rw [lvo r hrm, levo r hrm, loo r hrm, goo r hrm, levo n e, hio n e e2, goo n e]
        exact ⟨b1, b2, b3, b4, b5⟩
  · intro n k hn hk hl hne
    have old : ∀ n, Al (va_up lv m true) (va_up go m none) n → n ≠ m → n ≠ p → lev n = lev p → hi n ≤ lo p ∨ hi p ≤ lo n := fun n h1 h2 h3 h4 => p5 n p (alm n h1 h2) hA h4 h3
    by_cases e : n = m
    · subst e
      have ek : k ≠ n := fun h => hne h.symm
      rw [levm, levo k ek] at hl
      rw [him, lom, loo k ek]
      by_cases e2 : k = p
      · subst e2; rw [hip]; omega
      · rw [hio k ek e2]
        have := p5 k p (alm k hk ek) hA hl.symm e2
        omega
    · rw [levo n e] at hl
      by_cases e2 : n = p
      · subst e2
        by_cases ek : k = m
        · subst ek; rw [hip, lom]; omega
        · rw [levo k ek] at hl
          rw [hip, loo n e, loo k ek, hio k ek (fun h => hne h.symm)]
          have := p5 n k hA (alm k hk ek) hl hne
          omega
      · rw [hio n e e2, loo n e]
        by_cases ek : k = m
        · subst ek; rw [levm] at hl; rw [him, lom]
          have := p5 n p (alm n hn e) hA hl e2
          omega
        · rw [levo k ek] at hl; rw [loo k ek]
          by_cases e3 : k = p
          · subst e3; rw [hip]
            have := p5 n k (alm n hn e) hA hl hne
            omega
          · rw [hio k ek e3]; exact p5 n k (alm n hn e) (alm k hk ek) hl hne
  · intro n hn hl
    by_cases e : n = m
    · subst e; rw [levm] at hl
      obtain ⟨d1, d2, d3⟩ := p6 p hA hl
      have d33 := d3 3 (by omega)
      have d34 := d3 4 (by omega)
      rw [szm, ky0, lom]
      refine ⟨by omega, rfl, fun k hk => ?_⟩
      rcases (by omega : k = 0 ∨ k = 1) with rfl | rfl
      · have z := nem _ d33.1.1
        rw [show (5 * n + 0 : Nat) = 5 * n from rfl, vl0, ky0, levm, levo _ z, loo _ z]
        exact ⟨alk _ d33.1, d33.2⟩
      · have z := nem _ d34.1.1
        rw [vl1, ky1, levm, levo _ z, loo _ z]
        exact ⟨alk _ d34.1, d34.2⟩
    · rw [levo n e] at hl
      have hn' := alm n hn e
      obtain ⟨d1, d2, d3⟩ := p6 n hn' hl
      have z0 := kyo n 0 e (by omega)
      rw [Nat.add_zero (5 * n)] at z0
      have sz5 : sz n ≤ 5 := pgi_s5 hP0 hn'.1
      have main : ∀ k, k < sz n → Al (va_up lv m true) (va_up go m none) (va_up (va_up vl (5 * m) (vl (5 * p + 3))) (5 * m + 1) (vl (5 * p + 4)) (5 * n + k)) ∧ va_up lev m (lev p) (va_up (va_up vl (5 * m) (vl (5 * p + 3))) (5 * m + 1) (vl (5 * p + 4)) (5 * n + k)) + 1 = lev n ∧ va_up lo m (ky (5 * p + 3)) (va_up (va_up vl (5 * m) (vl (5 * p + 3))) (5 * m + 1) (vl (5 * p + 4)) (5 * n + k)) = va_up (va_up ky (5 * m) (ky (5 * p + 3))) (5 * m + 1) (ky (5 * p + 4)) (5 * n + k) := by
        intro k hk
        obtain ⟨f1, f2⟩ := d3 k hk
        have z := nem _ f1.1
        rw [vlo n k e (by omega), kyo n k e (by omega), levo _ z, loo _ z]
        exact ⟨alk _ f1, f2⟩
      rw [z0, loo n e, levo n e]
      by_cases e2 : n = p
      · subst e2; rw [szp]; exact ⟨by omega, d2, fun k hk => main k (by omega)⟩
      · rw [szo n e e2]; exact ⟨d1, d2, main⟩
  · intro n x hn hg
    have e : n ≠ m := by rintro rfl; rw [gom] at hg; cases hg
    rw [goo n e] at hg; rw [lvo n e] at hn
    have e2 : n ≠ p := by rintro rfl; rw [hA.2] at hg; cases hg
    rw [levo n e, szo n e e2]; exact p7 n x hn hg
end KP2
section KP3
variable {lv : Nat → Bool} {lev lo hi : Nat → Nat} {ri : Nat → Option Nat} {sz ky vl : Nat → Nat} {go : Nat → Option Nat} {rt ep : Nat} {wq : Nat → Nat} {wn cn : Nat} {op : Nat → Bool} {cl ca ce : Nat → Nat} {kc nb : Nat} {o t : Nat}
theorem keep_gro {w m : Nat} (hP : PgI lv lev lo hi ri sz ky vl go rt ep nb 800) (hA : Al lv go w) (hw : w ≠ rt) (hlw : lev w = lev rt) (hm : lv m = false) (hmn : m ≤ nb) (hb : nb ≤ 513) :
    PgI (va_up lv m true) (va_up lev m (lev w + 1)) (va_up lo m 0) (va_up hi m 200) (va_up ri m none) (va_up sz m 2) (va_up (va_up ky (5 * m) 0) (5 * m + 1) (lo w)) (va_up (va_up vl (5 * m) rt) (5 * m + 1) w) (va_up go m none) m ep (nb + 1) 800 := by
  have hP0 := hP
  have nem : ∀ n, lv n = true → n ≠ m := by rintro n hn rfl; rw [hm] at hn; cases hn
  have hwm := nem w hA.1
  have alm : ∀ n, Al (va_up lv m true) (va_up go m none) n → n ≠ m → Al lv go n := by
    rintro n ⟨h1, h2⟩ h; rw [va_up_ne _ _ h] at h1 h2; exact ⟨h1, h2⟩
  have alk : ∀ n, Al lv go n → Al (va_up lv m true) (va_up go m none) n := by
    rintro n ⟨h1, h2⟩; unfold Al; rw [va_up_ne _ _ (nem n h1), va_up_ne _ _ (nem n h1)]; exact ⟨h1, h2⟩
  obtain ⟨p1, p2, p3, p4, p5, p6, p7, ⟨p8, p8'⟩, ⟨p9, p9', p9''⟩, p10⟩ := hP
  have hrm := nem rt p8.1
  obtain ⟨a1, a2, a3, a4, a5⟩ := p1 w hA.1
  obtain ⟨r1, r2, r3, r4, r5⟩ := p1 rt p8.1
  have low : 0 < lo w := by rcases p5 w rt hA p8 hlw hw with h | h <;> omega
  have kyo : ∀ n i, n ≠ m → i < 5 → va_up (va_up ky (5 * m) 0) (5 * m + 1) (lo w) (5 * n + i) = ky (5 * n + i) := fun n i h h2 => by rw [va_up_ne _ _ (by omega), va_up_ne _ _ (by omega)]
  have vlo : ∀ n i, n ≠ m → i < 5 → va_up (va_up vl (5 * m) rt) (5 * m + 1) w (5 * n + i) = vl (5 * n + i) := fun n i h h2 => by rw [va_up_ne _ _ (by omega), va_up_ne _ _ (by omega)]
  have ky0 : va_up (va_up ky (5 * m) 0) (5 * m + 1) (lo w) (5 * m) = 0 := by rw [va_up_ne _ _ (by omega), va_up_self]
  have ky1 : va_up (va_up ky (5 * m) 0) (5 * m + 1) (lo w) (5 * m + 1) = lo w := va_up_self _ _ _
  have vl0 : va_up (va_up vl (5 * m) rt) (5 * m + 1) w (5 * m) = rt := by rw [va_up_ne _ _ (by omega), va_up_self]
  have vl1 : va_up (va_up vl (5 * m) rt) (5 * m + 1) w (5 * m + 1) = w := va_up_self _ _ _
  have him : va_up hi m 200 m = 200 := va_up_self _ _ _
  have hio : ∀ n, n ≠ m → va_up hi m 200 n = hi n := fun n h => va_up_ne _ _ h
  have rim : va_up ri m none m = none := va_up_self _ _ _
  have rio : ∀ n, n ≠ m → va_up ri m none n = ri n := fun n h => va_up_ne _ _ h
  have szm : va_up sz m 2 m = 2 := va_up_self _ _ _
  have szo : ∀ n, n ≠ m → va_up sz m 2 n = sz n := fun n h => va_up_ne _ _ h
  have levm : va_up lev m (lev w + 1) m = lev w + 1 := va_up_self _ _ _
  have levo : ∀ n, n ≠ m → va_up lev m (lev w + 1) n = lev n := fun n h => va_up_ne _ _ h
  have lom : va_up lo m 0 m = 0 := va_up_self _ _ _
  have loo : ∀ n, n ≠ m → va_up lo m 0 n = lo n := fun n h => va_up_ne _ _ h
  have gom : va_up go m none m = none := va_up_self _ _ _
  have goo : ∀ n, n ≠ m → va_up go m none n = go n := fun n h => va_up_ne _ _ h
  have lvo : ∀ n, n ≠ m → va_up lv m true n = lv n := fun n h => va_up_ne _ _ h
  have lvm : va_up lv m true m = true := va_up_self _ _ _
  refine ⟨?_, ?_, ?_, ?_, ?_, ?_, ?_, ⟨⟨lvm, gom⟩, lom⟩, ⟨alk _ p9, by rw [levo _ (nem _ p9.1)]; exact p9', by rw [loo _ (nem _ p9.1)]; exact p9''⟩, by rw [levm]; omega⟩
  · intro n hn
    rw [levm]
    by_cases e : n = m
    · subst e; rw [levm, lom, him, szm, if_neg (by omega)]; omega
    · rw [lvo n e] at hn
      have b := p1 n hn
      rw [levo n e, loo n e, hio n e, szo n e, if_neg (by omega)]
      have := pgi_s4 hP0 hb hn
      omega
  · intro n hn k hk
    by_cases e : n = m
    · subst e; rw [szm] at hk
      rw [lom, him]
      rcases (by omega : k = 0 ∨ k = 1) with rfl | rfl
      · rw [show (5 * n + 0 : Nat) = 5 * n from rfl, ky0, vl0]; exact ⟨by omega, by omega, by omega, fun j hj => by omega⟩
      · rw [ky1, vl1]; refine ⟨by omega, by omega, by omega, fun j hj => ?_⟩
        obtain rfl : j = 0 := by omega
        rw [show (5 * n + 0 : Nat) = 5 * n from rfl, ky0]; exact low
    · rw [lvo n e] at hn
      rw [szo n e] at hk
      have := pgi_s4 hP0 hb hn
      rw [loo n e, hio n e, kyo n k e (by omega), vlo n k e (by omega)]
      obtain ⟨b1, b2, b3, b4⟩ := p2 n hn k hk
      refine ⟨b1, b2, b3, fun j hj => ?_⟩
      rw [kyo n j e (by omega)]; exact b4 j hj
  · intro n hn hr
    by_cases e : n = m
    · subst e; exact him
    · rw [lvo n e] at hn; rw [rio n e] at hr; rw [hio n e]; exact p3 n hn hr
  · intro n r hn hr
    by_cases e : n = m
    · subst e; rw [rim] at hr; cases hr
    · rw [lvo n e] at hn; rw [rio n e] at hr
      obtain ⟨b1, b2, b3, b4, b5⟩ := p4 n r hn hr
      have hrm := nem r b1
      rw [lvo r hrm, levo r hrm, loo r hrm, goo r hrm, levo n e, hio n e, goo n e]
      exact ⟨b1, b2, b3, b4, b5⟩
  · intro n k hn hk hl hne
    by_cases e : n = m
    · subst e
      have ek : k ≠ n := fun h => hne h.symm
      rw [levm, levo k ek] at hl
      have := (p1 k (alm k hk ek).1).2.1; omega
    · rw [levo n e] at hl
      by_cases ek : k = m
      · subst ek; rw [levm] at hl
        have := (p1 n (alm n hn e).1).2.1; omega
      · rw [levo k ek] at hl; rw [loo k ek, loo n e, hio n e, hio k ek]
        exact p5 n k (alm n hn e) (alm k hk ek) hl hne
  · intro n hn hl
    by_cases e : n = m
    · subst e
      rw [szm, ky0, lom]
      refine ⟨by omega, rfl, fun k hk => ?_⟩
      rcases (by omega : k = 0 ∨ k = 1) with rfl | rfl
      · rw [show (5 * n + 0 : Nat) = 5 * n from rfl, vl0, ky0, levm, levo _ hrm, loo _ hrm]
        exact ⟨alk _ p8, by omega, p8'⟩
      · rw [vl1, ky1, levm, levo _ hwm, loo _ hwm]
        exact ⟨alk _ hA, rfl, rfl⟩
    · rw [levo n e] at hl
      have hn' := alm n hn e
      obtain ⟨d1, d2, d3⟩ := p6 n hn' hl
      have z0 := kyo n 0 e (by omega)
      rw [Nat.add_zero (5 * n)] at z0
      have sz5 : sz n ≤ 5 := pgi_s5 hP0 hn'.1
      rw [z0, loo n e, levo n e, szo n e]
      refine ⟨d1, d2, fun k hk => ?_⟩
      obtain ⟨f1, f2⟩ := d3 k hk
      have z := nem _ f1.1
      rw [vlo n k e (by omega), kyo n k e (by omega), levo _ z, loo _ z]
      exact ⟨alk _ f1, f2⟩
  · intro n x hn hg
    have e : n ≠ m := by rintro rfl; rw [gom] at hg; cases hg
    rw [goo n e] at hg; rw [lvo n e] at hn
    rw [levo n e, szo n e]; exact p7 n x hn hg
theorem keep_rem {p j : Nat} (hP : PgI lv lev lo hi ri sz ky vl go rt ep nb 800) (hb : nb ≤ 513) (hA : Al lv go p) (hj : j < sz p) (h0 : 0 < lev p → 0 < j) :
    PgI lv lev lo hi ri (va_up sz p (sz p - 1)) (delA ky p j (sz p)) (delA vl p j (sz p)) go rt ep nb 800 := by
  have hP0 := hP
  have s4 := pgi_s4 hP hb hA.1
  obtain ⟨p1, p2, p3, p4, p5, p6, p7, p8, p9, p10⟩ := hP
  have q2 := p2 p hA.1
  have szp : va_up sz p (sz p - 1) p = sz p - 1 := va_up_self _ _ _
  have szo : ∀ n, n ≠ p → va_up sz p (sz p - 1) n = sz n := fun n h => va_up_ne _ _ h
  have kyp : ∀ i, i < sz p - 1 → ∃ i2, i2 < sz p ∧ (i < j → i2 = i) ∧ (j ≤ i → i2 = i + 1) ∧ delA ky p j (sz p) (5 * p + i) = ky (5 * p + i2) ∧ delA vl p j (sz p) (5 * p + i) = vl (5 * p + i2) := by
    intro i hi9
    rcases Nat.lt_or_ge i j with h | h
    · exact ⟨i, by omega, fun _ => rfl, fun e => absurd e (by omega), delA_lt h, delA_lt h⟩
    · exact ⟨i + 1, by omega, fun e => absurd e (by omega), fun _ => rfl, delA_ge h (by omega), delA_ge h (by omega)⟩
  refine ⟨?_, ?_, p3, p4, p5, ?_, ?_, p8, p9, p10⟩
  · intro n hn
    obtain ⟨a1, a2, a3, a4, a5⟩ := p1 n hn
    refine ⟨a1, a2, a3, a4, ?_⟩
    by_cases e : n = p
    · subst e; rw [szp]; omega
    · rw [szo n e]; exact a5
  · intro n hn k hk
    by_cases e : n = p
    · subst e; rw [szp] at hk
      obtain ⟨k2, g1, g2, g3, g4, g5⟩ := kyp k hk
      rw [g4, g5]
      obtain ⟨b1, b2, b3, b4⟩ := q2 k2 g1
      refine ⟨b1, b2, b3, fun i hi9 => ?_⟩
      obtain ⟨i2, f1, f2, f3, f4, f5⟩ := kyp i (by omega)
      rw [f4]; exact b4 i2 (by omega)
    · rw [szo n e] at hk
      have := pgi_s4 hP0 hb hn
      rw [delA_ne e (by omega) (by omega), delA_ne e (by omega) (by omega)]
      obtain ⟨b1, b2, b3, b4⟩ := p2 n hn k hk
      refine ⟨b1, b2, b3, fun i hi9 => ?_⟩
      rw [delA_ne e (by omega) (by omega)]; exact b4 i hi9
  · intro n hn hl
    obtain ⟨d1, d2, d3⟩ := p6 n hn hl
    by_cases e : n = p
    · subst e
      have hj0 := h0 hl
      have z0 := delA_lt (f := ky) (p := n) (n := sz n) hj0
      rw [Nat.add_zero (5 * n)] at z0
      rw [szp, z0]
      refine ⟨by omega, d2, fun k hk => ?_⟩
      obtain ⟨k2, g1, g2, g3, g4, g5⟩ := kyp k hk
      rw [g4, g5]; exact d3 k2 g1
    · rw [szo n e]
      have s5 := pgi_s4 hP0 hb hn.1
      have z0 := delA_ne (f := ky) (j := j) (n := sz p) (i := 0) e (by omega) (by omega)
      rw [Nat.add_zero (5 * n)] at z0
      rw [z0]
      refine ⟨d1, d2, fun k hk => ?_⟩
      rw [delA_ne e (by omega) (by omega), delA_ne e (by omega) (by omega)]; exact d3 k hk
  · intro n x hn hg
    have e : n ≠ p := by rintro rfl; rw [hA.2] at hg; cases hg
    rw [szo n e]; exact p7 n x hn hg
theorem keep_set {p j v : Nat} (hP : PgI lv lev lo hi ri sz ky vl go rt ep nb 800) (hb : nb ≤ 513) (hl0 : lev p = 0) (hj : j < 5) (hv : v < 10000) :
    PgI lv lev lo hi ri sz ky (va_up vl (5 * p + j) v) go rt ep nb 800 := by
  have hP0 := hP
  obtain ⟨p1, p2, p3, p4, p5, p6, p7, p8, p9, p10⟩ := hP
  refine ⟨p1, ?_, p3, p4, p5, ?_, p7, p8, p9, p10⟩
  · intro n hn k hk
    obtain ⟨b1, b2, b3, b4⟩ := p2 n hn k hk
    refine ⟨b1, b2, ?_, b4⟩
    unfold va_up; split <;> omega
  · intro n hn hl
    obtain ⟨d1, d2, d3⟩ := p6 n hn hl
    have s5 := pgi_s4 hP0 hb hn.1
    refine ⟨d1, d2, fun k hk => ?_⟩
    have e : n ≠ p := by rintro rfl; omega
    rw [va_up_ne _ _ (by omega)]; exact d3 k hk
/-- two entries for one page are one -/
theorem ent_one (hP : PgI lv lev lo hi ri sz ky vl go rt ep nb o) {p n j k : Nat} (hp : Al lv go p) (hn : Al lv go n) (hlp : 0 < lev p) (hln : 0 < lev n) (hj : j < sz p) (hk : k < sz n) (h : vl (5 * p + j) = vl (5 * n + k)) : p = n ∧ j = k := by
  obtain ⟨p1, p2, p3, p4, p5, p6, p7, p8, p9, p10⟩ := hP
  obtain ⟨-, -, a⟩ := p6 p hp hlp
  obtain ⟨-, -, b⟩ := p6 n hn hln
  obtain ⟨a1, a2, a3⟩ := a j hj
  obtain ⟨b1, b2, b3⟩ := b k hk
  have c1 := p2 p hp.1 j hj
  have c2 := p2 n hn.1 k hk
  rw [h] at a2 a3
  have e : p = n := by
    by_cases e : p = n
    · exact e
    · rcases p5 p n hp hn (by omega) e with q | q <;> omega
  subst e
  refine ⟨rfl, ?_⟩
  rcases Nat.lt_trichotomy j k with q | q | q
  · have := c2.2.2.2 j q; omega
  · exact q
  · have := c1.2.2.2 k q; omega
theorem keep_tou {p j q x : Nat} (hP : PgI lv lev lo hi ri sz ky vl go rt ep nb 800) (hb : nb ≤ 513) (hA : Al lv go p) (hl1 : lev p = 1) (hj0 : 0 < j) (hj : j < sz p) (hx : vl (5 * p + j) = x) (hx0 : sz x = 0) (hq : Al lv go q) (hr : ri q = some x) :
    PgI lv lev lo (va_up hi q (hi x)) (va_up ri q (ri x)) (va_up sz p (sz p - 1)) (delA ky p j (sz p)) (delA vl p j (sz p)) (va_up go x (some ep)) rt (ep + 1) nb 800 := by
  have hent := fun n k (hn : Al lv go n) (hln : 0 < lev n) (hk : k < sz n) (h : x = vl (5 * n + k)) => ent_one hP hA hn (by omega) hln hj hk (hx.trans h)
  have hR := keep_rem hP hb hA hj (fun _ => hj0)
  have s4 := pgi_s4 hP hb hA.1
  obtain ⟨p1, p2, p3, p4, p5, p6, p7, ⟨p8, p8'⟩, ⟨p9, p9', p9''⟩, p10⟩ := hP
  obtain ⟨d1, d2, d3⟩ := p6 p hA (by omega)
  obtain ⟨e1, e2, e3⟩ := d3 j hj
  rw [hx] at e1 e2 e3
  obtain ⟨f1, f2, f3, f4, f5⟩ := p4 q x hq.1 hr
  have lox : 0 < lo x := by have := (p2 p hA.1 j hj).2.2.2 0 (by omega); omega
  have hqx : q ≠ x := by rintro rfl; have := (p1 q hq.1).2.2.1; omega
  have bx := p1 x f1
  have bq := p1 q hq.1
  obtain ⟨r1, r2, r3, r4, r5, r6, r7, -, -, -⟩ := hR
  have goo : ∀ n, n ≠ x → va_up go x (some ep) n = go n := fun n h => va_up_ne _ _ h
  have gox : va_up go x (some ep) x = some ep := va_up_self _ _ _
  have al : ∀ n, Al lv (va_up go x (some ep)) n → n ≠ x ∧ Al lv go n := by
    rintro n ⟨h1, h2⟩
    have e : n ≠ x := by rintro rfl; rw [gox] at h2; cases h2
    rw [goo n e] at h2; exact ⟨e, h1, h2⟩
  have alk : ∀ n, Al lv go n → n ≠ x → Al lv (va_up go x (some ep)) n := fun n h h2 => ⟨h.1, by rw [goo n h2]; exact h.2⟩
  have hpx : p ≠ x := by rintro rfl; omega
  have szx : va_up sz p (sz p - 1) x = sz x := va_up_ne _ _ hpx.symm
  have uniq : ∀ n, Al lv go n → ri n = some x → n = q := by
    intro n hn h
    obtain ⟨g1, g2, g3, -⟩ := p4 n x hn.1 h
    by_cases e : n = q
    · exact e
    · have := (p1 n hn.1).2.2.1
      rcases p5 n q hn hq (by omega) e with z | z <;> omega
  have hio : ∀ n, n ≠ q → va_up hi q (hi x) n = hi n := fun n h => va_up_ne _ _ h
  have hiq : va_up hi q (hi x) q = hi x := va_up_self _ _ _
  have rio : ∀ n, n ≠ q → va_up ri q (ri x) n = ri n := fun n h => va_up_ne _ _ h
  have riq : va_up ri q (ri x) q = ri x := va_up_self _ _ _
  have rtx : rt ≠ x := by rintro rfl; have := (p1 p hA.1).2.1; omega
  have zx : (0 : Nat) ≠ x := by rintro rfl; omega
  refine ⟨?_, ?_, ?_, ?_, ?_, ?_, ?_, ⟨alk _ p8 rtx, p8'⟩, ⟨alk _ p9 zx, p9', p9''⟩, p10⟩
  · intro n hn
    have b := r1 n hn
    by_cases e : n = q
    · subst e; rw [hiq]; omega
    · rw [hio n e]; exact b
  · intro n hn k hk
    have b := r2 n hn k hk
    by_cases e : n = q
    · subst e; rw [hiq]; exact ⟨b.1, by omega, b.2.2⟩
    · rw [hio n e]; exact b
  · intro n hn hr9
    by_cases e : n = q
    · subst e; rw [riq] at hr9; rw [hiq]; exact p3 x f1 hr9
    · rw [rio n e] at hr9; rw [hio n e]; exact p3 n hn hr9
  · intro n r hn hr9
    by_cases e : n = q
    · subst e; rw [riq] at hr9
      obtain ⟨g1, g2, g3, g4, g5⟩ := p4 x r f1 hr9
      have hrx : r ≠ x := by rintro rfl; omega
      rw [hiq, goo r hrx, goo n hqx]
      exact ⟨g1, by omega, g3, fun _ => g4 e1.2, fun a b h => by rw [hq.2] at h; cases h⟩
    · rw [rio n e] at hr9
      obtain ⟨g1, g2, g3, g4, g5⟩ := p4 n r hn hr9
      rw [hio n e]
      refine ⟨g1, g2, g3, ?_⟩
      by_cases ex : n = x
      · subst ex
        have hrx : r ≠ n := by rintro rfl; omega
        rw [gox, goo r hrx]
        exact ⟨fun h => (by cases h), fun a b _ h => (by rw [g4 e1.2] at h; cases h)⟩
      · rw [goo n ex]
        by_cases er : r = x
        · subst er; rw [gox]
          refine ⟨fun h => absurd (uniq n ⟨hn, h⟩ hr9) e, fun a b h h2 => ?_⟩
          cases h2; exact (p7 n a hn h).2.2
        · rw [goo r er]; exact ⟨g4, g5⟩
  · intro n k hn hk hl hne
    obtain ⟨n1, n2⟩ := al n hn
    obtain ⟨k1, k2⟩ := al k hk
    have c1 := p5 n k n2 k2 hl hne
    by_cases e : n = q
    · subst e
      rw [hiq, hio k (fun h => hne h.symm)]
      have c2 := p5 k x k2 e1 (by omega) k1
      have c3 := (p1 k k2.1).2.2.1
      omega
    · rw [hio n e]
      by_cases ek : k = q
      · subst ek; rw [hiq]
        have c2 := p5 n x n2 e1 (by omega) n1
        have c3 := (p1 n n2.1).2.2.1
        omega
      · rw [hio k ek]; exact c1
  · intro n hn hl
    obtain ⟨n1, n2⟩ := al n hn
    obtain ⟨b1, b2, b3⟩ := r6 n n2 hl
    refine ⟨b1, b2, fun k hk => ?_⟩
    obtain ⟨c1, c2⟩ := b3 k hk
    refine ⟨alk _ c1 ?_, c2⟩
    intro h
    by_cases e : n = p
    · subst e; rw [va_up_self] at hk
      rcases Nat.lt_or_ge k j with z | z
      · rw [delA_lt z] at h
        have := (hent n k n2 hl (by omega) h.symm).2; omega
      · rw [delA_ge z (by omega)] at h
        have := (hent n (k + 1) n2 hl (by omega) h.symm).2; omega
    · rw [va_up_ne _ _ e] at hk
      have s5 : sz n ≤ 5 := by have := (p1 n n2.1).2.2.2.2; split at this <;> omega
      rw [delA_ne e (by omega) (by omega)] at h
      exact e (hent n k n2 hl hk h.symm).1.symm
  · intro n y hn hg
    by_cases e : n = x
    · subst e; rw [gox] at hg; cases hg
      rw [szx]; omega
    · rw [goo n e] at hg
      have := r7 n y hn hg; omega
/-- which are recycled -/
def rcS (go : Nat → Option Nat) (cn : Nat) (op : Nat → Bool) (ce : Nat → Nat) (n : Nat) : Prop := ∃ e, go n = some e ∧ ∀ c, c < cn → op c = true → e < ce c
theorem keep_rec {lv2 : Nat → Bool} (hP : PgI lv lev lo hi ri sz ky vl go rt ep nb 800) (h2 : ∀ n, lv2 n = true ↔ lv n = true ∧ ¬ rcS go cn op ce n) :
    PgI lv2 lev lo hi ri sz ky vl go rt ep nb 800 := by
  obtain ⟨p1, p2, p3, p4, p5, p6, p7, ⟨p8, p8'⟩, ⟨p9, p9', p9''⟩, p10⟩ := hP
  have d : ∀ n, lv2 n = true → lv n = true := fun n h => ((h2 n).1 h).1
  have al : ∀ n, Al lv2 go n → Al lv go n := fun n h => ⟨d n h.1, h.2⟩
  have alk : ∀ n, Al lv go n → Al lv2 go n := fun n h => ⟨(h2 n).2 ⟨h.1, fun ⟨e, h3, _⟩ => by rw [h.2] at h3; cases h3⟩, h.2⟩
  refine ⟨fun n hn => p1 n (d n hn), fun n hn => p2 n (d n hn), fun n hn => p3 n (d n hn), ?_, fun n m hn hm => p5 n m (al n hn) (al m hm), ?_, fun n e hn => p7 n e (d n hn), ⟨alk _ p8, p8'⟩, ⟨alk _ p9, p9', p9''⟩, p10⟩
  · intro n r hn hr
    obtain ⟨b1, b2, b3, b4, b5⟩ := p4 n r (d n hn) hr
    refine ⟨(h2 r).2 ⟨b1, ?_⟩, b2, b3, b4, b5⟩
    rintro ⟨e, he, hc⟩
    refine ((h2 n).1 hn).2 ?_
    cases hg : go n with
    | none => rw [b4 hg] at he; cases he
    | some a => have := b5 a e hg he; exact ⟨a, hg, fun c h1 h3 => by have := hc c h1 h3; omega⟩
  · intro n hn hl
    obtain ⟨b1, b2, b3⟩ := p6 n (al n hn) hl
    exact ⟨b1, b2, fun k hk => ⟨alk _ (b3 k hk).1, (b3 k hk).2⟩⟩
end KP3
section KP4
variable {lv : Nat → Bool} {lev lo hi : Nat → Nat} {ri : Nat → Option Nat} {sz ky vl : Nat → Nat} {go : Nat → Option Nat} {rt ep : Nat} {wq : Nat → Nat} {wn cn : Nat} {op : Nat → Bool} {cl ca ce : Nat → Nat} {kc nb : Nat} {o t : Nat}
theorem wq_ins {p c v : Nat} (hP : PgI lv lev lo hi ri sz ky vl go rt ep nb 800) (hb : nb ≤ 513) (hQ : WqI lv lev lo sz vl go rt wq wn) (hA : Al lv go p) (hc : c ≤ sz p) (hv : 0 < lev p → ∀ i, i < wn → v ≠ wq i) :
    WqI lv lev lo (va_up sz p (sz p + 1)) (insA vl p c (sz p) v) go rt wq wn := by
  intro i hi9
  obtain ⟨q1, q2, q3, q4⟩ := hQ i hi9
  have s4 := pgi_s4 hP hb hA.1
  refine ⟨q1, q2, ?_, q4⟩
  intro n k hn hl hk
  by_cases e : n = p
  · subst e; rw [va_up_self] at hk
    rcases Nat.lt_trichotomy k c with h | h | h
    · rw [insA_lt h]; exact q3 n k hn hl (by omega)
    · subst h; rw [insA_eq]; exact hv hl i hi9
    · rw [insA_gt h (by omega)]; exact q3 n (k - 1) hn hl (by omega)
  · rw [va_up_ne _ _ e] at hk
    have := pgi_s4 hP hb hn.1
    rw [insA_ne e hc s4 (by omega)]; exact q3 n k hn hl hk
theorem wq_spl {p m : Nat} (hP : PgI lv lev lo hi ri sz ky vl go rt ep nb p) (hQ : WqI lv lev lo sz vl go rt wq wn) (hA : Al lv go p) (h5 : sz p = 5) (hm : lv m = false) :
    WqI (va_up lv m true) (va_up lev m (lev p)) (va_up lo m (ky (5 * p + 3))) (va_up (va_up sz m 2) p 3) (va_up (va_up vl (5 * m) (vl (5 * p + 3))) (5 * m + 1) (vl (5 * p + 4))) (va_up go m none) rt (va_up wq wn m) (wn + 1) := by
  have hmp : m ≠ p := by rintro rfl; have := hA.1; rw [hm] at this; cases this
  have nem : ∀ n, lv n = true → n ≠ m := by rintro n hn rfl; rw [hm] at hn; cases hn
  have alm : ∀ n, Al (va_up lv m true) (va_up go m none) n → n ≠ m → Al lv go n := by
    rintro n ⟨h1, h2⟩ h; rw [va_up_ne _ _ h] at h1 h2; exact ⟨h1, h2⟩
  have alk : ∀ n, Al lv go n → Al (va_up lv m true) (va_up go m none) n := by
    rintro n ⟨h1, h2⟩; unfold Al; rw [va_up_ne _ _ (nem n h1), va_up_ne _ _ (nem n h1)]; exact ⟨h1, h2⟩
  have hrt := hP.2.2.2.2.2.2.2.1.1.1
  -- an entry now is an entry of a page that was there
  have ent : ∀ n k, Al (va_up lv m true) (va_up go m none) n → 0 < va_up lev m (lev p) n → k < va_up (va_up sz m 2) p 3 n → ∃ n2 k2, Al lv go n2 ∧ 0 < lev n2 ∧ k2 < sz n2 ∧ va_up (va_up vl (5 * m) (vl (5 * p + 3))) (5 * m + 1) (vl (5 * p + 4)) (5 * n + k) = vl (5 * n2 + k2) := by
    intro n k hn hl hk
    by_cases e : n = m
    · subst e; rw [va_up_self] at hl
      rw [va_up_ne _ _ hmp, va_up_self] at hk
      rcases (by omega : k = 0 ∨ k = 1) with rfl | rfl
      · exact ⟨p, 3, hA, hl, by omega, by rw [va_up_ne _ _ (by omega)]; exact va_up_self _ _ _⟩
      · exact ⟨p, 4, hA, hl, by omega, va_up_self _ _ _⟩
    · rw [va_up_ne _ _ e] at hl
      have hk2 : k < sz n := by
        by_cases e2 : n = p
        · subst e2; rw [va_up_self] at hk; omega
        · rw [va_up_ne _ _ e2, va_up_ne _ _ e] at hk; exact hk
      have := pgi_s5 hP (alm n hn e).1
      exact ⟨n, k, alm n hn e, hl, hk2, by rw [va_up_ne _ _ (by omega), va_up_ne _ _ (by omega)]⟩
  intro i hi9
  by_cases ei : i = wn
  · subst ei; rw [va_up_self]
    refine ⟨⟨va_up_self _ _ _, va_up_self _ _ _⟩, (nem rt hrt).symm, ?_, ?_⟩
    · intro n k hn hl hk h
      obtain ⟨n2, k2, g1, g2, g3, g4⟩ := ent n k hn hl hk
      rw [g4] at h
      exact nem _ ((hP.2.2.2.2.2.1 n2 g1 g2).2.2 k2 g3).1.1 h
    · intro j hj
      rw [va_up_ne _ _ (by omega)]; exact nem _ (hQ j hj).1.1
  · rw [va_up_ne _ _ ei]
    obtain ⟨q1, q2, q3, q4⟩ := hQ i (by omega)
    refine ⟨alk _ q1, q2, ?_, ?_⟩
    · intro n k hn hl hk
      obtain ⟨n2, k2, g1, g2, g3, g4⟩ := ent n k hn hl hk
      rw [g4]; exact q3 n2 k2 g1 g2 g3
    · intro j hj; rw [va_up_ne _ _ (by omega)]; exact q4 j hj
theorem wq_pop (hQ : WqI lv lev lo sz vl go rt wq wn) (h0 : 0 < wn) :
    WqI lv lev lo sz vl go rt (fun i => if i < wn - 1 then wq (i + 1) else wq i) (wn - 1) ∧ ∀ i, i < wn - 1 → wq 0 ≠ (fun i => if i < wn - 1 then wq (i + 1) else wq i) i := by
  have key : ∀ i, i < wn - 1 → (fun i => if i < wn - 1 then wq (i + 1) else wq i) i = wq (i + 1) := fun i h => if_pos h
  constructor
  · intro i h
    obtain ⟨q1, q2, q3, q4⟩ := hQ (i + 1) (by omega)
    rw [key i h]
    refine ⟨q1, q2, q3, fun j hj => ?_⟩
    rw [key j (by omega)]; exact q4 (j + 1) (by omega)
  · intro i h; rw [key i h]; exact (hQ (i + 1) (by omega)).2.2.2 0 (by omega)
theorem wq_gro {w m : Nat} (hP : PgI lv lev lo hi ri sz ky vl go rt ep nb 800) (hb : nb ≤ 513) (hQ : WqI lv lev lo sz vl go rt wq wn) (hm : lv m = false) (hw : ∀ i, i < wn → w ≠ wq i) :
    WqI (va_up lv m true) (va_up lev m (lev w + 1)) (va_up lo m 0) (va_up sz m 2) (va_up (va_up vl (5 * m) rt) (5 * m + 1) w) (va_up go m none) m wq wn := by
  have nem : ∀ n, lv n = true → n ≠ m := by rintro n hn rfl; rw [hm] at hn; cases hn
  have alm : ∀ n, Al (va_up lv m true) (va_up go m none) n → n ≠ m → Al lv go n := by
    rintro n ⟨h1, h2⟩ h; rw [va_up_ne _ _ h] at h1 h2; exact ⟨h1, h2⟩
  have alk : ∀ n, Al lv go n → Al (va_up lv m true) (va_up go m none) n := by
    rintro n ⟨h1, h2⟩; unfold Al; rw [va_up_ne _ _ (nem n h1), va_up_ne _ _ (nem n h1)]; exact ⟨h1, h2⟩
  intro i hi9
  obtain ⟨q1, q2, q3, q4⟩ := hQ i hi9
  refine ⟨alk _ q1, nem _ q1.1, ?_, q4⟩
  intro n k hn hl hk
  by_cases e : n = m
  · subst e; rw [va_up_self] at hk
    rcases (by omega : k = 0 ∨ k = 1) with rfl | rfl
    · rw [show (5 * n + 0 : Nat) = 5 * n from rfl, va_up_ne _ _ (by omega), va_up_self]; exact fun h => q2 h.symm
    · rw [va_up_self]; exact hw i hi9
  · rw [va_up_ne _ _ e] at hl hk
    have := pgi_s4 hP hb (alm n hn e).1
    rw [va_up_ne _ _ (by omega), va_up_ne _ _ (by omega)]; exact q3 n k (alm n hn e) hl hk
theorem wq_rem {p j : Nat} (hP : PgI lv lev lo hi ri sz ky vl go rt ep nb 800) (hb : nb ≤ 513) (hQ : WqI lv lev lo sz vl go rt wq wn) (hA : Al lv go p) (hj : j < sz p) :
    WqI lv lev lo (va_up sz p (sz p - 1)) (delA vl p j (sz p)) go rt wq wn := by
  intro i hi9
  obtain ⟨q1, q2, q3, q4⟩ := hQ i hi9
  have s4 := pgi_s4 hP hb hA.1
  refine ⟨q1, q2, ?_, q4⟩
  intro n k hn hl hk
  by_cases e : n = p
  · subst e; rw [va_up_self] at hk
    rcases Nat.lt_or_ge k j with h | h
    · rw [delA_lt h]; exact q3 n k hn hl (by omega)
    · rw [delA_ge h (by omega)]; exact q3 n (k + 1) hn hl (by omega)
  · rw [va_up_ne _ _ e] at hk
    have := pgi_s4 hP hb hn.1
    rw [delA_ne e (by omega) (by omega)]; exact q3 n k hn hl hk
theorem wq_set {p j v : Nat} (hP : PgI lv lev lo hi ri sz ky vl go rt ep nb 800) (hb : nb ≤ 513) (hQ : WqI lv lev lo sz vl go rt wq wn) (hl0 : lev p = 0) (hj : j < 5) :
    WqI lv lev lo sz (va_up vl (5 * p + j) v) go rt wq wn := by
  intro i hi9
  obtain ⟨q1, q2, q3, q4⟩ := hQ i hi9
  refine ⟨q1, q2, ?_, q4⟩
  intro n k hn hl hk
  have e : n ≠ p := by rintro rfl; omega
  have := pgi_s4 hP hb hn.1
  rw [va_up_ne _ _ (by omega)]; exact q3 n k hn hl hk
theorem wq_tou {p j x : Nat} (hP : PgI lv lev lo hi ri sz ky vl go rt ep nb 800) (hb : nb ≤ 513) (hQ : WqI lv lev lo sz vl go rt wq wn) (hA : Al lv go p) (hl : 0 < lev p) (hj : j < sz p) (hx : vl (5 * p + j) = x) :
    WqI lv lev lo (va_up sz p (sz p - 1)) (delA vl p j (sz p)) (va_up go x (some ep)) rt wq wn := by
  intro i hi9
  obtain ⟨q1, q2, q3, q4⟩ := wq_rem hP hb hQ hA hj i hi9
  have e := (hQ i hi9).2.2.1 p j hA hl hj
  rw [hx] at e
  have al : ∀ n, Al lv (va_up go x (some ep)) n → Al lv go n := by
    rintro n ⟨h1, h2⟩
    have e : n ≠ x := by rintro rfl; rw [va_up_self] at h2; cases h2
    rw [va_up_ne _ _ e] at h2; exact ⟨h1, h2⟩
  exact ⟨⟨q1.1, by rw [va_up_ne _ _ e.symm]; exact q1.2⟩, q2, fun n k hn => q3 n k (al n hn), q4⟩
theorem wq_rec {lv2 : Nat → Bool} (hQ : WqI lv lev lo sz vl go rt wq wn) (h2 : ∀ n, lv2 n = true ↔ lv n = true ∧ ¬ rcS go cn op ce n) : WqI lv2 lev lo sz vl go rt wq wn := by
  intro i hi9
  obtain ⟨q1, q2, q3, q4⟩ := hQ i hi9
  exact ⟨⟨(h2 _).2 ⟨q1.1, fun ⟨e, h3, _⟩ => by rw [q1.2] at h3; cases h3⟩, q1.2⟩, q2, fun n k hn => q3 n k ⟨((h2 n).1 hn.1).1, hn.2⟩, q4⟩
theorem cu_new {m x : Nat} (hC : CuI lv lev go ep cn op cl ca ce) (hm : lv m = false) : CuI (va_up lv m true) (va_up lev m x) (va_up go m none) ep cn op cl ca ce := by
  refine ⟨hC.1, fun c hc => ?_⟩
  obtain ⟨a, b, d⟩ := hC.2 c hc
  refine ⟨a, b, fun ho => ?_⟩
  obtain ⟨d1, d2, d3⟩ := d ho
  have e : cl c ≠ m := by rintro h; rw [h] at d1; rw [hm] at d1; cases d1
  rw [va_up_ne _ _ e, va_up_ne _ _ e, va_up_ne _ _ e]; exact ⟨d1, d2, d3⟩
theorem cu_tou {x : Nat} (hC : CuI lv lev go ep cn op cl ca ce) : CuI lv lev (va_up go x (some ep)) (ep + 1) cn op cl ca ce := by
  refine ⟨hC.1, fun c hc => ?_⟩
  obtain ⟨a, b, d⟩ := hC.2 c hc
  refine ⟨a, by omega, fun ho => ?_⟩
  obtain ⟨d1, d2, d3⟩ := d ho
  refine ⟨d1, d2, fun e he => ?_⟩
  by_cases h : cl c = x
  · rw [h, va_up_self] at he; cases he; exact b
  · rw [va_up_ne _ _ h] at he; exact d3 e he
theorem cu_rec {lv2 : Nat → Bool} (hC : CuI lv lev go ep cn op cl ca ce) (h2 : ∀ n, lv2 n = true ↔ lv n = true ∧ ¬ rcS go cn op ce n) : CuI lv2 lev go ep cn op cl ca ce := by
  refine ⟨hC.1, fun c hc => ?_⟩
  obtain ⟨a, b, d⟩ := hC.2 c hc
  refine ⟨a, b, fun ho => ?_⟩
  obtain ⟨d1, d2, d3⟩ := d ho
  refine ⟨(h2 _).2 ⟨d1, fun ⟨e, h3, h4⟩ => ?_⟩, d2, d3⟩
  have := d3 e h3; have := h4 c hc ho; omega
-- the sums
theorem ex_sz {p x : Nat} (h : lv p = true) : exF lv (va_up sz p x) = va_up (exF lv sz) p (x - 2) := by
  funext n; unfold exF va_up
  by_cases e : n = p
  · subst e; rw [if_pos h, if_pos rfl, if_pos rfl]
  · rw [if_neg e, if_neg e]
theorem kc_sz {p x : Nat} (h : lv p = true) : kcF lv lev (va_up sz p x) = va_up (kcF lv lev sz) p (if lev p = 0 then x else 0) := by
  funext n; unfold kcF va_up
  by_cases e : n = p
  · subst e; rw [if_pos rfl, if_pos rfl]; by_cases q : lev n = 0
    · rw [if_pos ⟨h, q⟩, if_pos q]
    · rw [if_neg (fun z => q z.2), if_neg q]
  · rw [if_neg e, if_neg e]
theorem ex_new {m x : Nat} : exF (va_up lv m true) (va_up sz m x) = va_up (exF lv sz) m (x - 2) := by
  funext n; unfold exF va_up
  by_cases e : n = m
  · subst e; rw [if_pos rfl, if_pos rfl, if_pos rfl, if_pos rfl]
  · rw [if_neg e, if_neg e, if_neg e]
theorem kc_new {m x y : Nat} : kcF (va_up lv m true) (va_up lev m y) (va_up sz m x) = va_up (kcF lv lev sz) m (if y = 0 then x else 0) := by
  funext n; unfold kcF va_up
  by_cases e : n = m
  · subst e; simp only [if_pos]; by_cases q : y = 0
    · rw [if_pos ⟨trivial, q⟩, if_pos q]
    · rw [if_neg (fun z => q z.2), if_neg q]
  · simp only [if_neg e]
theorem ex_at {p : Nat} (h : lv p = true) : exF lv sz p = sz p - 2 := if_pos h
theorem ex_no {p : Nat} (h : lv p = false) : exF lv sz p = 0 := if_neg (by rw [h]; exact Bool.false_ne_true)
theorem kc_at {p : Nat} (h : lv p = true) : kcF lv lev sz p = if lev p = 0 then sz p else 0 := by
  unfold kcF; by_cases q : lev p = 0
  · rw [if_pos ⟨h, q⟩, if_pos q]
  · rw [if_neg (fun z => q z.2), if_neg q]
theorem kc_no {p : Nat} (h : lv p = false) : kcF lv lev sz p = 0 := if_neg (fun z => by rw [h] at z; cases z.1)
end KP4
