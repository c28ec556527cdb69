/-! The law's 'act' as a function. -/
def odB (v : Int32) : Bool := decide (lowN (v >>> (nI 24 &&& 31)) 8 = 0)
def kyV (v : Int32) : Int32 := if odB v = true then nI (lowN (v >>> (nI 4 &&& 31)) 210) - nI 5 else if (v >>> (nI 16 &&& 31)) &&& nI 1 = 0 then nI (lowN (v >>> (nI 4 &&& 31)) 200) else nI (lowN (v >>> (nI 4 &&& 31)) 20)
def vlV (v : Int32) : Int32 := if odB v = true then nI (lowN (v >>> (nI 8 &&& 31)) 11000) else nI (lowN (v >>> (nI 8 &&& 31)) 10000)
/-- keys taken one behind the other: d at most are left, k is the next -/
def tkL (key : Int32) : Nat → Nat → SG → Int32 → SG × Int32
  | 0, _, s, q => (s, q)
  | d + 1, k, s, q => if key + nI k < nI 200 then tkL key d (k + 1) (doF 1 s (key + nI k) (nI 0)).1 (q * nI 31 + (doF 1 s (key + nI k) (nI 0)).2) else (s, q)
noncomputable def actF (s : SG) (v : Int32) : SG × Int32 :=
  if lowN v 32 < 16 then doF 0 s (kyV v) (vlV v)
  else if lowN v 32 < 22 then ((tkL (kyV v) (if lowN v 32 < 19 then 1 else 7) 0 s (nI 0)).1, (tkL (kyV v) (if lowN v 32 < 19 then 1 else 7) 0 s (nI 0)).2 &&& (1073741823 : Int32))
  else if lowN v 32 < 25 then doF 2 s (nI 0) (nI 0)
  else if lowN v 32 < 26 then ((paS 1024 s).1, nI (paS 1024 s).2)
  else if lowN v 32 < 28 then ((touF s).1, oI (touF s).2)
  else if lowN v 32 < 29 then ((recS s).1, nI (recS s).2)
  else if lowN v 32 = 29 then doF 3 s (kyV v) (nI 0)
  else if lowN v 32 = 30 ∧ (v >>> (nI 9 &&& 31)) &&& nI 1 = 0 then doF 5 s (nI (lowN (v >>> (nI 5 &&& 31)) 8)) (nI 0)
  else doF 4 s (nI (lowN (v >>> (nI 5 &&& 31)) (if odB v = true then 30 else 6))) (nI 0)
/-- the splits that it posts all at once -/
def actP (s : SG) (v : Int32) : Nat := if lowN v 32 = 25 then (paS 1024 s).2 else 0
section AC
variable {s : SG} {t : Nat}
theorem tk_inv (key : Int32) : ∀ (d k : Nat) (s : SG) (q : Int32), Inv s t → Inv (tkL key d k s q).1 t := by
  intro d
  induction d with
  | zero => intro k s q h; exact h
  | succ d ih =>
    intro k s q h
    unfold tkL
    split
    · exact ih _ _ _ (do_tak h)
    · exact h
theorem tk_cn (key : Int32) : ∀ (d k : Nat) (s : SG) (q : Int32), Inv s t → CN s → CN (tkL key d k s q).1 := by
  intro d
  induction d with
  | zero => intro k s q h hN; exact hN
  | succ d ih =>
    intro k s q h hN
    unfold tkL
    split
    · exact ih _ _ _ (do_tak h) (do_cn h hN)
    · exact hN
theorem tk_P (key : Int32) : ∀ (d k : Nat) (s : SG) (q : Int32), nbS s + waits (tkL key d k s q).1 ≤ nbS (tkL key d k s q).1 + waits s := by
  intro d
  induction d with
  | zero => intro k s q; exact Nat.le_refl _
  | succ d ih =>
    intro k s q
    unfold tkL
    split
    · have h1 := ih (k + 1) (doF 1 s (key + nI k) (nI 0)).1 (q * nI 31 + (doF 1 s (key + nI k) (nI 0)).2)
      have h2 := do_P (w := 1) (s := s) (a := key + nI k) (b := nI 0)
      omega
    · exact Nat.le_refl _
theorem rec_le : (recS s).2 ≤ 800 := by
  obtain ⟨lv, lev, lo, hi, ri, sz, ky, vl, go, rt, ep, wq, wn, cn, op, cl, ca, ce, kc, nb⟩ := s
  exact cntB_le _ _
theorem tou_val {r : SG × Option Nat} {x : Nat} (h : Inv s t) (h1 : TouR s r) (hx : r.2 = some x) : x < 2 ^ 31 := by
  have hb := (inv_nb h).1
  obtain ⟨lv, lev, lo, hi, ri, sz, ky, vl, go, rt, ep, wq, wn, cn, op, cl, ca, ce, kc, nb⟩ := s
  have hP := h.1
  have hb : nb ≤ 513 := hb
  rcases h1 with ⟨p, j, q, a1, a2, a3, a4, rfl⟩ | ⟨a1, rfl⟩
  · obtain ⟨c1, c2, -⟩ := cand_leaf hP a1
    have e := Option.some.inj hx
    have := (hP.1 _ c2.1).1
    omega
  · cases hx
/-- some outcome there always is -/
theorem tou_ex (h : Inv s t) : ∃ r, TouR s r := by
  have hb := (inv_nb h).1
  obtain ⟨lv, lev, lo, hi, ri, sz, ky, vl, go, rt, ep, wq, wn, cn, op, cl, ca, ce, kc, nb⟩ := s
  have hP := h.1
  have hb : nb ≤ 513 := hb
  by_cases c : ∃ m, ∃ p j, Cand lv lev sz vl p j ∧ ky (5 * p + j) = m
  · obtain ⟨m, hm⟩ := c
    have key : ∀ d m, m ≤ d → (∃ p j, Cand lv lev sz vl p j ∧ ky (5 * p + j) = m) → ∃ p j, Cand lv lev sz vl p j ∧ ∀ p2 j2, Cand lv lev sz vl p2 j2 → ky (5 * p + j) ≤ ky (5 * p2 + j2) := by
      intro d
      induction d with
      | zero =>
        rintro m hm ⟨p, j, h1, h2⟩
        exact ⟨p, j, h1, fun p2 j2 _ => by omega⟩
      | succ d ih =>
        rintro m hm ⟨p, j, h1, h2⟩
        by_cases q : ∀ p2 j2, Cand lv lev sz vl p2 j2 → ky (5 * p + j) ≤ ky (5 * p2 + j2)
        · exact ⟨p, j, h1, q⟩
        · have : ∃ p2 j2, Cand lv lev sz vl p2 j2 ∧ ky (5 * p2 + j2) < ky (5 * p + j) := by
            refine Classical.byContradiction (fun z => q (fun p2 j2 h3 => ?_))
            exact Nat.not_lt.mp (fun y => z ⟨p2, j2, h3, y⟩)
          obtain ⟨p2, j2, h3, h4⟩ := this
          exact ih (ky (5 * p2 + j2)) (by omega) ⟨p2, j2, h3, rfl⟩
    obtain ⟨p, j, h1, h2⟩ := key m m (Nat.le_refl _) hm
    obtain ⟨c1, c2, c3, c4, c5⟩ := cand_leaf hP h1
    obtain ⟨q, q1, q2, -, -⟩ := left_ex hP hb c2 (by omega)
    exact ⟨_, Or.inl ⟨p, j, q, h1, h2, q1, q2, rfl⟩⟩
  · exact ⟨_, Or.inr ⟨fun p j h1 => c ⟨_, p, j, h1, rfl⟩, rfl⟩⟩
theorem touF_R (h : Inv s t) : TouR s (touF s) := by
  obtain ⟨r, hr⟩ := tou_ex h
  exact touF_of hr
theorem act_inv {v : Int32} (h : Inv s t) (ht : t < 512) : Inv (actF s v).1 (t + 1) := by
  unfold actF
  split
  · exact do_inv h ht
  split
  · exact inv_up (tk_inv _ _ _ _ _ h) ht
  split
  · exact do_inv h ht
  split
  · exact inv_up (inv_pa 1024 h (inv_room h)).1 ht
  split
  · exact touR_inv h ht (touF_R h)
  split
  · exact inv_up (inv_rec h) ht
  split
  · exact do_inv h ht
  split
  · exact do_inv h ht
  · exact do_inv h ht
theorem act_cn {v : Int32} (h : Inv s t) (hN : CN s) : CN (actF s v).1 := by
  unfold actF
  split
  · exact do_cn h hN
  split
  · exact tk_cn _ _ _ _ _ h hN
  split
  · exact do_cn h hN
  split
  · exact cn_pa 1024 h hN
  split
  · exact cn_tou h (touF_R h) hN
  split
  · exact cn_rec h hN
  split
  · exact do_cn h hN
  split
  · exact do_cn h hN
  · exact do_cn h hN
theorem act_same {v : Int32} (h : Inv s t) : (actF s v).2 = -99999 → (actF s v).1 = s := by
  unfold actF
  split
  · exact do_same h
  split
  · intro e
    exfalso
    obtain ⟨j, hj, e2⟩ := pk_andE (tkL (kyV v) (if lowN v 32 < 19 then 1 else 7) 0 s (nI 0)).2 (m := 1073741823) 30 (by decide)
    dsimp only at e
    rw [e2] at e
    exact nI_ok (by omega) e
  split
  · exact do_same h
  split
  · intro e
    have := (inv_pa 1024 h (inv_room h)).2.2
    exact absurd e (nI_ok (by omega))
  split
  · intro e
    exact absurd e (oI_ok (fun x hx => tou_val h (touF_R h) hx))
  split
  · intro e
    have := rec_le (s := s)
    exact absurd e (nI_ok (by omega))
  split
  · exact do_same h
  split
  · exact do_same h
  · exact do_same h
theorem act_P {v : Int32} (h : Inv s t) : nbS s + waits (actF s v).1 + actP s v ≤ nbS (actF s v).1 + waits s := by
  unfold actF actP
  by_cases c0 : lowN v 32 = 25
  · rw [if_neg (by omega), if_neg (by omega), if_neg (by omega), if_pos (by omega), if_pos c0]
    exact pa_P 1024 s
  · rw [if_neg c0]
    show nbS s + waits _ ≤ _
    split
    · exact do_P
    split
    · exact tk_P _ _ _ _ _
    split
    · exact do_P
    split
    · omega
    split
    · exact tou_P (touF_R h)
    split
    · exact rec_P
    split
    · exact do_P
    split
    · exact do_P
    · exact do_P
end AC
