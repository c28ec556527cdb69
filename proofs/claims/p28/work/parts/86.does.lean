/-! What the law's calls do, as functions of the state: no machine here. -/
section PP
variable {s : SG} {t : Nat}
theorem add_P {p x v : Nat} : nbS s + waits (addS s p x v) ≤ nbS (addS s p x v) + waits s := by
  obtain ⟨lv, lev, lo, hi, ri, sz, ky, vl, go, rt, ep, wq, wn, cn, op, cl, ca, ce, kc, nb⟩ := s
  by_cases c : sz p = 4
  · rw [addS_eq c]; show nb + (wn + 1) ≤ nb + 1 + wn; omega
  · rw [addS_lt c]; show nb + wn ≤ nb + wn; exact Nat.le_refl _
theorem pos_P (h : 0 < waits s) : nbS s + waits (posS s) + 1 ≤ nbS (posS s) + waits s := by
  obtain ⟨lv, lev, lo, hi, ri, sz, ky, vl, go, rt, ep, wq, wn, cn, op, cl, ca, ce, kc, nb⟩ := s
  have h : 0 < wn := h
  by_cases c : lev (wq 0) = lev rt
  · rw [posS_eq c]; show nb + (wn - 1) + 1 ≤ nb + 1 + wn; omega
  · rw [posS_ne c]
    have h2 := add_P (s := popS (lv, lev, lo, hi, ri, sz, ky, vl, go, rt, ep, wq, wn, cn, op, cl, ca, ce, kc, nb)) (p := (dnF lev hi ri sz ky vl (lo (wq 0)) (lev (wq 0) + 1) 2000 rt).1) (x := lo (wq 0)) (v := wq 0)
    have e1 : nbS (popS (lv, lev, lo, hi, ri, sz, ky, vl, go, rt, ep, wq, wn, cn, op, cl, ca, ce, kc, nb)) = nb := rfl
    have e2 : waits (popS (lv, lev, lo, hi, ri, sz, ky, vl, go, rt, ep, wq, wn, cn, op, cl, ca, ce, kc, nb)) = wn - 1 := rfl
    rw [e1, e2] at h2
    show nb + waits (addS (popS (lv, lev, lo, hi, ri, sz, ky, vl, go, rt, ep, wq, wn, cn, op, cl, ca, ce, kc, nb)) _ _ _) + 1 ≤ nbS (addS (popS (lv, lev, lo, hi, ri, sz, ky, vl, go, rt, ep, wq, wn, cn, op, cl, ca, ce, kc, nb)) _ _ _) + wn
    omega
theorem pa_P (f : Nat) : ∀ s : SG, nbS s + waits (paS f s).1 + (paS f s).2 ≤ nbS (paS f s).1 + waits s := by
  induction f with
  | zero => intro s; exact Nat.le_refl _
  | succ f ih =>
    intro s
    by_cases c : waits s = 0
    · have e : paS (f + 1) s = (s, 0) := if_pos c
      rw [e]; exact Nat.le_refl _
    · have e : paS (f + 1) s = ((paS f (posS s)).1, (paS f (posS s)).2 + 1) := if_neg c
      rw [e]
      have h1 := ih (posS s)
      have h2 := pos_P (s := s) (by omega)
      dsimp only
      omega
theorem kcS_P {k : Nat} : nbS (kcS s k) = nbS s ∧ waits (kcS s k) = waits s := by
  obtain ⟨lv, lev, lo, hi, ri, sz, ky, vl, go, rt, ep, wq, wn, cn, op, cl, ca, ce, kc, nb⟩ := s
  show nb = nb ∧ wn = wn
  exact ⟨rfl, rfl⟩
theorem put_P {k v : Nat} : nbS s + waits (putS s k v).1 ≤ nbS (putS s k v).1 + waits s := by
  obtain ⟨lv, lev, lo, hi, ri, sz, ky, vl, go, rt, ep, wq, wn, cn, op, cl, ca, ce, kc, nb⟩ := s
  unfold putS
  dsimp only
  split
  · show nb + wn ≤ nb + wn; exact Nat.le_refl _
  · dsimp only
    rw [kcS_P.1, kcS_P.2]; exact add_P
theorem tak_P {k : Nat} : nbS s + waits (takS s k).1 ≤ nbS (takS s k).1 + waits s := by
  obtain ⟨lv, lev, lo, hi, ri, sz, ky, vl, go, rt, ep, wq, wn, cn, op, cl, ca, ce, kc, nb⟩ := s
  unfold takS
  dsimp only
  split
  · show nb + wn ≤ nb + wn; exact Nat.le_refl _
  · show nb + wn ≤ nb + wn; exact Nat.le_refl _
theorem tou_P {r : SG × Option Nat} (h : TouR s r) : nbS s + waits r.1 ≤ nbS r.1 + waits s := by
  obtain ⟨lv, lev, lo, hi, ri, sz, ky, vl, go, rt, ep, wq, wn, cn, op, cl, ca, ce, kc, nb⟩ := s
  rcases h with ⟨p, j, q, -, -, -, -, rfl⟩ | ⟨-, rfl⟩ <;> (show nb + wn ≤ nb + wn) <;> exact Nat.le_refl _
theorem rec_P : nbS s + waits (recS s).1 ≤ nbS (recS s).1 + waits s := by
  obtain ⟨lv, lev, lo, hi, ri, sz, ky, vl, go, rt, ep, wq, wn, cn, op, cl, ca, ce, kc, nb⟩ := s
  show nb + wn ≤ nb + wn; exact Nat.le_refl _
theorem opn_P {k : Nat} : nbS s + waits (opnS s k) ≤ nbS (opnS s k) + waits s := by
  obtain ⟨lv, lev, lo, hi, ri, sz, ky, vl, go, rt, ep, wq, wn, cn, op, cl, ca, ce, kc, nb⟩ := s
  show nb + wn ≤ nb + wn; exact Nat.le_refl _
theorem clo_P {k : Nat} : nbS s + waits (cloS s k) ≤ nbS (cloS s k) + waits s := by
  obtain ⟨lv, lev, lo, hi, ri, sz, ky, vl, go, rt, ep, wq, wn, cn, op, cl, ca, ce, kc, nb⟩ := s
  show nb + wn ≤ nb + wn; exact Nat.le_refl _
theorem nxt_P {k : Nat} : nbS s + waits (nxtS s k).1 ≤ nbS (nxtS s k).1 + waits s := by
  obtain ⟨lv, lev, lo, hi, ri, sz, ky, vl, go, rt, ep, wq, wn, cn, op, cl, ca, ce, kc, nb⟩ := s
  unfold nxtS nxeS
  dsimp only
  split <;> (show nb + wn ≤ nb + wn) <;> exact Nat.le_refl _
end PP
/-- the state's cursors that are open; its pages that are there; their levels -/
def opB (s : SG) : Nat → Bool := match s with
  | (lv, lev, lo, hi, ri, sz, ky, vl, go, rt, ep, wq, wn, cn, op, cl, ca, ce, kc, nb) => op
def lvS (s : SG) : Nat → Bool := match s with
  | (lv, lev, lo, hi, ri, sz, ky, vl, go, rt, ep, wq, wn, cn, op, cl, ca, ce, kc, nb) => lv
def levS (s : SG) : Nat → Nat := match s with
  | (lv, lev, lo, hi, ri, sz, ky, vl, go, rt, ep, wq, wn, cn, op, cl, ca, ce, kc, nb) => lev
/-- an int as a number below n -/
def kN (a : Int32) (n : Nat) : Option Nat := if 0 ≤ a ∧ a < nI n then some a.toNatClampNeg else none
theorem kN_some {k n : Nat} (hk : k < n) (hn : n < 2 ^ 31) : kN (nI k) n = some k := by
  unfold kN
  rw [if_pos ⟨nI_pos' (by omega), nI_lt hk hn⟩, nI_clamp (by omega)]
theorem kN_none {a : Int32} {n : Nat} (h : ∀ k, k < n → a ≠ nI k) (hn : n < 2 ^ 31) : kN a n = none := by
  unfold kN
  refine if_neg (fun q => ?_)
  rcases pk_ix a hn with z | z | ⟨j, hj, z⟩
  · exact absurd q.1 (Int32.not_le.mpr z)
  · exact absurd q.2 (Int32.not_lt.mpr z)
  · exact h j hj z
theorem kN_at {a : Int32} {k n : Nat} (hn : n < 2 ^ 31) (h : kN a n = some k) : k < n ∧ a = nI k := by
  rcases pk_ix a hn with z | z | ⟨j, hj, z⟩
  · unfold kN at h; rw [if_neg (fun q => absurd q.1 (Int32.not_le.mpr z))] at h; cases h
  · unfold kN at h; rw [if_neg (fun q => absurd q.2 (Int32.not_lt.mpr z))] at h; cases h
  · rw [z, kN_some hj hn] at h
    cases h
    exact ⟨hj, z⟩
/-- the law's 'low' -/
def lowN (v : Int32) (n : Nat) : Nat := v.toBitVec.toNat % 2 ^ 31 % n
theorem lowN_lt {v : Int32} {n : Nat} (h : 0 < n) : lowN v n < n := Nat.mod_lt _ h
noncomputable def touF (s : SG) : SG × Option Nat := @Classical.epsilon _ ⟨(s, none)⟩ (TouR s)
theorem touF_of {s : SG} {r : SG × Option Nat} (h : TouR s r) : TouR s (touF s) := @Classical.epsilon_spec _ (TouR s) ⟨r, h⟩
theorem touF_eq {s : SG} {t : Nat} {r : SG × Option Nat} (hI : Inv s t) (h : TouR s r) : touF s = r := touR_one hI (touF_of h) h
def doF (w : Nat) (s : SG) (a b : Int32) : SG × Int32 := match w with
  | 0 => match kN a 200, kN b 10000 with
    | some k, some u => ((putS s k u).1, oI (putS s k u).2)
    | _, _ => (s, -99999)
  | 1 => match kN a 200 with
    | some k => ((takS s k).1, oI (takS s k).2)
    | none => (s, -99999)
  | 2 => if 0 < waits s then (posS s, nI (waits (posS s))) else (s, -99999)
  | 3 => match kN a 200 with
    | some k => if cnS s < 20 then (opnS s k, nI (cnS s)) else (s, -99999)
    | none => (s, -99999)
  | 4 => match kN a 20 with
    | some k => if k < cnS s ∧ opB s k = true then ((nxtS s k).1, oI (nxtS s k).2) else (s, -99999)
    | none => (s, -99999)
  | _ => match kN a 20 with
    | some k => if k < cnS s ∧ opB s k = true then (cloS s k, nI (cntB (cnS s) (va_up (opB s) k false))) else (s, -99999)
    | none => (s, -99999)
theorem oI_ok {r : Option Nat} (h : ∀ x, r = some x → x < 2 ^ 31) : oI r ≠ -99999 := by
  cases r with
  | none => show (-1 : Int32) ≠ -99999; decide
  | some x =>
    show nI x ≠ -99999
    intro e
    have h1 := nI_toInt (h x rfl)
    rw [e] at h1
    have h2 : (-99999 : Int32).toInt = -99999 := by decide
    omega
theorem nI_ok {x : Nat} (h : x < 2 ^ 31) : nI x ≠ -99999 := oI_ok (r := some x) (fun y hy => by cases hy; exact h)
section DO
variable {s : SG} {t : Nat}
theorem cn_20 (h : Inv s t) : cnS s ≤ 20 := by
  obtain ⟨lv, lev, lo, hi, ri, sz, ky, vl, go, rt, ep, wq, wn, cn, op, cl, ca, ce, kc, nb⟩ := s
  have hC : CuI lv lev go ep cn op cl ca ce := h.2.2.1
  exact hC.1
theorem inv_nxtS {c : Nat} (h : Inv s t) (hc : c < cnS s) (ho : opB s c = true) : Inv (nxtS s c).1 t := by
  obtain ⟨lv, lev, lo, hi, ri, sz, ky, vl, go, rt, ep, wq, wn, cn, op, cl, ca, ce, kc, nb⟩ := s
  exact inv_nxt h hc ho
theorem inv_opnS {k : Nat} (h : Inv s t) (hk : k < 200) (hc : cnS s < 20) : Inv (opnS s k) t := by
  obtain ⟨lv, lev, lo, hi, ri, sz, ky, vl, go, rt, ep, wq, wn, cn, op, cl, ca, ce, kc, nb⟩ := s
  exact inv_opn h hk hc
theorem nxt_val {c x : Nat} (h : Inv s t) (hc : c < cnS s) (ho : opB s c = true) (hx : (nxtS s c).2 = some x) : x < 2 ^ 31 := by
  obtain ⟨lv, lev, lo, hi, ri, sz, ky, vl, go, rt, ep, wq, wn, cn, op, cl, ca, ce, kc, nb⟩ := s
  have hP := h.1
  have hC : CuI lv lev go ep cn op cl ca ce := h.2.2.1
  obtain ⟨d1, d2, d3⟩ := (hC.2 c hc).2.2 ho
  obtain ⟨w1, -, -⟩ := wk_at (b := ca c) hP 800 _ d1 d2 d3
  unfold nxtS nxeS at hx
  dsimp only at hx
  generalize wkF ri sz ky (ca c) 800 (cl c) = p at hx w1
  by_cases q : cnt (sz p) (pk ky p) (ca c) < sz p
  · rw [if_pos q] at hx
    have e := Option.some.inj hx
    have := (hP.2.1 p w1 _ q).2.1
    have := hP.1 p w1
    omega
  · rw [if_neg q] at hx; cases hx
theorem do_inv {w : Nat} {a b : Int32} (h : Inv s t) (ht : t < 512) : Inv (doF w s a b).1 (t + 1) := by
  unfold doF
  split
  · split
    · rename_i k u h1 h2; exact inv_put h ht (kN_at (by decide) h1).1 (kN_at (by decide) h2).1
    · exact inv_up h ht
  · split
    · rename_i k h1; exact inv_up (inv_tak h (kN_at (by decide) h1).1) ht
    · exact inv_up h ht
  · split
    · rename_i h1; exact inv_up (inv_pos h h1).1 ht
    · exact inv_up h ht
  · split
    · rename_i k h1
      split
      · rename_i h2; exact inv_up (inv_opnS h (kN_at (by decide) h1).1 h2) ht
      · exact inv_up h ht
    · exact inv_up h ht
  · split
    · rename_i k h1
      split
      · rename_i h2; exact inv_up (inv_nxtS h h2.1 h2.2) ht
      · exact inv_up h ht
    · exact inv_up h ht
  · split
    · rename_i k h1
      split
      · exact inv_up (inv_clo h) ht
      · exact inv_up h ht
    · exact inv_up h ht
theorem do_tak {a b : Int32} (h : Inv s t) : Inv (doF 1 s a b).1 t := by
  show Inv (match kN a 200 with
    | some k => ((takS s k).1, oI (takS s k).2)
    | none => (s, -99999)).1 t
  split
  · rename_i k h1; exact inv_tak h (kN_at (by decide) h1).1
  · exact h
theorem do_cn {w : Nat} {a b : Int32} (h : Inv s t) (hN : CN s) : CN (doF w s a b).1 := by
  unfold doF
  split
  · split
    · rename_i k u h1 h2; exact cn_put h (kN_at (by decide) h1).1 hN
    · exact hN
  · split
    · rename_i k h1; exact cn_tak h (kN_at (by decide) h1).1 hN
    · exact hN
  · split
    · rename_i h1; exact cn_posS h h1 hN
    · exact hN
  · split
    · rename_i k h1
      split
      · exact cn_opn hN
      · exact hN
    · exact hN
  · split
    · rename_i k h1
      split
      · exact cn_nxt hN
      · exact hN
    · exact hN
  · split
    · rename_i k h1
      split
      · exact cn_clo hN
      · exact hN
    · exact hN
theorem do_same {w : Nat} {a b : Int32} (h : Inv s t) : (doF w s a b).2 = -99999 → (doF w s a b).1 = s := by
  unfold doF
  split
  · split
    · rename_i k u h1 h2
      intro e
      refine absurd e (oI_ok (fun x hx => ?_))
      rw [put_2] at hx
      have := get_val h (kN_at (by decide) h1).1 hx
      omega
    · intro _; rfl
  · split
    · rename_i k h1
      intro e
      refine absurd e (oI_ok (fun x hx => ?_))
      rw [tak_2] at hx
      have := get_val h (kN_at (by decide) h1).1 hx
      omega
    · intro _; rfl
  · by_cases h1 : 0 < waits s
    · rw [if_pos h1]
      intro e
      have q := inv_nb (inv_pos h h1).1
      exact absurd e (nI_ok (by omega))
    · rw [if_neg h1]; intro _; rfl
  · split
    · by_cases h1 : cnS s < 20
      · rw [if_pos h1]
        intro e
        exact absurd e (nI_ok (by omega))
      · rw [if_neg h1]; intro _; rfl
    · intro _; rfl
  · split
    · rename_i k hk
      by_cases h2 : k < cnS s ∧ opB s k = true
      · rw [if_pos h2]
        intro e
        exact absurd e (oI_ok (fun x hx => nxt_val h h2.1 h2.2 hx))
      · rw [if_neg h2]; intro _; rfl
    · intro _; rfl
  · split
    · rename_i k hk
      by_cases h2 : k < cnS s ∧ opB s k = true
      · rw [if_pos h2]
        intro e
        have := cntB_le (cnS s) (va_up (opB s) k false)
        have := cn_20 h
        exact absurd e (nI_ok (by omega))
      · rw [if_neg h2]; intro _; rfl
    · intro _; rfl
theorem do_P {w : Nat} {a b : Int32} : nbS s + waits (doF w s a b).1 ≤ nbS (doF w s a b).1 + waits s := by
  unfold doF
  split
  · split
    · exact put_P
    · exact Nat.le_refl _
  · split
    · exact tak_P
    · exact Nat.le_refl _
  · split
    · rename_i h1
      exact Nat.le_of_succ_le (pos_P h1)
    · exact Nat.le_refl _
  · split
    · split
      · exact opn_P
      · exact Nat.le_refl _
    · exact Nat.le_refl _
  · split
    · split
      · exact nxt_P
      · exact Nat.le_refl _
    · exact Nat.le_refl _
  · split
    · split
      · exact clo_P
      · exact Nat.le_refl _
    · exact Nat.le_refl _
end DO
