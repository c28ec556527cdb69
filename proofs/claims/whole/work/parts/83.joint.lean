/-! The law: both worlds together. -/
section JN0
variable {G : GG} {A : Nat → Prop} {ad ad1 ad2 : Lb → Nat} {dm dm1 dm2 : Lb → Prop} {ct ct1 ct2 ct5 ct6 : Lb → va_E} {s S S2 : SG} {th fo t : Nat} {a0 a1 a2 : Nat} {cells slots cells2 slots2 : Nat}
theorem HK.far (h : HK G ad dm ct s) (hz : ∀ z : Lb, z.1 < 7 → ad1 z = ad z ∧ ct1 z = ct z ∧ (dm1 z ↔ dm z)) : HK G ad1 dm1 ct1 s := by
  obtain ⟨lv, lev, lo, hi, ri, sz, ky, vl, go, rt, ep, wq, wn, cn, op, cl, ca, ce, kc, nb⟩ := s
  have h2 : HKF G ad dm ct lv lev lo hi ri sz ky vl go rt ep wq wn cn op cl ca ce kc nb := h
  have h3 : HKF G ad1 dm1 ct1 lv lev lo hi ri sz ky vl go rt ep wq wn cn op cl ca ce kc nb := h2.far hz
  exact h3
theorem MD.far (h : MD G ad dm ct s th fo) (hz : ∀ k, ad1 (10, k) = ad (10, k) ∧ ct1 (10, k) = ct (10, k) ∧ (dm1 (10, k) ↔ dm (10, k))) : MD G ad1 dm1 ct1 s th fo := by
  obtain ⟨lv, lev, lo, hi, ri, sz, ky, vl, go, rt, ep, wq, wn, cn, op, cl, ca, ce, kc, nb⟩ := s
  have h2 : MDF G ad dm ct lv lev lo hi ri sz ky vl go rt ep wq wn cn op cl ca ce kc nb th fo := h
  obtain ⟨h0, g0, g1, g2, g3, g4, g5, g6, g7, g8, g9, g10, g11, g12, g13, g14⟩ := h2
  have e : MF ad1 th rt ep wn cn fo = MF ad th rt ep wn cn fo := by
    unfold MF
    rw [(hz 1).1, (hz 2).1, (hz 3).1, (hz 4).1, (hz 5).1, (hz 6).1, (hz 7).1, (hz 8).1, (hz 9).1, (hz 10).1, (hz 11).1, (hz 12).1, (hz 13).1, (hz 14).1]
  have h3 : MDF G ad1 dm1 ct1 lv lev lo hi ri sz ky vl go rt ep wq wn cn op cl ca ce kc nb th fo := ⟨fun k hk => (hz k).2.2.mpr (h0 k hk), (hz 0).2.1.trans (by rw [e]; exact g0), (hz 1).2.1.trans g1, (hz 2).2.1.trans g2, (hz 3).2.1.trans g3, (hz 4).2.1.trans g4, (hz 5).2.1.trans g5, (hz 6).2.1.trans g6, (hz 7).2.1.trans g7, (hz 8).2.1.trans g8, (hz 9).2.1.trans g9, (hz 10).2.1.trans g10, (hz 11).2.1.trans g11, (hz 12).2.1.trans g12, (hz 13).2.1.trans g13, (hz 14).2.1.trans g14⟩
  exact h3
theorem MD.o0 (h : MD G ad dm ct s th fo) : dm (10, 0) ∧ ∃ fs, ct (10, 0) = .inr (4, fs) := by
  obtain ⟨lv, lev, lo, hi, ri, sz, ky, vl, go, rt, ep, wq, wn, cn, op, cl, ca, ce, kc, nb⟩ := s
  have h2 : MDF G ad dm ct lv lev lo hi ri sz ky vl go rt ep wq wn cn op cl ca ce kc nb th fo := h
  exact ⟨h2.1 0 (by decide), _, h2.2.1⟩
theorem c_thrown (l : Launch) (G : GG) (A : Nat → Prop) (ad : Lb → Nat) (dm : Lb → Prop) (ct : Lb → va_E) (s : SG) (th fo : Nat) (h : MD G ad dm ct s th fo) :
    CT l yX3_thrown cX3_thrown 1 (some FieldType.int) { frames := 0, cells := 0, slots := 0, locals := 0 } [.ref (ad (10, 0))] G A (ad, dm, ct) (fun v w' => (ad, dm, ct) = w' ∧ v = some (.int (nI th))) (fun _ => False) 0 0 := by
  obtain ⟨lv, lev, lo, hi, ri, sz, ky, vl, go, rt, ep, wq, wn, cn, op, cl, ca, ce, kc, nb⟩ := s
  exact c_X3_thrown l G A ad dm ct lv lev lo hi ri sz ky vl go rt ep wq wn cn op cl ca ce kc nb th fo h
theorem md_pass (h : MD G ad dm ct s th fo) (hF : FH ad dm ct ad2 dm2 ct2) (h5 : ∀ z, z ≠ (20, 0) → ct5 z = ct2 z) : MD G ad2 dm2 ct5 s th fo :=
  h.far fun k => by
    have q := hF.1 (10, k) (by show 7 ≤ 10; decide)
    exact ⟨q.1, (h5 _ (lb_ne (by decide))).trans q.2.1, q.2.2⟩
theorem add_P {p x v : Nat} : nbS s + waits (addS s p x v) ≤ nbS (addS s p x v) + waits s := by
  obtain ⟨lv, lev, lo, hi, ri, sz, ky, vl, go, rt, ep, wq, wn, cn, op, cl, ca, ce, kc, nb⟩ := s
  by_cases c : sz p = 4
  · rw [addS_eq c]; show nb + (wn + 1) ≤ nb + 1 + wn; omega
  · rw [addS_lt c]; show nb + wn ≤ nb + wn; exact Nat.le_refl _
theorem pos_P (h : 0 < waits s) : nbS s + waits (posS s) + 1 ≤ nbS (posS s) + waits s := by
  obtain ⟨lv, lev, lo, hi, ri, sz, ky, vl, go, rt, ep, wq, wn, cn, op, cl, ca, ce, kc, nb⟩ := s
  have h : 0 < wn := h
  by_cases c : lev (wq 0) = lev rt
  · rw [posS_eq c]; show nb + (wn - 1) + 1 ≤ nb + 1 + wn; omega
  · rw [posS_ne c]
    have h2 := add_P (s := popS (lv, lev, lo, hi, ri, sz, ky, vl, go, rt, ep, wq, wn, cn, op, cl, ca, ce, kc, nb)) (p := (dnF lev hi ri sz ky vl (lo (wq 0)) (lev (wq 0) + 1) 2000 rt).1) (x := lo (wq 0)) (v := wq 0)
    have e1 : nbS (popS (lv, lev, lo, hi, ri, sz, ky, vl, go, rt, ep, wq, wn, cn, op, cl, ca, ce, kc, nb)) = nb := rfl
    have e2 : waits (popS (lv, lev, lo, hi, ri, sz, ky, vl, go, rt, ep, wq, wn, cn, op, cl, ca, ce, kc, nb)) = wn - 1 := rfl
    rw [e1, e2] at h2
    show nb + waits (addS (popS (lv, lev, lo, hi, ri, sz, ky, vl, go, rt, ep, wq, wn, cn, op, cl, ca, ce, kc, nb)) _ _ _) + 1 ≤ nbS (addS (popS (lv, lev, lo, hi, ri, sz, ky, vl, go, rt, ep, wq, wn, cn, op, cl, ca, ce, kc, nb)) _ _ _) + wn
    omega
theorem pa_P (f : Nat) : ∀ s : SG, nbS s + waits (paS f s).1 + (paS f s).2 ≤ nbS (paS f s).1 + waits s := by
  induction f with
  | zero => intro s; exact Nat.le_refl _
  | succ f ih =>
    intro s
    by_cases c : waits s = 0
    · have e : paS (f + 1) s = (s, 0) := if_pos c
      rw [e]; exact Nat.le_refl _
    · have e : paS (f + 1) s = ((paS f (posS s)).1, (paS f (posS s)).2 + 1) := if_neg c
      rw [e]
      have h1 := ih (posS s)
      have h2 := pos_P (s := s) (by omega)
      dsimp only
      omega
theorem kcS_P {k : Nat} : nbS (kcS s k) = nbS s ∧ waits (kcS s k) = waits s := by
  obtain ⟨lv, lev, lo, hi, ri, sz, ky, vl, go, rt, ep, wq, wn, cn, op, cl, ca, ce, kc, nb⟩ := s
  show nb = nb ∧ wn = wn
  exact ⟨rfl, rfl⟩
theorem put_P {k v : Nat} : nbS s + waits (putS s k v).1 ≤ nbS (putS s k v).1 + waits s := by
  obtain ⟨lv, lev, lo, hi, ri, sz, ky, vl, go, rt, ep, wq, wn, cn, op, cl, ca, ce, kc, nb⟩ := s
  unfold putS
  dsimp only
  split
  · show nb + wn ≤ nb + wn; exact Nat.le_refl _
  · dsimp only
    rw [kcS_P.1, kcS_P.2]; exact add_P
theorem tak_P {k : Nat} : nbS s + waits (takS s k).1 ≤ nbS (takS s k).1 + waits s := by
  obtain ⟨lv, lev, lo, hi, ri, sz, ky, vl, go, rt, ep, wq, wn, cn, op, cl, ca, ce, kc, nb⟩ := s
  unfold takS
  dsimp only
  split
  · show nb + wn ≤ nb + wn; exact Nat.le_refl _
  · show nb + wn ≤ nb + wn; exact Nat.le_refl _
theorem tou_P {r : SG × Option Nat} (h : TouR s r) : nbS s + waits r.1 ≤ nbS r.1 + waits s := by
  obtain ⟨lv, lev, lo, hi, ri, sz, ky, vl, go, rt, ep, wq, wn, cn, op, cl, ca, ce, kc, nb⟩ := s
  rcases h with ⟨p, j, q, -, -, -, -, rfl⟩ | ⟨-, rfl⟩ <;> (show nb + wn ≤ nb + wn) <;> exact Nat.le_refl _
theorem rec_P : nbS s + waits (recS s).1 ≤ nbS (recS s).1 + waits s := by
  obtain ⟨lv, lev, lo, hi, ri, sz, ky, vl, go, rt, ep, wq, wn, cn, op, cl, ca, ce, kc, nb⟩ := s
  show nb + wn ≤ nb + wn; exact Nat.le_refl _
theorem opn_P {k : Nat} : nbS s + waits (opnS s k) ≤ nbS (opnS s k) + waits s := by
  obtain ⟨lv, lev, lo, hi, ri, sz, ky, vl, go, rt, ep, wq, wn, cn, op, cl, ca, ce, kc, nb⟩ := s
  show nb + wn ≤ nb + wn; exact Nat.le_refl _
theorem clo_P {k : Nat} : nbS s + waits (cloS s k) ≤ nbS (cloS s k) + waits s := by
  obtain ⟨lv, lev, lo, hi, ri, sz, ky, vl, go, rt, ep, wq, wn, cn, op, cl, ca, ce, kc, nb⟩ := s
  show nb + wn ≤ nb + wn; exact Nat.le_refl _
theorem nxt_P {k : Nat} : nbS s + waits (nxtS s k).1 ≤ nbS (nxtS s k).1 + waits s := by
  obtain ⟨lv, lev, lo, hi, ri, sz, ky, vl, go, rt, ep, wq, wn, cn, op, cl, ca, ce, kc, nb⟩ := s
  unfold nxtS nxeS
  dsimp only
  split <;> (show nb + wn ≤ nb + wn) <;> exact Nat.le_refl _
/-- between the calls of the script: class and reference in one state, t calls made -/
def JN (G : GG) (a0 a1 a2 : Nat) (ad : Lb → Nat) (dm : Lb → Prop) (ct : Lb → va_E) (S : SG) (t cells slots : Nat) : Prop :=
  HK G ad dm ct S ∧ (∃ th fo, MD G ad dm ct S th fo) ∧ Inv S t ∧ (ad (0, 0) = a0 ∧ ad (10, 0) = a1 ∧ ad (20, 0) = a2) ∧ (dm (20, 0) ∧ ∃ f, ct (20, 0) = .inl (G.2.1 5, 1, .inr (.inl f))) ∧ ¬ dm (7, 0) ∧
  cells + 5 * waits S ≤ 30 + 20 * t + 5 * nbS S ∧ slots + 826 * waits S ≤ 20000 + 2000 * t + 826 * nbS S
theorem JN.room (h : JN G a0 a1 a2 ad dm ct S t cells slots) : cells ≤ 13000 ∧ slots ≤ 1500000 := by
  obtain ⟨-, -, hI, -, -, -, h1, h2⟩ := h
  obtain ⟨-, -, k1, k2, -⟩ := Inv_iff.mp hI
  constructor <;> omega
/-- .. behind a call -/
theorem jn_mk (n : Nat) (hJ : JN G a0 a1 a2 ad dm ct S t cells slots) (hF : FH ad dm ct ad2 dm2 ct2) (hK : HK G ad2 dm2 ct2 S2) {f5 : Nat → Int64} (h5 : ct5 (20, 0) = .inl (G.2.1 5, 1, .inr (.inl f5))) (hf5 : ∀ z, z ≠ (20, 0) → ct5 z = ct2 z) (hX : XM ct5 ct6) (hM : MD G ad2 dm2 ct6 S2 th fo) (hI : Inv S2 (t + 1))
    (hP : nbS S + waits S2 + n ≤ nbS S2 + waits S) (hc : cells2 ≤ cells + 20 + 5 * n) (hs : slots2 ≤ slots + 2000 + 826 * n) : JN G a0 a1 a2 ad2 dm2 ct6 S2 (t + 1) cells2 slots2 := by
  obtain ⟨-, -, -, ⟨b0, b1, b2⟩, ⟨c1, f, c2⟩, d7, r1, r2⟩ := hJ
  have q1 := hF.1 (10, 0) (by decide)
  have q2 := hF.1 (20, 0) (by decide)
  have q7 := hF.1 (7, 0) (by decide)
  refine ⟨hK.far (fun z hz => ⟨rfl, (hX z (by omega)).trans (hf5 z (by rintro rfl; simp at hz)), Iff.rfl⟩), ⟨_, _, hM⟩, hI, ⟨hF.2.trans b0, q1.1.trans b1, q2.1.trans b2⟩, ⟨q2.2.2.mpr c1, f5, (hX _ (by decide)).trans h5⟩, fun q => d7 (q7.2.2.mp q), ?_, ?_⟩ <;> omega
end JN0
