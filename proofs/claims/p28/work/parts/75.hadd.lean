/-! The class: adding to a page. -/
section ADD
variable {G : GG} {A : Nat → Prop} {H : Heap} {ad ad1 ad3 : Lb → Nat} {dm dm1 dm3 : Lb → Prop} {ct ct1 ct2 ct3 ct5 : Lb → va_E} {lv : Nat → Bool} {lev lo hi : Nat → Nat} {ri : Nat → Option Nat} {sz ky vl : Nat → Nat} {go : Nat → Option Nat} {rt ep : Nat} {wq : Nat → Nat} {wn cn : Nat} {op : Nat → Bool} {cl ca ce : Nat → Nat} {kc nb : Nat} {oo p q x v n : Nat} {kf vf kf2 vf2 : Nat → Int32} {cf cf2 : Nat → Option Nat}
theorem pc_ins {y : Int32} {r : Option Nat} (hC : PC ad lev sz ky vl p kf vf cf) (hq : q ≤ sz p) (h1 : Ins q (sz p) (nI x) kf kf2) (h2 : Ins q (sz p) y vf vf2) (h3 : Ins q (sz p) r cf cf2) (hr0 : lev p = 0 → y = nI v ∧ r = none) (hr1 : 0 < lev p → r = some (ad (1, v))) :
    PC ad lev (va_up sz p (sz p + 1)) (insA ky p q (sz p) x) (insA vl p q (sz p) v) p kf2 vf2 cf2 := by
  intro k hk
  rw [va_up_self] at hk
  rcases Nat.lt_trichotomy k q with c | c | c
  · rw [h1.1 k c, h2.1 k c, h3.1 k c, insA_lt c, insA_lt c]; exact hC k (by omega)
  · subst c
    rw [h1.2.1, h2.2.1, h3.2.1, insA_eq, insA_eq]; exact ⟨rfl, hr0, hr1⟩
  · obtain ⟨j, rfl⟩ : ∃ j, k = j + 1 := ⟨k - 1, by omega⟩
    rw [h1.2.2 j (by omega) (by omega), h2.2.2 j (by omega) (by omega), h3.2.2 j (by omega) (by omega), insA_gt c (by omega), insA_gt c (by omega)]
    exact hC j (by omega)
theorem pc_del {j : Nat} (hC : PC ad lev sz ky vl p kf vf cf) (hj : j < sz p) (h1 : Del j (sz p) kf kf2) (h2 : Del j (sz p) vf vf2) (h3 : Del j (sz p) cf cf2) :
    PC ad lev (va_up sz p (sz p - 1)) (delA ky p j (sz p)) (delA vl p j (sz p)) p kf2 vf2 cf2 := by
  intro k hk
  rw [va_up_self] at hk
  rcases Nat.lt_or_ge k j with c | c
  · rw [h1.1 k c, h2.1 k c, h3.1 k c, delA_lt c, delA_lt c]; exact hC k (by omega)
  · rw [h1.2 k c (by omega), h2.2 k c (by omega), h3.2 k c (by omega), delA_ge c (by omega), delA_ge c (by omega)]; exact hC (k + 1) (by omega)
theorem cnt_x1 (hP : PgI lv lev lo hi ri sz ky vl go rt ep nb oo) (hl : lv p = true) (hx : ∀ k, k < sz p → ky (5 * p + k) ≠ x) : cnt (sz p) (pk ky p) (x + 1) = cnt (sz p) (pk ky p) x := by
  obtain ⟨h1, h2⟩ := cnt_at hP hl hx
  exact (cnt_eq _ _ _ _ (cnt_le _ _ _) (fun k hk => h1 k hk) (fun k hk hk2 => Nat.le_of_lt (h2 k hk hk2))).symm
theorem HKF.is1 (hH : HKF G ad dm ct lv lev lo hi ri sz ky vl go rt ep wq wn cn op cl ca ce kc nb) (hv : lv n = true) : isP1 ad dm ct (some (ad (1, n))) := by
  obtain ⟨kf, vf, cf, ta, a, b, d⟩ := hH.2.2.2.2.2.2.1 n hv
  exact ⟨n, _, rfl, a.1.1, a.2.1⟩
theorem HKF.isP (hH : HKF G ad dm ct lv lev lo hi ri sz ky vl go rt ep wq wn cn op cl ca ce kc nb) (hv : lv n = true) : isPg ad dm ct (some (ad (1, n))) := by
  obtain ⟨kf, vf, cf, ta, a, b, d⟩ := hH.2.2.2.2.2.2.1 n hv
  intro w hw
  exact ⟨n, _, a.1.1, Option.some.inj hw, a.2.1⟩
theorem isPg_n : isPg ad dm ct none := fun w hw => by cases hw
theorem ch_pg (hH : HKF G ad dm ct lv lev lo hi ri sz ky vl go rt ep wq wn cn op cl ca ce kc nb) (hP : PgI lv lev lo hi ri sz ky vl go rt ep nb oo) (hA : Al lv go p) (hC : PC ad lev sz ky vl p kf vf cf) : ∀ k, k < sz p → isPg ad dm ct (cf k) := by
  intro k hk
  rcases Nat.eq_zero_or_pos (lev p) with h | h
  · rw [((hC k hk).2.1 h).2]; exact isPg_n
  · rw [(hC k hk).2.2 h]; exact hH.isP ((hP.2.2.2.2.2.1 p hA h).2.2 k hk).1.1
theorem PS.cg {lev2 lo2 hi2 : Nat → Nat} {ri2 : Nat → Option Nat} {sz2 ky2 vl2 : Nat → Nat} {go2 : Nat → Option Nat} (h : PS G ad dm ct lev lo hi ri sz ky vl go n) (e1 : lev2 n = lev n) (e2 : lo2 n = lo n) (e3 : hi2 n = hi n) (e4 : ri2 n = ri n) (e5 : sz2 n = sz n) (e6 : go2 n = go n)
    (e7 : ∀ k, k < sz n → ky2 (5 * n + k) = ky (5 * n + k) ∧ vl2 (5 * n + k) = vl (5 * n + k)) : PS G ad dm ct lev2 lo2 hi2 ri2 sz2 ky2 vl2 go2 n := by
  obtain ⟨kf, vf, cf, ta, a, b, d⟩ := h
  refine ⟨kf, vf, cf, ta, ?_, fun k hk => ?_, by rw [e6]; exact d⟩
  · unfold rA dI at a ⊢
    rw [e1, e2, e3, e4, e5, e6]; exact a
  · rw [e5] at hk
    rw [e1, (e7 k hk).1, (e7 k hk).2]; exact b k hk
/-- an entry more -/
theorem HKF.ins {y : Int32} {r : Option Nat} {ta : Nat} (hH : HKF G ad dm ct lv lev lo hi ri sz ky vl go rt ep wq wn cn op cl ca ce kc nb) (hP : PgI lv lev lo hi ri sz ky vl go rt ep nb 800) (hb9 : nb ≤ 513) (hA : Al lv go p) (hx9 : x < 200) (hx3 : ∀ k, k < sz p → ky (5 * p + k) ≠ x) (hC : PC ad lev sz ky vl p kf vf cf) (hT : ∀ e, go p = some e → ta = e)
    (hq : q ≤ sz p) (hq1 : ∀ k, k < q → kf k < nI x) (hq2 : q < sz p → ¬ kf q < nI x) (hPG : PG G ad dm ct1 p (lev p) (lo p) (sz p + 1) (hi p) (rA ad ri p) (dI go p) ta kf2 vf2 cf2) (hX : XP p ct ct1) (h1 : Ins q (sz p) (nI x) kf kf2) (h2 : Ins q (sz p) y vf vf2) (h3 : Ins q (sz p) r cf cf2)
    (hr0 : lev p = 0 → y = nI v ∧ r = none) (hr1 : 0 < lev p → r = some (ad (1, v))) :
    HKF G ad dm ct1 lv lev lo hi ri (va_up sz p (sz p + 1)) (insA ky p (cnt (sz p) (pk ky p) (x + 1)) (sz p) x) (insA vl p (cnt (sz p) (pk ky p) (x + 1)) (sz p) v) go rt ep wq wn cn op cl ca ce kc nb ∧
    PC ad lev (va_up sz p (sz p + 1)) (insA ky p (cnt (sz p) (pk ky p) (x + 1)) (sz p) x) (insA vl p (cnt (sz p) (pk ky p) (x + 1)) (sz p) v) p kf2 vf2 cf2 := by
  have hqc := q_cnt hP hA.1 hC (by omega) hq hq1 hq2
  have h4 := pgi_s4 hP hb9 hA.1
  rw [cnt_x1 hP hA.1 hx3, hqc]
  have hpc := pc_ins hC hq h1 h2 h3 hr0 hr1
  refine ⟨hH.page hX (fun n hn hne => ⟨rfl, rfl, va_up_ne _ _ hne, rfl, fun k hk => ?_⟩) ⟨kf2, vf2, cf2, ta, by rw [va_up_self]; exact hPG, hpc, hT⟩, hpc⟩
  have h5 := pgi_s5 hP hn
  exact ⟨insA_ne hne hq h4 (by omega), insA_ne hne hq h4 (by omega)⟩
/-- an entry less -/
theorem HKF.del {j ta : Nat} (hH : HKF G ad dm ct lv lev lo hi ri sz ky vl go rt ep wq wn cn op cl ca ce kc nb) (hP : PgI lv lev lo hi ri sz ky vl go rt ep nb 800) (hb9 : nb ≤ 513) (hv : lv p = true) (hC : PC ad lev sz ky vl p kf vf cf) (hT : ∀ e, go p = some e → ta = e) (hj : j < sz p)
    (hPG : PG G ad dm ct1 p (lev p) (lo p) (sz p - 1) (hi p) (rA ad ri p) (dI go p) ta kf2 vf2 cf2) (hX : XP p ct ct1) (h1 : Del j (sz p) kf kf2) (h2 : Del j (sz p) vf vf2) (h3 : Del j (sz p) cf cf2) :
    HKF G ad dm ct1 lv lev lo hi ri (va_up sz p (sz p - 1)) (delA ky p j (sz p)) (delA vl p j (sz p)) go rt ep wq wn cn op cl ca ce kc nb := by
  have h4 := pgi_s4 hP hb9 hv
  have hpc := pc_del hC hj h1 h2 h3
  refine hH.page hX (fun n hn hne => ⟨rfl, rfl, va_up_ne _ _ hne, rfl, fun k hk => ?_⟩) ⟨kf2, vf2, cf2, ta, by rw [va_up_self]; exact hPG, hpc, hT⟩
  have h5 := pgi_s5 hP hn
  exact ⟨delA_ne hne (by omega) (by omega), delA_ne hne (by omega) (by omega)⟩
/-- pages and the object anew, the rest as it was -/
theorem HKF.gen {lv2 : Nat → Bool} {lev2 lo2 hi2 : Nat → Nat} {ri2 : Nat → Option Nat} {sz2 ky2 vl2 : Nat → Nat} {go2 : Nat → Option Nat} {rt2 ep2 kc2 nb2 : Nat} (hH : HKF G ad dm ct lv lev lo hi ri sz ky vl go rt ep wq wn cn op cl ca ce kc nb)
    (hz : ∀ z : Lb, z.1 = 0 ∨ 4 < z.1 → ad3 z = ad z ∧ (dm3 z ↔ dm z) ∧ (z ≠ (0, 1) → z ≠ (0, 0) → ct3 z = ct z)) (h01 : ct3 (0, 1) = .inl (G.2.1 2, 1024, .inr (.inr (.inr (.inr (pfA ad3 lv2)))))) (h00 : ct3 (0, 0) = .inr (3, HO ad3 rt2 kc2 ep2 cn))
    (hPS : ∀ n, lv2 n = true → PS G ad3 dm3 ct3 lev2 lo2 hi2 ri2 sz2 ky2 vl2 go2 n) (hno : ∀ n, lv2 n = false → ∀ k, 1 ≤ k → k ≤ 4 → ¬ dm3 (k, n)) (hwq : ∀ j, j < wn → ad3 (1, wq j) = ad (1, wq j)) (hcl : ∀ c, c < cn → op c = true → ad3 (1, cl c) = ad (1, cl c)) :
    HKF G ad3 dm3 ct3 lv2 lev2 lo2 hi2 ri2 sz2 ky2 vl2 go2 rt2 ep2 wq wn cn op cl ca ce kc2 nb2 := by
  obtain ⟨⟨h1, h1', h1''⟩, h2, h3, h4, ⟨mc, cap, f, h5, h5'⟩, ⟨h6, h6'⟩, h7, h8, h9⟩ := hH
  have ec : cfA ad3 cn = cfA ad cn := by funext n; unfold cfA; rw [(hz (5, n) (Or.inr (by show 4 < 5; decide))).1]
  refine ⟨⟨(hz _ (Or.inl rfl)).2.1.mpr h1, (hz _ (Or.inl rfl)).2.1.mpr h1', (hz _ (Or.inl rfl)).2.1.mpr h1''⟩, h00, h01, ((hz (0, 4) (Or.inl rfl)).2.2 (by decide) (by decide)).trans (by rw [ec]; exact h4), ⟨mc, cap, f, ?_, fun j hj => by rw [hwq j hj]; exact h5' j hj⟩, ⟨fun c hc => ?_, fun c hc q => h6' c hc ((hz _ (Or.inr (by show 4 < 5; decide))).2.1.mp q)⟩, hPS, hno, fun q => h9 ((hz _ (Or.inr (by decide))).2.1.mp q)⟩
  · have z2 := hz (0, 2) (Or.inl rfl)
    have z3 := hz (0, 3) (Or.inl rfl)
    have w2 := z2.2.2 (by decide) (by decide)
    have w3 := z3.2.2 (by decide) (by decide)
    obtain ⟨g1, g2⟩ := h5
    refine ⟨z2.2.1.mpr g1, ?_⟩
    rcases g2 with ⟨a, b, c, d⟩ | ⟨a, b, c, d, e, g⟩
    · exact Or.inl ⟨fun q => a (z3.2.1.mp q), b, c, w2.trans d⟩
    · exact Or.inr ⟨z3.2.1.mpr a, b, c, d, w2.trans (by rw [z3.1]; exact e), w3.trans g⟩
  · obtain ⟨a, r, b, d⟩ := h6 c hc
    have y := hz (5, c) (Or.inr (by show 4 < 5; decide))
    exact ⟨y.2.1.mpr a, r, (y.2.2 (lb_ne (by decide)) (lb_ne (by decide))).trans b, fun ho => by rw [hcl c hc ho]; exact d ho⟩
/-- the list anew -/
theorem HKF.lst {wq2 : Nat → Nat} {wn2 : Nat} {mc2 : Int32} {cap2 : Nat} {f2 : Nat → Option Nat} (hH : HKF G ad dm ct lv lev lo hi ri sz ky vl go rt ep wq wn cn op cl ca ce kc nb) (hX : XL ad dm ct ad3 dm3 ct3) (hL : LL G ad3 dm3 ct3 mc2 wn2 cap2 f2) (hf : ∀ j, j < wn2 → f2 j = some (ad (1, wq2 j))) :
    HKF G ad3 dm3 ct3 lv lev lo hi ri sz ky vl go rt ep wq2 wn2 cn op cl ca ce kc nb := by
  have y : ∀ z : Lb, z ≠ (0, 2) → z ≠ (0, 3) → ad3 z = ad z ∧ ct3 z = ct z ∧ (dm3 z ↔ dm z) := hX.1
  obtain ⟨⟨h1, h1', h1''⟩, h2, h3, h4, -, ⟨h6, h6'⟩, h7, h8, h9⟩ := hH
  have a1 : ∀ n, ad3 (1, n) = ad (1, n) := fun n => (y _ (lb_ne (by decide)) (lb_ne (by decide))).1
  have y0 := y (0, 0) (by decide) (by decide)
  have y1 := y (0, 1) (by decide) (by decide)
  have y4 := y (0, 4) (by decide) (by decide)
  have eo : HO ad3 rt kc ep cn = HO ad rt kc ep cn := by unfold HO; rw [y1.1, hX.2.1, y4.1, a1, a1]
  have ep' : pfA ad3 lv = pfA ad lv := by funext n; unfold pfA; rw [a1]
  have ec : cfA ad3 cn = cfA ad cn := by funext n; unfold cfA; rw [(y (5, n) (lb_ne (by decide)) (lb_ne (by decide))).1]
  refine ⟨⟨y0.2.2.mpr h1, y1.2.2.mpr h1', y4.2.2.mpr h1''⟩, y0.2.1.trans (by rw [eo]; exact h2), y1.2.1.trans (by rw [ep']; exact h3), y4.2.1.trans (by rw [ec]; exact h4), ⟨mc2, cap2, f2, hL, fun j hj => by rw [a1]; exact hf j hj⟩, ⟨fun c hc => ?_, fun c hc q => h6' c hc ((y _ (lb_ne (by decide)) (lb_ne (by decide))).2.2.mp q)⟩,
    fun n hn => (h7 n hn).kp (fun r _ => a1 r) (fun k _ _ => a1 _) (fun k k1 k2 => y _ (lb_ne (by omega)) (lb_ne (by omega))), fun n hn k k1 k2 q => h8 n hn k k1 k2 ((y _ (lb_ne (by omega)) (lb_ne (by omega))).2.2.mp q), fun q => h9 ((y _ (lb_ne (by decide)) (lb_ne (by decide))).2.2.mp q)⟩
  obtain ⟨a, r, b, d⟩ := h6 c hc
  have y5 := y (5, c) (lb_ne (by decide)) (lb_ne (by decide))
  exact ⟨y5.2.2.mpr a, r, y5.2.1.trans b, fun ho => by rw [a1]; exact d ho⟩
theorem XL.ofc (h : XLc ct ct1) : XL ad dm ct ad dm ct1 := ⟨fun z a b => ⟨rfl, h z a b, Iff.rfl⟩, rfl, Iff.rfl⟩
theorem PG.kp5 {le lo sz hi : Nat} {ri : Option Nat} {de ta : Nat} (h : PG G ad dm ct n le lo sz hi ri de ta kf vf cf) (hz : ∀ k, 1 ≤ k → ct1 (k, n) = ct (k, n)) : PG G ad dm ct1 n le lo sz hi ri de ta kf vf cf :=
  ⟨h.1, (hz 1 (by decide)).trans h.2.1, (hz 2 (by decide)).trans h.2.2.1, (hz 3 (by decide)).trans h.2.2.2.1, (hz 4 (by decide)).trans h.2.2.2.2⟩
/-- the page p split, m is its right half -/
theorem HKF.spl {m ta : Nat} (hH : HKF G ad dm ct lv lev lo hi ri sz ky vl go rt ep wq wn cn op cl ca ce kc nb) (hP : PgI lv lev lo hi ri sz ky vl go rt ep nb p) (hQ : ∀ j, j < wn → lv (wq j) = true) (hCu : ∀ c, c < cn → op c = true → lv (cl c) = true) (hrt : lv rt = true) (h0 : lv 0 = true) (hA : Al lv go p) (h5 : sz p = 5) (hm : lv m = false)
    (hC : PC ad lev sz ky vl p kf vf cf) (hT : ∀ e, go p = some e → ta = e) (hX : NX2 p m ad dm ct ad3 dm3 ct3) (hPn : PG G ad3 dm3 ct3 p (lev p) (lo p) 3 (ky (5 * p + 3)) (some (ad3 (1, m))) (dI go p) ta kf vf cf)
    (hPm : PG G ad3 dm3 ct3 m (lev p) (ky (5 * p + 3)) 2 (hi p) (rA ad ri p) 0 0 kf2 vf2 cf2) (hk : kf2 0 = kf 3 ∧ kf2 1 = kf 4) (hv : vf2 0 = vf 3 ∧ vf2 1 = vf 4) (hc : cf2 0 = cf 3 ∧ cf2 1 = cf 4)
    (h01 : ct5 (0, 1) = .inl (G.2.1 2, 1024, .inr (.inr (.inr (.inr (va_up (pfA ad lv) m (some (ad3 (1, m))))))))) (hf : ∀ z, z ≠ (0, 1) → ct5 z = ct3 z) :
    HKF G ad3 dm3 ct5 (va_up lv m true) (va_up lev m (lev p)) (va_up lo m (ky (5 * p + 3))) (va_up (va_up hi m (hi p)) p (ky (5 * p + 3))) (va_up (va_up ri m (ri p)) p (some m)) (va_up (va_up sz m 2) p 3) (va_up (va_up ky (5 * m) (ky (5 * p + 3))) (5 * m + 1) (ky (5 * p + 4))) (va_up (va_up vl (5 * m) (vl (5 * p + 3))) (5 * m + 1) (vl (5 * p + 4))) (va_up go m none) rt ep wq wn cn op cl ca ce kc (nb + 1) := by
  have hpm : p ≠ m := by rintro rfl; rw [hA.1] at hm; cases hm
  have hmp : m ≠ p := fun e => hpm e.symm
  have hnm : ∀ r, lv r = true → r ≠ m := by rintro r h rfl; rw [h] at hm; cases hm
  have ha : ∀ r, lv r = true → ad3 (1, r) = ad (1, r) := fun r h => by
    by_cases e : r = p
    · subst e; exact (hX.2 1).1
    · exact (hX.1 (1, r) (Or.inr (Or.inr ⟨e, hnm r h⟩))).1
  have hch : ∀ n k, lv n = true → k < sz n → 0 < lev n → lv (vl (5 * n + k)) = true := fun n k h1 h2 h3 => ((hP.2.2.2.2.2.1 n (al_lv hP h1 h3) h3).2.2 k h2).1.1
  have hri : ∀ n r, lv n = true → ri n = some r → lv r = true := fun n r h1 h2 => (hP.2.2.2.1 n r h1 h2).1
  have hPc := hH.2.2.2.2.2.2.1
  have hno := hH.2.2.2.2.2.2.2.1
  have k4 : ∀ n k, 1 ≤ k → ((k, n) : Lb) ≠ (0, 1) := fun n k h => lb_ne (by omega)
  refine hH.gen (fun z hz => ?_) ?_ ?_ (fun n hn => ?_) (fun n hn k k1 k2 q => ?_) (fun j hj => ha _ (hQ j hj)) (fun c hc ho => ha _ (hCu c hc ho))
  · have h1 := hX.1 z (by rcases hz with h | h <;> simp [h])
    exact ⟨h1.1, h1.2.2, fun z1 z0 => (hf z z1).trans h1.2.1⟩
  · rw [h01]
    congr 7
    funext n
    by_cases e : n = m
    · subst e; rw [va_up_self, pfA_t (va_up_self _ _ _)]
    · rw [va_up_ne _ _ e]; unfold pfA; rw [va_up_ne _ _ e]
      by_cases e2 : lv n = true
      · rw [if_pos e2, if_pos e2, ha n e2]
      · rw [if_neg e2, if_neg e2]
  · have z0 := hX.1 (0, 0) (Or.inl rfl)
    rw [hf _ (by decide), z0.2.1, hH.2.1]
    unfold HO
    rw [(hX.1 (0, 1) (Or.inl rfl)).1, (hX.1 (0, 2) (Or.inl rfl)).1, (hX.1 (0, 4) (Or.inl rfl)).1, ha 0 h0, ha rt hrt]
  · by_cases e : n = m
    · subst e
      refine ⟨kf2, vf2, cf2, 0, ?_, ?_, fun e he => by rw [va_up_self] at he; cases he⟩
      · have e1 : rA ad3 (va_up (va_up ri n (ri p)) p (some n)) n = rA ad ri p := by
          unfold rA
          rw [va_up_ne _ _ hmp, va_up_self]
          cases h : ri p with
          | none => rfl
          | some r => show some (ad3 (1, r)) = some (ad (1, r)); rw [ha r (hri p r hA.1 h)]
        have e2 : dI (va_up go n none) n = 0 := by unfold dI; rw [va_up_self]; rfl
        rw [e1, e2, va_up_self, va_up_self, va_up_ne _ _ hmp, va_up_self, va_up_ne _ _ hmp, va_up_self]
        exact hPm.kp5 (fun k h => hf _ (k4 _ _ h))
      · intro k hk9
        rw [va_up_ne _ _ hmp, va_up_self] at hk9
        rw [va_up_self]
        rcases (show k = 0 ∨ k = 1 by omega) with rfl | rfl
        · rw [va_up_ne _ _ (show 5 * n + 0 ≠ 5 * n + 1 by omega), va_up_ne _ _ (show 5 * n + 0 ≠ 5 * n + 1 by omega), Nat.add_zero (5 * n), va_up_self, va_up_self, hk.1, hv.1, hc.1]
          refine ⟨(hC 3 (by omega)).1, (hC 3 (by omega)).2.1, fun h => ?_⟩
          rw [ha _ (hch p 3 hA.1 (by omega) h)]; exact (hC 3 (by omega)).2.2 h
        · rw [va_up_self, va_up_self, hk.2, hv.2, hc.2]
          refine ⟨(hC 4 (by omega)).1, (hC 4 (by omega)).2.1, fun h => ?_⟩
          rw [ha _ (hch p 4 hA.1 (by omega) h)]; exact (hC 4 (by omega)).2.2 h
    · rw [va_up_ne _ _ e] at hn
      by_cases e2 : n = p
      · subst e2
        refine ⟨kf, vf, cf, ta, ?_, ?_, fun e he => by rw [va_up_ne _ _ hpm] at he; exact hT e he⟩
        · have e1 : rA ad3 (va_up (va_up ri m (ri n)) n (some m)) n = some (ad3 (1, m)) := by unfold rA; rw [va_up_self]; rfl
          have e2 : dI (va_up go m none) n = dI go n := by unfold dI; rw [va_up_ne _ _ hpm]
          rw [e1, e2, va_up_ne _ _ hpm, va_up_ne _ _ hpm, va_up_self, va_up_self]
          exact hPn.kp5 (fun k h => hf _ (k4 _ _ h))
        · intro k hk9
          rw [va_up_self] at hk9
          rw [va_up_ne _ _ hpm, va_up_ne _ _ (by omega), va_up_ne _ _ (by omega), va_up_ne _ _ (by omega), va_up_ne _ _ (by omega)]
          refine ⟨(hC k (by omega)).1, (hC k (by omega)).2.1, fun h => ?_⟩
          rw [ha _ (hch n k hA.1 (by omega) h)]; exact (hC k (by omega)).2.2 h
      · have h9 := pgi_s5 hP hn
        refine ((hPc n hn).kp (ad1 := ad3) (dm1 := dm3) (ct1 := ct5) (fun r h => ha r (hri n r hn h)) (fun k h1 h2 => ha _ (hch n k hn h1 h2)) (fun k k1 k2 => ?_)).cg (va_up_ne _ _ e) (va_up_ne _ _ e) ((va_up_ne _ _ e2).trans (va_up_ne _ _ e)) ((va_up_ne _ _ e2).trans (va_up_ne _ _ e)) ((va_up_ne _ _ e2).trans (va_up_ne _ _ e)) (va_up_ne _ _ e) (fun k hk9 => ?_)
        · have h1 := hX.1 (k, n) (Or.inr (Or.inr ⟨e2, e⟩))
          exact ⟨h1.1, (hf _ (k4 _ _ k1)).trans h1.2.1, h1.2.2⟩
        · rw [va_up_ne _ _ (by omega), va_up_ne _ _ (by omega), va_up_ne _ _ (by omega), va_up_ne _ _ (by omega)]; exact ⟨rfl, rfl⟩
  · by_cases e : n = m
    · subst e; rw [va_up_self] at hn; cases hn
    · rw [va_up_ne _ _ e] at hn
      have e2 : n ≠ p := by rintro rfl; rw [hA.1] at hn; cases hn
      exact hno n hn k k1 k2 ((hX.1 (k, n) (Or.inr (Or.inr ⟨e2, e⟩))).2.2.mp q)
end ADD
