/-! The class's world: the labels (0, 0) .. (0, 4) Highkey, its arrays and its list, (1..4, n) page n, (5, c) cursor c. -/
def pfA (ad : Lb → Nat) (lv : Nat → Bool) : Nat → Option Nat := fun n => if lv n = true then some (ad (1, n)) else none
def cfA (ad : Lb → Nat) (cn : Nat) : Nat → Option Nat := fun c => if c < cn then some (ad (5, c)) else none
def HO (ad : Lb → Nat) (rt kc ep cn : Nat) : List Value := [.ref (ad (0, 1)), .ref (ad (0, 2)), .ref (ad (0, 4)), .ref (ad (1, 0)), .ref (ad (1, rt)), .int (nI kc), .int (nI ep), .int (nI cn)]
/-- the keys and what goes with them, as page n's arrays hold them -/
def PC (ad : Lb → Nat) (lev sz ky vl : Nat → Nat) (n : Nat) (kf vf : Nat → Int32) (cf : Nat → Option Nat) : Prop :=
  ∀ k, k < sz n → kf k = nI (ky (5 * n + k)) ∧ (lev n = 0 → vf k = nI (vl (5 * n + k)) ∧ cf k = none) ∧ (0 < lev n → cf k = some (ad (1, vl (5 * n + k))))
def rA (ad : Lb → Nat) (ri : Nat → Option Nat) (n : Nat) : Option Nat := (ri n).map fun r => ad (1, r)
def dI (go : Nat → Option Nat) (n : Nat) : Nat := if (go n).isSome = true then 1 else 0
def PS (G : GG) (ad : Lb → Nat) (dm : Lb → Prop) (ct : Lb → va_E) (lev lo hi : Nat → Nat) (ri : Nat → Option Nat) (sz ky vl : Nat → Nat) (go : Nat → Option Nat) (n : Nat) : Prop :=
  ∃ kf vf cf ta, PG G ad dm ct n (lev n) (lo n) (sz n) (hi n) (rA ad ri n) (dI go n) ta kf vf cf ∧ PC ad lev sz ky vl n kf vf cf ∧ ∀ e, go n = some e → ta = e
def LQ (G : GG) (ad : Lb → Nat) (dm : Lb → Prop) (ct : Lb → va_E) (wq : Nat → Nat) (wn : Nat) : Prop := ∃ mc cap f, LL G ad dm ct mc wn cap f ∧ ∀ j, j < wn → f j = some (ad (1, wq j))
def CS (ad : Lb → Nat) (dm : Lb → Prop) (ct : Lb → va_E) (cn : Nat) (op : Nat → Bool) (cl ca ce : Nat → Nat) : Prop :=
  (∀ c, c < cn → dm (5, c) ∧ ∃ r, ct (5, c) = .inr (1, [.int (nI (ce c)), .ref r, .int (lI (ca c)), .int (bI (!op c))]) ∧ (op c = true → r = ad (1, cl c))) ∧ ∀ c, cn ≤ c → ¬ dm (5, c)
def HKF (G : GG) (ad : Lb → Nat) (dm : Lb → Prop) (ct : Lb → va_E) (lv : Nat → Bool) (lev : Nat → Nat) (lo : Nat → Nat) (hi : Nat → Nat) (ri : Nat → Option Nat) (sz : Nat → Nat) (ky : Nat → Nat) (vl : Nat → Nat) (go : Nat → Option Nat) (rt : Nat) (ep : Nat) (wq : Nat → Nat) (wn : Nat) (cn : Nat) (op : Nat → Bool) (cl : Nat → Nat) (ca : Nat → Nat) (ce : Nat → Nat) (kc : Nat) (nb : Nat) : Prop :=
  (dm (0, 0) ∧ dm (0, 1) ∧ dm (0, 4)) ∧ ct (0, 0) = .inr (3, HO ad rt kc ep cn) ∧ ct (0, 1) = .inl (G.2.1 2, 1024, .inr (.inr (.inr (.inr (pfA ad lv))))) ∧
  ct (0, 4) = .inl (G.2.1 3, 20, .inr (.inr (.inr (.inr (cfA ad cn))))) ∧ LQ G ad dm ct wq wn ∧ CS ad dm ct cn op cl ca ce ∧
  (∀ n, lv n = true → PS G ad dm ct lev lo hi ri sz ky vl go n) ∧ (∀ n, lv n = false → ∀ k, 1 ≤ k → k ≤ 4 → ¬ dm (k, n)) ∧ ¬ dm (6, 0)
def HK (G : GG) (ad : Lb → Nat) (dm : Lb → Prop) (ct : Lb → va_E) (s : SG) : Prop := match s with
  | (lv, lev, lo, hi, ri, sz, ky, vl, go, rt, ep, wq, wn, cn, op, cl, ca, ce, kc, nb) => HKF G ad dm ct lv lev lo hi ri sz ky vl go rt ep wq wn cn op cl ca ce kc nb
/-- nothing else touched -/
def FH (ad : Lb → Nat) (dm : Lb → Prop) (ct : Lb → va_E) (ad1 : Lb → Nat) (dm1 : Lb → Prop) (ct1 : Lb → va_E) : Prop :=
  (∀ z : Lb, 7 ≤ z.1 → ad1 z = ad z ∧ ct1 z = ct z ∧ (dm1 z ↔ dm z)) ∧ ad1 (0, 0) = ad (0, 0)
section HKL
variable {G : GG} {ad ad1 ad2 : Lb → Nat} {dm dm1 dm2 : Lb → Prop} {ct ct1 ct2 : Lb → va_E} {lv : Nat → Bool} {lev lo hi : Nat → Nat} {ri : Nat → Option Nat} {sz ky vl : Nat → Nat} {go : Nat → Option Nat} {rt ep : Nat} {wq : Nat → Nat} {wn cn : Nat} {op : Nat → Bool} {cl ca ce : Nat → Nat} {kc nb : Nat}
theorem FH.rf : FH ad dm ct ad dm ct := ⟨fun _ _ => ⟨rfl, rfl, Iff.rfl⟩, rfl⟩
theorem FH.tr (h1 : FH ad dm ct ad1 dm1 ct1) (h2 : FH ad1 dm1 ct1 ad2 dm2 ct2) : FH ad dm ct ad2 dm2 ct2 :=
  ⟨fun z hz => ⟨(h2.1 z hz).1.trans (h1.1 z hz).1, (h2.1 z hz).2.1.trans (h1.1 z hz).2.1, (h2.1 z hz).2.2.trans (h1.1 z hz).2.2⟩, h2.2.trans h1.2⟩
theorem FH.put {x : Lb} (hx : x.1 < 7) (hf : ∀ z, z ≠ x → ct1 z = ct z) : FH ad dm ct ad dm ct1 := ⟨fun z hz => ⟨rfl, hf z (by rintro rfl; omega), Iff.rfl⟩, rfl⟩
theorem FH.page {n : Nat} (hX : XP n ct ct1) : FH ad dm ct ad dm ct1 := ⟨fun z hz => ⟨rfl, hX z (Or.inr (Or.inl (by omega))), Iff.rfl⟩, rfl⟩
theorem FH.xlc (hX : XLc ct ct1) : FH ad dm ct ad dm ct1 := ⟨fun z hz => ⟨rfl, hX z (by rintro rfl; simp at hz) (by rintro rfl; simp at hz), Iff.rfl⟩, rfl⟩
theorem FH.xl (hX : XL ad dm ct ad1 dm1 ct1) : FH ad dm ct ad1 dm1 ct1 := ⟨fun z hz => hX.1 z (by rintro rfl; simp at hz) (by rintro rfl; simp at hz), (hX.1 (0, 0) (by decide) (by decide)).1⟩
theorem FH.nx {n : Nat} (hX : NX n ad dm ct ad1 dm1 ct1) : FH ad dm ct ad1 dm1 ct1 := ⟨fun z hz => hX z (Or.inr (Or.inl (by omega))), (hX (0, 0) (Or.inl rfl)).1⟩
theorem FH.nx2 {n m : Nat} (hX : NX2 n m ad dm ct ad1 dm1 ct1) : FH ad dm ct ad1 dm1 ct1 := ⟨fun z hz => hX.1 z (Or.inr (Or.inl (by omega))), (hX.1 (0, 0) (Or.inl rfl)).1⟩
/-- the list, its labels untouched -/
theorem LL.kp {mc : Int32} {k cap : Nat} {f : Nat → Option Nat} (h : LL G ad dm ct mc k cap f) (hz : ∀ z : Lb, z.1 = 0 → ad1 z = ad z ∧ ct1 z = ct z ∧ (dm1 z ↔ dm z)) : LL G ad1 dm1 ct1 mc k cap f := by
  obtain ⟨h1, h2⟩ := h
  have z2 := hz (0, 2) rfl
  have z3 := hz (0, 3) rfl
  refine ⟨z2.2.2.mpr h1, ?_⟩
  rcases h2 with ⟨a, b, c, d⟩ | ⟨a, b, c, d, e, g⟩
  · exact Or.inl ⟨fun q => a (z3.2.2.mp q), b, c, z2.2.1.trans d⟩
  · exact Or.inr ⟨z3.2.2.mpr a, b, c, d, z2.2.1.trans (by rw [z3.1]; exact e), z3.2.1.trans g⟩
/-- page p changed, in its cells alone -/
theorem HKF.page {hi2 : Nat → Nat} {ri2 : Nat → Option Nat} {sz2 ky2 vl2 : Nat → Nat} {go2 : Nat → Option Nat} {p : Nat} (hH : HKF G ad dm ct lv lev lo hi ri sz ky vl go rt ep wq wn cn op cl ca ce kc nb) (hX : XP p ct ct1)
    (hag : ∀ n, lv n = true → n ≠ p → hi2 n = hi n ∧ ri2 n = ri n ∧ sz2 n = sz n ∧ go2 n = go n ∧ ∀ k, k < sz n → ky2 (5 * n + k) = ky (5 * n + k) ∧ vl2 (5 * n + k) = vl (5 * n + k))
    (hP : PS G ad dm ct1 lev lo hi2 ri2 sz2 ky2 vl2 go2 p) : HKF G ad dm ct1 lv lev lo hi2 ri2 sz2 ky2 vl2 go2 rt ep wq wn cn op cl ca ce kc nb := by
  obtain ⟨h1, h2, h3, h4, ⟨mc, cap, f, h5, h5'⟩, ⟨h6, h6'⟩, h7, h8, h9⟩ := hH
  refine ⟨h1, (hX _ (Or.inl rfl)).trans h2, (hX _ (Or.inl rfl)).trans h3, (hX _ (Or.inl rfl)).trans h4, ⟨mc, cap, f, h5.kp (fun z hz => ⟨rfl, hX z (Or.inl hz), Iff.rfl⟩), h5'⟩, ⟨fun c hc => ?_, h6'⟩, fun n hn => ?_, h8, h9⟩
  · obtain ⟨a, r, b, d⟩ := h6 c hc
    exact ⟨a, r, (hX _ (Or.inr (Or.inl (show 4 < 5 by decide)))).trans b, d⟩
  · by_cases e : n = p
    · subst e; exact hP
    · obtain ⟨kf, vf, cf, ta, a, b, d⟩ := h7 n hn
      obtain ⟨q1, q2, q3, q4, q5⟩ := hag n hn e
      refine ⟨kf, vf, cf, ta, ?_, ?_, ?_⟩
      · have := a.other hX e
        unfold rA dI at this ⊢
        rw [q1, q2, q3, q4]; exact this
      · intro k hk
        rw [q3] at hk
        rw [(q5 k hk).1, (q5 k hk).2]; exact b k hk
      · rw [q4]; exact d
/-- a field of the object changed -/
theorem HKF.obj {rt2 kc2 ep2 : Nat} (hH : HKF G ad dm ct lv lev lo hi ri sz ky vl go rt ep wq wn cn op cl ca ce kc nb) (h0 : ct1 (0, 0) = .inr (3, HO ad rt2 kc2 ep2 cn)) (hf : ∀ z, z ≠ (0, 0) → ct1 z = ct z) : HKF G ad dm ct1 lv lev lo hi ri sz ky vl go rt2 ep2 wq wn cn op cl ca ce kc2 nb := by
  obtain ⟨h1, h2, h3, h4, ⟨mc, cap, f, h5, h5'⟩, ⟨h6, h6'⟩, h7, h8, h9⟩ := hH
  have g2 := hf (0, 2) (by decide)
  have g3 := hf (0, 3) (by decide)
  refine ⟨h1, h0, (hf _ (by decide)).trans h3, (hf _ (by decide)).trans h4, ⟨mc, cap, f, ⟨h5.1, ?_⟩, h5'⟩, ⟨fun c hc => ?_, h6'⟩, fun n hn => ?_, h8, h9⟩
  · rcases h5.2 with ⟨a, b, c, d⟩ | ⟨a, b, c, d, e, g⟩
    · exact Or.inl ⟨a, b, c, g2.trans d⟩
    · exact Or.inr ⟨a, b, c, d, g2.trans e, g3.trans g⟩
  · obtain ⟨a, r, b, d⟩ := h6 c hc
    exact ⟨a, r, (hf _ (lb_ne (by decide))).trans b, d⟩
  · obtain ⟨kf, vf, cf, ta, a, b, d⟩ := h7 n hn
    exact ⟨kf, vf, cf, ta, a.keep hf (Or.inl rfl), b, d⟩
theorem HKF.nbx {nb2 : Nat} (hH : HKF G ad dm ct lv lev lo hi ri sz ky vl go rt ep wq wn cn op cl ca ce kc nb) : HKF G ad dm ct lv lev lo hi ri sz ky vl go rt ep wq wn cn op cl ca ce kc nb2 := by
  unfold HKF at hH ⊢
  exact hH
/-- what happens at labels of 7 and more -/
theorem HKF.far (hH : HKF G ad dm ct lv lev lo hi ri sz ky vl go rt ep wq wn cn op cl ca ce kc nb) (hz : ∀ z : Lb, z.1 < 7 → ad1 z = ad z ∧ ct1 z = ct z ∧ (dm1 z ↔ dm z)) : HKF G ad1 dm1 ct1 lv lev lo hi ri sz ky vl go rt ep wq wn cn op cl ca ce kc nb := by
  obtain ⟨⟨h1, h1', h1''⟩, h2, h3, h4, ⟨mc, cap, f, h5, h5'⟩, ⟨h6, h6'⟩, h7, h8, h9⟩ := hH
  have a1 : ∀ n, ad1 (1, n) = ad (1, n) := fun n => (hz (1, n) (by simp)).1
  have a5 : ∀ n, ad1 (5, n) = ad (5, n) := fun n => (hz (5, n) (by simp)).1
  have z0 : ∀ k, ad1 (0, k) = ad (0, k) ∧ ct1 (0, k) = ct (0, k) ∧ (dm1 (0, k) ↔ dm (0, k)) := fun k => hz (0, k) (by simp)
  have eo : HO ad1 rt kc ep cn = HO ad rt kc ep cn := by unfold HO; rw [(z0 1).1, (z0 2).1, (z0 4).1, a1, a1]
  have ep' : pfA ad1 lv = pfA ad lv := by funext n; unfold pfA; rw [a1]
  have ec : cfA ad1 cn = cfA ad cn := by funext n; unfold cfA; rw [a5]
  refine ⟨⟨(z0 0).2.2.mpr h1, (z0 1).2.2.mpr h1', (z0 4).2.2.mpr h1''⟩, (z0 0).2.1.trans (by rw [eo]; exact h2), (z0 1).2.1.trans (by rw [ep']; exact h3), (z0 4).2.1.trans (by rw [ec]; exact h4), ⟨mc, cap, f, h5.kp (fun z hz0 => hz z (by omega)), fun j hj => by rw [a1]; exact h5' j hj⟩, ⟨fun c hc => ?_, fun c hc q => h6' c hc ((hz (5, c) (by simp)).2.2.mp q)⟩, fun n hn => ?_, fun n hn k k1 k2 q => h8 n hn k k1 k2 ((hz (k, n) (by show k < 7; omega)).2.2.mp q), fun q => h9 ((hz (6, 0) (by simp)).2.2.mp q)⟩
  · obtain ⟨a, r, b, d⟩ := h6 c hc
    exact ⟨(hz (5, c) (by simp)).2.2.mpr a, r, (hz (5, c) (by simp)).2.1.trans b, fun ho => by rw [a1]; exact d ho⟩
  · obtain ⟨kf, vf, cf, ta, ⟨⟨b1, b2, b3, b4⟩, c1, c2, c3, c4⟩, b, d⟩ := h7 n hn
    have y : ∀ k, k < 7 → ad1 (k, n) = ad (k, n) ∧ ct1 (k, n) = ct (k, n) ∧ (dm1 (k, n) ↔ dm (k, n)) := fun k hk => hz (k, n) hk
    have er : rA ad1 ri n = rA ad ri n := by unfold rA; cases ri n with
      | none => rfl
      | some r => show some (ad1 (1, r)) = _; rw [a1]; rfl
    refine ⟨kf, vf, cf, ta, ⟨⟨(y 1 (by decide)).2.2.mpr b1, (y 2 (by decide)).2.2.mpr b2, (y 3 (by decide)).2.2.mpr b3, (y 4 (by decide)).2.2.mpr b4⟩, (y 1 (by decide)).2.1.trans ?_, (y 2 (by decide)).2.1.trans c2, (y 3 (by decide)).2.1.trans c3, (y 4 (by decide)).2.1.trans c4⟩, fun k hk => ?_, d⟩
    · rw [er]; unfold pgF; rw [(y 2 (by decide)).1, (y 3 (by decide)).1, (y 4 (by decide)).1]; exact c1
    · rw [a1]; exact b k hk
end HKL
/-! Exceptions: thrown with a text, passed on. -/
def isDecl (w : Cond) : Bool := match w with
  | .declares _ => true
  | .castable _ _ => true
  | _ => false
theorem th_hat {args : Array Value} {s : State} {e0 : Nat × Nat} {A : Nat → Prop} {L : List Cond} (hF : ∀ w ∈ AL, w.before args s = true) (hE : EN e0 A s) (hL : ∀ w ∈ L, w ∈ lw_tbl) (hg : L.all (fun w => goodWord w || isDecl w) = true) : ∀ w ∈ L, w.before args s = true := by
  intro w hw
  have h := List.all_eq_true.mp hg w hw
  rw [Bool.or_eq_true] at h
  rcases h with h | h
  · exact hF w (al_of (hL w hw) h)
  · match w, h, hL w hw with
    | .declares x, _, hm => exact va_Nw.use rfl (hE.1 x hm)
    | .castable a b, _, hm => exact va_Nw.use rfl (hE.2.1 a b hm)
section KX
variable {p : Program} {l : Launch} {e : Env} {R : Room} {s : State} {m : MethodId} {args : Array Value} {below : List Frame} {meth : Method} {c : Code} {H : Heap} {locs : List Loc} {cells slots mc ms : Nat} {Qc : Array Value → State → Outcome → State → Prop}
variable {cc : ByteArray} {pc nL ik is ic : Nat} {ls : Array Slot} {own cls text : String} {G : GG} {A : Nat → Prop} {w : WS} {px : String → Prop} {rest : List Value}
theorem wd_ext {H1 : Heap} (hW : wd G A w H) (h : ∀ q : Nat, q < H.size → H1[q]? = H[q]?) : wd G A w H1 := ⟨fun z hz => (hW.1 z hz).kept (h _ (hW.1 z hz).lt), hW.2.1, hW.2.2⟩
theorem kr_t (F : Fx p m c cc nL s args own) (hst : l.stackTraces = false) (hlk : meth.locks = false) (hex : ∀ x ∈ c.exceptionTable.toList, False) (hE : VE G A s) (hW : wd G A w H) (hS : va_S A s.heap H locs) (hls : ls.size = nL)
    (hcls : Bundle.fit cls = true) (hk : Cond.classLink own ik cls ∈ AL) (hini : Cond.initialized cls ∈ AL) (hstr : Cond.stringRef own is text ∈ lw_tbl)
    (hL : ∀ w ∈ vx_atS own ic cls ["java/lang/RuntimeException", "java/lang/Exception"], w ∈ lw_tbl) (hg : (vx_atS own ic cls ["java/lang/RuntimeException", "java/lang/Exception"]).all (fun w => goodWord w || isDecl w) = true)
    (hgood : ∀ w ∈ Cond.classLink own ik cls :: Cond.initialized cls :: vx_atS own ic cls ["java/lang/RuntimeException", "java/lang/Exception"], vx_ot w = true)
    (d0 : decode cc pc = .ok (.new ik, 3)) (d3 : decode cc (pc + 3) = .ok (.dup, 1)) (d4 : decode cc (pc + 4) = .ok (.ldc is, 2)) (d6 : decode cc (pc + 6) = .ok (.invokespecial ic, 3)) (d9 : decode cc (pc + 9) = .ok (.athrow, 1))
    (hRf : 6 ≤ R.frames) (hRl : 90 ≤ R.locals) (hRc : cells + 1 ≤ R.cells) (hRs : slots + 6 ≤ R.slots) (hc : cells + 1 ≤ mc) (hs : slots + 6 ≤ ms) (hpx : px cls) :
    W p l e R s m args below meth c H locs cells slots (vx_MQ below Qc (XK G A w px) args s mc ms A) (F0 m pc ls []) := by
  obtain ⟨sa, hsa⟩ := hE.2.1.2.2.2.1 _ _ _ hstr
  exact vx_throwS (free := A) (names := ["java/lang/RuntimeException", "java/lang/Exception"]) (A := A) F.1 F.2.1 hst F.2.2.2.1 hcls (by decide +kernel) (F.2.2.2.2 _ hk) (F.2.2.2.2 _ hini) hsa (th_hat F.2.2.2.2 hE.2.1 hL hg) hgood hE.2.1.2.2.2.2.2.2.1 hE.2.1.2.2.2.2.2.2.2.1 hS (hls.trans F.2.2.1.symm)
    d0 d3 d4 d6 d9 (fun x hx => (hex x hx).elim) (Nat.lt_of_lt_of_le (by decide) hRf) (Nat.le_trans (by decide) hRl) hRc hRs hlk
    (fun t _ h1 h2 => ⟨⟨hpx, wd_ext hW h2⟩, Nat.le_trans hS.1 h1, fun q hq hA => (h2 q (Nat.lt_of_lt_of_le hq hS.1)).trans (hS.2.1 q hq hA)⟩) hS.2.2 hc hs
theorem kr_x {E : String} {q9 : Addr} {ce : Cell} (hex : ∀ x ∈ c.exceptionTable.toList, False) (hlk : meth.locks = false) (hW : wd G A w H) (hS : va_S A s.heap H locs) (hce : H[q9]? = some ce) (hcv : ce.vm = .none) (hcl : s.vm.findClass E = some ce.cls) (hc : cells ≤ mc) (hs : slots ≤ ms) (hpx : px E) :
    vx_W p l e R s m args below meth c H locs cells slots (vx_MQ below Qc (XK G A w px) args s mc ms A) (F0 m pc ls rest) q9 :=
  vx_out (fun x hx => (hex x hx).elim) hlk hce hcv hcl (fun t ht _ => ⟨⟨hpx, by rw [ht]; exact hW⟩, hS.F ht⟩) hS.2.2 hc hs
end KX
