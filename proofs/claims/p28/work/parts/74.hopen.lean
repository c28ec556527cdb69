/-! The class: opening a cursor, recycling. -/
section OPN
variable {G : GG} {A : Nat → Prop} {H : Heap} {ad ad1 ad3 : Lb → Nat} {dm dm1 dm3 : Lb → Prop} {ct ct1 ct2 ct3 ct5 : Lb → va_E} {lv : Nat → Bool} {lev lo hi : Nat → Nat} {ri : Nat → Option Nat} {sz ky vl : Nat → Nat} {go : Nat → Option Nat} {rt ep : Nat} {wq : Nat → Nat} {wn cn : Nat} {op : Nat → Bool} {cl ca ce : Nat → Nat} {kc nb : Nat}
theorem wd_dr {dm2 : Lb → Prop} (hW : wd G A (ad, dm, ct) H) (h : ∀ z, dm2 z → dm z) : wd G A (ad, dm2, ct) H := ⟨fun x hx => hW.1 x (h x hx), fun x y hx hy => hW.2.1 x y (h x hx) (h y hy), fun x hx => hW.2.2 x (h x hx)⟩
/-- a new cell gets its label's true name -/
theorem wd_nm {x y : Lb} {e : va_E} (hW : wd G A (ad1, dm1, ct2) H) (hN : NW y e ad dm ct ad1 dm1 ct1) (hf : ∀ z, z ≠ y → ct2 z = ct1 z) (hy : ¬ dm y) (hx : ¬ dm x) (hxy : x ≠ y) : ∃ ad3 dm3 ct3, wd G A (ad3, dm3, ct3) H ∧ ad3 x = ad1 y ∧ NW x (ct2 y) ad dm ct ad3 dm3 ct3 := by
  have h := wd_mv (ad0 := ad) (ct0 := fun z => if z = y then ct z else ct2 z) x y hW ((hN.2.2 _).mpr (Or.inl rfl)) (fun z h1 h2 h3 => ⟨((hN.1 z h2).1).symm, if_neg h2⟩)
  refine ⟨_, _, _, h, if_pos rfl, fun z hz => ⟨if_neg hz, ?_⟩, if_pos rfl, fun z => ?_⟩
  · dsimp only
    rw [if_neg hz]
    by_cases e2 : z = y
    · rw [if_pos e2]
    · rw [if_neg e2, hf z e2]; exact (hN.1 z e2).2
  · dsimp only
    rw [hN.2.2]
    constructor
    · rintro (h1 | ⟨h1 | h1, h2⟩)
      · exact Or.inl h1
      · exact absurd h1 h2
      · exact Or.inr h1
    · rintro (h1 | h1)
      · exact Or.inl h1
      · exact Or.inr ⟨Or.inr h1, fun e => hy (e ▸ h1)⟩
/-- a page whose labels, and those that it leads to, are as they were -/
theorem PS.kp {n : Nat} (h : PS G ad dm ct lev lo hi ri sz ky vl go n) (hr : ∀ r, ri n = some r → ad1 (1, r) = ad (1, r)) (hv : ∀ k, k < sz n → 0 < lev n → ad1 (1, vl (5 * n + k)) = ad (1, vl (5 * n + k)))
    (hz : ∀ k, 1 ≤ k → k ≤ 4 → ad1 (k, n) = ad (k, n) ∧ ct1 (k, n) = ct (k, n) ∧ (dm1 (k, n) ↔ dm (k, n))) : PS G ad1 dm1 ct1 lev lo hi ri sz ky vl go n := by
  obtain ⟨kf, vf, cf, ta, ⟨⟨b1, b2, b3, b4⟩, c1, c2, c3, c4⟩, b, d⟩ := h
  have y1 := hz 1 (by decide) (by decide)
  have y2 := hz 2 (by decide) (by decide)
  have y3 := hz 3 (by decide) (by decide)
  have y4 := hz 4 (by decide) (by decide)
  have er : rA ad1 ri n = rA ad ri n := by
    unfold rA
    cases h : ri n with
    | none => rfl
    | some r => show some (ad1 (1, r)) = some (ad (1, r)); rw [hr r h]
  refine ⟨kf, vf, cf, ta, ⟨⟨y1.2.2.mpr b1, y2.2.2.mpr b2, y3.2.2.mpr b3, y4.2.2.mpr b4⟩, y1.2.1.trans ?_, y2.2.1.trans c2, y3.2.1.trans c3, y4.2.1.trans c4⟩, fun k hk => ⟨(b k hk).1, (b k hk).2.1, fun h0 => by rw [hv k hk h0]; exact (b k hk).2.2 h0⟩, d⟩
  rw [er]; unfold pgF; rw [y2.1, y3.1, y4.1]; exact c1
theorem HKF.opn {k pz : Nat} (hH : HKF G ad dm ct lv lev lo hi ri sz ky vl go rt ep wq wn cn op cl ca ce kc nb) (hN : NW (5, cn) (.inr (1, [.int (nI ep), .ref (ad (1, pz)), .int (lI k), .int 0])) ad dm ct ad3 dm3 ct3)
    (h04 : ct5 (0, 4) = .inl (G.2.1 3, 20, .inr (.inr (.inr (.inr (va_up (cfA ad cn) cn (some (ad3 (5, cn))))))))) (h00 : ct5 (0, 0) = .inr (3, HO ad rt kc ep (cn + 1))) (hf : ∀ z, z ≠ (0, 4) → z ≠ (0, 0) → ct5 z = ct3 z) :
    HKF G ad3 dm3 ct5 lv lev lo hi ri sz ky vl go rt ep wq wn (cn + 1) (va_up op cn true) (va_up cl cn pz) (va_up ca cn k) (va_up ce cn ep) kc nb := by
  have hz : ∀ z, z ≠ (5, cn) → z ≠ (0, 4) → z ≠ (0, 0) → ad3 z = ad z ∧ ct5 z = ct z ∧ (dm3 z ↔ dm z) := fun z a b d => ⟨(hN.1 z a).1, (hf z b d).trans (hN.1 z a).2, by rw [hN.2.2]; simp [a]⟩
  have hd : ∀ z, z ≠ (5, cn) → (dm3 z ↔ dm z) := fun z a => by rw [hN.2.2]; simp [a]
  have ha : ∀ z, z ≠ (5, cn) → ad3 z = ad z := fun z a => (hN.1 z a).1
  obtain ⟨⟨h1, h1', h1''⟩, h2, h3, h4, ⟨mc, cap, f, h5, h5'⟩, ⟨h6, h6'⟩, h7, h8, h9⟩ := hH
  have a1 : ∀ n, ad3 (1, n) = ad (1, n) := fun n => ha _ (lb_ne (by decide))
  have eo : HO ad3 rt kc ep (cn + 1) = HO ad rt kc ep (cn + 1) := by unfold HO; rw [ha (0, 1) (lb_ne (by decide)), ha (0, 2) (lb_ne (by decide)), ha (0, 4) (lb_ne (by decide)), a1, a1]
  have ep' : pfA ad3 lv = pfA ad lv := by funext n; unfold pfA; rw [a1]
  have ec : cfA ad3 (cn + 1) = va_up (cfA ad cn) cn (some (ad3 (5, cn))) := by
    funext n
    by_cases e : n = cn
    · subst e; rw [va_up_self]; exact cfA_t (by omega)
    · rw [va_up_ne _ _ e]; unfold cfA
      rcases Nat.lt_or_ge n cn with q | q
      · rw [if_pos q, if_pos (by omega), ha _ (fun z => e (congrArg Prod.snd z))]
      · rw [if_neg (by omega), if_neg (by omega)]
  refine ⟨⟨(hd _ (lb_ne (by decide))).mpr h1, (hd _ (lb_ne (by decide))).mpr h1', (hd _ (lb_ne (by decide))).mpr h1''⟩, by rw [eo]; exact h00, (hz (0, 1) (lb_ne (by decide)) (by decide) (by decide)).2.1.trans (by rw [ep']; exact h3), by rw [ec]; exact h04,
    ⟨mc, cap, f, ?_, fun j hj => by rw [a1]; exact h5' j hj⟩, ⟨fun c hc => ?_, fun c hc q => ?_⟩, fun n hn => ?_, fun n hn k k1 k2 q => h8 n hn k k1 k2 ((hd _ (lb_ne (by omega))).mp q), fun q => h9 ((hd _ (lb_ne (by decide))).mp q)⟩
  · have z2 := hz (0, 2) (lb_ne (by decide)) (by decide) (by decide)
    have z3 := hz (0, 3) (lb_ne (by decide)) (by decide) (by decide)
    obtain ⟨g1, g2⟩ := h5
    refine ⟨z2.2.2.mpr g1, ?_⟩
    rcases g2 with ⟨a, b, c, d⟩ | ⟨a, b, c, d, e, g⟩
    · exact Or.inl ⟨fun q => a (z3.2.2.mp q), b, c, z2.2.1.trans d⟩
    · exact Or.inr ⟨z3.2.2.mpr a, b, c, d, z2.2.1.trans (by rw [z3.1]; exact e), z3.2.1.trans g⟩
  · by_cases e : c = cn
    · subst e
      rw [va_up_self, va_up_self, va_up_self, va_up_self]
      exact ⟨(hN.2.2 _).mpr (Or.inl rfl), ad (1, pz), (hf _ (lb_ne (by decide)) (lb_ne (by decide))).trans hN.2.1, fun _ => (a1 pz).symm⟩
    · obtain ⟨a, r, b, d⟩ := h6 c (by omega)
      rw [va_up_ne _ _ e, va_up_ne _ _ e, va_up_ne _ _ e, va_up_ne _ _ e]
      have y := hz (5, c) (fun z => e (congrArg Prod.snd z)) (lb_ne (by decide)) (lb_ne (by decide))
      exact ⟨y.2.2.mpr a, r, y.2.1.trans b, fun ho => by rw [a1]; exact d ho⟩
  · exact h6' c (by omega) ((hd _ (fun z => by have := congrArg Prod.snd z; simp at this; omega)).mp q)
  · exact (h7 n hn).kp (fun r _ => a1 r) (fun k _ _ => a1 _) (fun k k1 k2 => hz (k, n) (lb_ne (by omega)) (fun z => by have := congrArg Prod.fst z; simp at this; omega) (fun z => by have := congrArg Prod.fst z; simp at this; omega))
theorem HKF.rcy {i : Nat} (hH : HKF G ad dm ct lv lev lo hi ri sz ky vl go rt ep wq wn cn op cl ca ce kc nb) (h01 : ct1 (0, 1) = .inl (G.2.1 2, 1024, .inr (.inr (.inr (.inr (va_up (pfA ad lv) i none)))))) (hf : ∀ z, z ≠ (0, 1) → ct1 z = ct z) :
    HKF G ad (fun z => dm z ∧ ¬ (1 ≤ z.1 ∧ z.1 ≤ 4 ∧ z.2 = i)) ct1 (va_up lv i false) lev lo hi ri sz ky vl go rt ep wq wn cn op cl ca ce kc nb := by
  obtain ⟨⟨h1, h1', h1''⟩, h2, h3, h4, ⟨mc, cap, f, h5, h5'⟩, ⟨h6, h6'⟩, h7, h8, h9⟩ := hH
  have eP : pfA ad (va_up lv i false) = va_up (pfA ad lv) i none := by
    funext n
    by_cases e : n = i
    · subst e; rw [va_up_self]; exact pfA_f (va_up_self _ _ _)
    · rw [va_up_ne _ _ e]; unfold pfA; rw [va_up_ne _ _ e]
  refine ⟨⟨⟨h1, by simp⟩, ⟨h1', by simp⟩, ⟨h1'', by simp⟩⟩, (hf _ (by decide)).trans h2, by rw [eP]; exact h01, (hf _ (by decide)).trans h4, ⟨mc, cap, f, ?_, h5'⟩, ⟨fun c hc => ?_, fun c hc q => h6' c hc q.1⟩, fun n hn => ?_, fun n hn k k1 k2 q => ?_, fun q => h9 q.1⟩
  · have g2 := hf (0, 2) (by decide)
    have g3 := hf (0, 3) (by decide)
    obtain ⟨a1, a2⟩ := h5
    refine ⟨⟨a1, by simp⟩, ?_⟩
    rcases a2 with ⟨a, b, c, d⟩ | ⟨a, b, c, d, e, g⟩
    · exact Or.inl ⟨fun q => a q.1, b, c, g2.trans d⟩
    · exact Or.inr ⟨⟨a, by simp⟩, b, c, d, g2.trans e, g3.trans g⟩
  · obtain ⟨a, r, b, d⟩ := h6 c hc
    exact ⟨⟨a, by simp⟩, r, (hf _ (lb_ne (by decide))).trans b, d⟩
  · by_cases e : n = i
    · subst e; rw [va_up_self] at hn; cases hn
    · rw [va_up_ne _ _ e] at hn
      exact (h7 n hn).kp (fun _ _ => rfl) (fun _ _ _ => rfl) (fun k k1 k2 => ⟨rfl, hf _ (lb_ne (by omega)), ⟨fun q => q.1, fun q => ⟨q, fun w => e w.2.2⟩⟩⟩)
  · by_cases e : n = i
    · exact q.2 ⟨k1, k2, e⟩
    · rw [va_up_ne _ _ e] at hn; exact h8 n hn k k1 k2 q.1
/-- recycled up to i -/
def lvR (lv : Nat → Bool) (go : Nat → Option Nat) (cn : Nat) (op : Nat → Bool) (ce : Nat → Nat) (i : Nat) : Nat → Bool := fun n => lv n && !(decide (n < i) && rcB go cn op ce n)
theorem lvR_0 : lvR lv go cn op ce 0 = lv := by
  funext n; unfold lvR; simp
theorem lvR_i {i : Nat} : lvR lv go cn op ce i i = lv i := by unfold lvR; simp
theorem lvR_no {i : Nat} (h : (lv i && rcB go cn op ce i) = false) : lvR lv go cn op ce (i + 1) = lvR lv go cn op ce i := by
  funext n; unfold lvR
  by_cases e : n = i
  · subst e
    cases h1 : lv n with
    | false => rfl
    | true => rw [h1] at h; simp at h; rw [h]; simp
  · have : decide (n < i + 1) = decide (n < i) := by by_cases q : n < i <;> simp [q] <;> omega
    rw [this]
theorem lvR_up {i : Nat} (h : (lv i && rcB go cn op ce i) = true) : va_up (lvR lv go cn op ce i) i false = lvR lv go cn op ce (i + 1) := by
  funext n
  by_cases e : n = i
  · subst e
    rw [Bool.and_eq_true] at h
    rw [va_up_self]; unfold lvR; rw [h.2]; simp
  · rw [va_up_ne _ _ e]; unfold lvR
    have : decide (n < i + 1) = decide (n < i) := by by_cases q : n < i <;> simp [q] <;> omega
    rw [this]
theorem lvR_end (hz : ∀ n, lv n = true → n < 800) : lvR lv go cn op ce 1024 = fun n => lv n && !rcB go cn op ce n := by
  funext n; unfold lvR
  cases h : lv n with
  | false => rfl
  | true => have := hz n h; simp [show n < 1024 by omega]
end OPN
set_option maxRecDepth 100000 in
set_option maxHeartbeats 4000000 in
theorem c_X0_init (l : Launch) (G : GG) (A : Nat → Prop) (ad : Lb → Nat) (dm : Lb → Prop) (ct : Lb → va_E) (x9 : Lb) (hd9 : dm x9) (hct9 : ct x9 = .inr (1, [.int 0, .null, .int 0, .int 0])) (r0 : Nat) (y : Int32) (e9 : Nat) :
    CT l yX0_init cX0_init 4 none { frames := 1, cells := 0, slots := 0, locals := 12 } [.ref (ad x9), .ref r0, .int y, .int (nI e9)] G A (ad, dm, ct) (fun v w' => ∃ ct', w' = (ad, dm, ct') ∧ v = none ∧ ct' x9 = .inr (1, [.int (nI e9), .ref r0, .int y, .int 0]) ∧ ∀ z, z ≠ x9 → ct' z = ct z) (fun _ => False) (0) (0) := by
  refine ct_of (by decide) (Nat.le_of_ble_eq_true rfl) ?_
  intro p e s m below meth c ls F hr hlk hnm hex hE hW hl
  have hx := F.1
  have hb := F.2.1
  have hS : va_S A s.heap s.heap [] := va_S.rf
  have hl : lv_has ls 4 [(0, .ref (ad x9)), (1, .ref r0), (2, .int y), (3, .int (nI e9))] := hl
  refine lv_aload_n hx hb dX0_init_0 rfl (lv_at hl 0 rfl) ?_
  refine W.objInit hx hb F.2.2.2.1 (F.2.2.2.2 _ kw_417) (F.2.2.2.2 _ kw_25) (F.2.2.2.2 _ kw_26) rfl (by rw [F.2.2.1]; exact hl.1) rfl dX0_init_1 (Nat.le_of_ble_eq_true rfl) (Nat.le_of_ble_eq_true rfl) ?_
  refine lv_aload_n hx hb dX0_init_4 rfl (lv_at hl 0 rfl) ?_
  refine lv_aload_n hx hb dX0_init_5 rfl (lv_at hl 1 rfl) ?_
  refine kp F hE hW hS x9 hd9 rfl hct9 rfl inA_X0 tyX0 tyX0_ok nmX0 1 (by decide) kw_420 rfl rfl rfl (Nat.le_of_ble_eq_true rfl) dX0_init_6 (fun ct1 H locs hW hc1 hf1 hS => ?_)
  refine lv_aload_n hx hb dX0_init_9 rfl (lv_at hl 0 rfl) ?_
  refine lv_iload_n hx hb dX0_init_10 rfl (lv_at hl 2 rfl) ?_
  refine kp F hE hW hS x9 hd9 rfl hc1 rfl inA_X0 tyX0 tyX0_ok nmX0 2 (by decide) kw_421 rfl rfl rfl (Nat.le_of_ble_eq_true rfl) dX0_init_11 (fun ct2 H locs hW hc2 hf2 hS => ?_)
  refine lv_aload_n hx hb dX0_init_14 rfl (lv_at hl 0 rfl) ?_
  refine lv_iload_n hx hb dX0_init_15 rfl (lv_at hl 3 rfl) ?_
  refine kpF F hE hW hS hnm x9 hd9 rfl hc2 rfl inA_X0 tyX0 tyX0_ok nmX0 0 (by decide) kw_418 rfl rfl rfl rfl (Nat.le_of_ble_eq_true rfl) dX0_init_16 (fun ct3 H locs hW hc3 hf3 hS => ?_)
  exact kr_v F hr hlk hE hW hS (Nat.le_of_ble_eq_true rfl) (Nat.le_of_ble_eq_true rfl) dX0_init_19 (⟨ct3, rfl, rfl, hc3, fun z hz => (hf3 z hz).trans ((hf2 z hz).trans (hf1 z hz))⟩)
set_option maxRecDepth 100000 in
set_option maxHeartbeats 4000000 in
theorem c_X2_open (l : Launch) (G : GG) (A : Nat → Prop) (ad : Lb → Nat) (dm : Lb → Prop) (ct : Lb → va_E) (lv : Nat → Bool) (lev : Nat → Nat) (lo : Nat → Nat) (hi : Nat → Nat) (ri : Nat → Option Nat) (sz : Nat → Nat) (ky : Nat → Nat) (vl : Nat → Nat) (go : Nat → Option Nat) (rt : Nat) (ep : Nat) (wq : Nat → Nat) (wn : Nat) (cn : Nat) (op : Nat → Bool) (cl : Nat → Nat) (ca : Nat → Nat) (ce : Nat → Nat) (kc : Nat) (nb : Nat) (hst : l.stackTraces = false) (hH : HKF G ad dm ct lv lev lo hi ri sz ky vl go rt ep wq wn cn op cl ca ce kc nb) (t0 : Nat) (hI : InvF lv lev lo hi ri sz ky vl go rt ep wq wn cn op cl ca ce kc nb 800 t0) (hd7 : ¬ dm (7, 0)) (x : Int32) :
    CT l yX2_open cX2_open 3 (some FieldType.int) { frames := 7, cells := 2, slots := 12, locals := 120 } [.ref (ad (0, 0)), .int x] G A (ad, dm, ct) (fun v w' => ∃ ad' dm' ct', w' = (ad', dm', ct') ∧ FH ad dm ct ad' dm' ct' ∧ ∃ key, key < 200 ∧ x = nI key ∧ cn < 20 ∧ HK G ad' dm' ct' (opnS (lv, lev, lo, hi, ri, sz, ky, vl, go, rt, ep, wq, wn, cn, op, cl, ca, ce, kc, nb) key) ∧ v = some (.int (nI cn))) (fun E => (E = "java/lang/IllegalArgumentException" ∧ ∀ k, k < 200 → x ≠ nI k) ∨ (E = "java/lang/IllegalStateException" ∧ (∃ k, k < 200 ∧ x = nI k) ∧ cn = 20)) (2) (12) := by
  refine ct_of (by decide) (Nat.le_of_ble_eq_true rfl) ?_
  intro p e s m below meth c ls F hr hlk hnm hex hE hW hl
  have hx := F.1
  have hb := F.2.1
  have hS : va_S A s.heap s.heap [] := va_S.rf
  have hl : lv_has ls 3 [(0, .ref (ad (0, 0))), (1, .int x)] := hl
  have hI0 := hI
  obtain ⟨hP, hQ, hCu, hkc, hsum, ht, hep, hkt⟩ := hI
  have hb9 : nb ≤ 513 := by omega
  have hwn9 : wn ≤ 513 := by omega
  obtain ⟨hfr1, hfr2, hfr3⟩ := fr_spec hP hb9
  refine lv_iload_n hx hb dX2_open_0 rfl (lv_at hl 1 rfl) ?_
  refine kc_S 1 (c_X2_checkKey l G A ad dm ct hst x) F hE hW hS kw_289 kw_290 kw_1 kw_291 (by decide +kernel) rfl ⟨rfl, rfl⟩ ⟨Nat.le_of_ble_eq_true rfl, Nat.le_of_ble_eq_true rfl⟩ hl.1 rfl (Nat.le_of_ble_eq_true rfl) dX2_open_1 ⟨Nat.le_of_ble_eq_true rfl, Nat.le_of_ble_eq_true rfl⟩ (fun E q9 ce H locs hpx hW hS hce hcv hcl => kr_x hex hlk hW hS hce hcv hcl (Nat.le_of_ble_eq_true rfl) (Nat.le_of_ble_eq_true rfl) (Or.inl hpx)) (fun v w' H locs hp hW hS => ?_)
  obtain ⟨rfl, rfl, key, hk, rfl⟩ := hp
  have hAt := dnF_at hP hk 2000 rt (vp_root (key := key) (lvl := 0) hP (Nat.zero_le _)) (by have := mu_root hP hb9; omega)
  obtain ⟨pz, hpz⟩ : ∃ z, (dnF lev hi ri sz ky vl key 0 2000 rt).1 = z := ⟨_, rfl⟩
  rw [hpz] at hAt
  obtain ⟨u1, u2, u3, u4, u5, u6⟩ := pg_bd hP hb9 hAt.1.1
  have hcn9 := hCu.1
  refine lv_aload_n hx hb dX2_open_4 rfl (lv_at hl 0 rfl) ?_
  refine kg F hE hW (0, 0) hH.1.1 rfl hH.2.1 rfl inA_X2 7 (by decide) kw_112 (v := .int (nI cn)) rfl dX2_open_5 ?_
  refine lv_aload_n hx hb dX2_open_8 rfl (lv_at hl 0 rfl) ?_
  refine kg F hE hW (0, 0) hH.1.1 rfl hH.2.1 rfl inA_X2 2 (by decide) kw_107 (v := .ref (ad (0, 4))) rfl dX2_open_9 ?_
  refine kal 3 F hE hW (0, 4) hH.1.2.2 rfl rfl hH.2.2.2.1 dX2_open_12 ?_
  refine nc_lt (tgt := 26) hx hb dX2_open_13 (by decide) (by omega) (by omega) (fun c1 => ?_) (fun c1 => ?_)
  · refine lv_aload_n hx hb dX2_open_26 rfl (lv_at hl 0 rfl) ?_
    refine kg F hE hW (0, 0) hH.1.1 rfl hH.2.1 rfl inA_X2 7 (by decide) kw_112 (v := .int (nI cn)) rfl dX2_open_27 ?_
    refine lv_istore_n (lv' := [(2, .int (nI cn)), (0, .ref (ad (0, 0))), (1, .int (nI key))]) hx hb dX2_open_30 rfl hl (by decide) rfl (fun ls hl => ?_)
    refine lv_aload_n hx hb dX2_open_31 rfl (lv_at hl 1 rfl) ?_
    refine kg F hE hW (0, 0) hH.1.1 rfl hH.2.1 rfl inA_X2 2 (by decide) kw_107 (v := .ref (ad (0, 4))) rfl dX2_open_32 ?_
    refine lv_iload_n hx hb dX2_open_35 rfl (lv_at hl 0 rfl) ?_
    refine no (ci := 1) F hE hW hS (7, 0) hd7 rfl inA_X0 tyX0 tyX0_ok kw_55 kw_413 kw_17 [.int 0, .null, .int 0, .int 0] (fun j hj => by rcases (show j = 0 ∨ j = 1 ∨ j = 2 ∨ j = 3 by omega) with rfl | rfl | rfl | rfl <;> rfl) (Nat.le_of_ble_eq_true rfl) (Nat.le_of_ble_eq_true rfl) dX2_open_36 (fun ad1 dm1 ct1 H hW hN hS => ?_)
    have hH0 := hH
    have h7n : ∀ z : Lb, z.1 < 7 → z ≠ (7, 0) := fun z hz => by rintro rfl; simp at hz
    have hH := hH.far (ad1 := ad1) (dm1 := dm1) (ct1 := ct1) (fun z hz => ⟨(hN.1 z (h7n z hz)).1, (hN.1 z (h7n z hz)).2, by rw [hN.2.2]; simp [h7n z hz]⟩)
    have hA : ∀ z : Lb, z.1 < 7 → ad1 z = ad z := fun z hz => (hN.1 z (h7n z hz)).1
    refine lv_dup hx hb dX2_open_39 rfl ?_
    refine lv_aload_n hx hb dX2_open_40 rfl (lv_at hl 1 rfl) ?_
    refine lv_iload_n hx hb dX2_open_41 rfl (lv_at hl 2 rfl) ?_
    refine lv_iconst (v := nI 0) hx hb dX2_open_42 (by decide) ?_
    refine kc_Va 2 (c_X2_goDown l G A ad1 dm1 ct1 lv lev lo hi ri sz ky vl go rt ep wq wn cn op cl ca ce kc nb hH 800 key 0 hP hb9 hk (Nat.zero_le _)) F hE hW hS (0, 0) hH.1.1 hH.2.1 (hA (0, 0) (by decide)) rfl [.int (nI key), .int (nI 0)] rfl kw_179 kw_181 kp_5 kw_1 kw_182 (by decide +kernel) rfl ⟨rfl, rfl⟩ ⟨Nat.le_of_ble_eq_true rfl, Nat.le_of_ble_eq_true rfl⟩ hl.1 rfl (Nat.le_of_ble_eq_true rfl) dX2_open_43 ⟨Nat.le_of_ble_eq_true rfl, Nat.le_of_ble_eq_true rfl⟩ (fun _ _ _ _ _ h => h.elim) (fun v w' H locs hp hW hS => ?_)
    rw [hpz] at hp
    obtain ⟨rfl, rfl⟩ := hp
    refine lv_iload_n hx hb dX2_open_46 rfl (lv_at hl 2 rfl) ?_
    refine lv_iconst (v := nI 1) hx hb dX2_open_47 (by decide) ?_
    refine lv_isub hx hb dX2_open_48 ?_
    refine ktop (y := lI key) rfl ?_
    refine lv_aload_n hx hb dX2_open_49 rfl (lv_at hl 1 rfl) ?_
    refine kg F hE hW (0, 0) hH.1.1 (hA (0, 0) (by decide)) hH.2.1 rfl inA_X2 6 (by decide) kw_111 (v := .int (nI ep)) rfl dX2_open_50 ?_
    refine kc_I 3 (c_X0_init l G A ad1 dm1 ct1 (7, 0) ((hN.2.2 _).mpr (Or.inl rfl)) hN.2.1 (ad1 (1, pz)) (lI key) ep) (As := [.ref (ad1 (1, pz)), .int (lI key), .int (nI ep)]) rfl F hE hW hS kw_414 kw_415 kw_17 kw_416 rfl (by decide +kernel) rfl ⟨rfl, rfl⟩ ⟨(Nat.le_of_ble_eq_true rfl), (Nat.le_of_ble_eq_true rfl)⟩ hl.1 rfl (Nat.le_of_ble_eq_true rfl) dX2_open_53 ⟨(Nat.le_of_ble_eq_true rfl), (Nat.le_of_ble_eq_true rfl)⟩ (fun _ _ _ _ _ h => h.elim) (fun v w' H locs hp hW hS => ?_)
    obtain ⟨ct2, rfl, rfl, hc2, hf2⟩ := hp
    have hx5 : ¬ dm (5, cn) := hH0.2.2.2.2.2.1.2 cn (Nat.le_refl _)
    obtain ⟨ad3, dm3, ct3, hW, had, hN3⟩ := wd_nm (x := (5, cn)) hW hN hf2 hd7 hx5 (lb_ne (by decide))
    rw [hc2, hA (1, pz) (by show 1 < 7; decide)] at hN3
    have hB : ∀ z : Lb, z ≠ (5, cn) → ad3 z = ad z ∧ ct3 z = ct z ∧ (dm3 z ↔ dm z) := fun z hz => ⟨(hN3.1 z hz).1, (hN3.1 z hz).2, by rw [hN3.2.2]; simp [hz]⟩
    have b00 := hB (0, 0) (lb_ne (by decide))
    have b04 := hB (0, 4) (lb_ne (by decide))
    refine ks_a 3 (r := (RX0, TX0, 4)) F hE hW hS (0, 4) (b04.2.2.mpr hH0.1.2.2) b04.1 rfl (b04.2.1.trans hH0.2.2.2.1) (5, cn) ((hN3.2.2 _).mpr (Or.inl rfl)) had hN3.2.1 rfl cn rfl c1 (by decide) dX2_open_56 (fun ct4 H locs hW hc4 hf4 hS => ?_)
    have hc04 : ct4 (0, 0) = _ := (hf4 _ (by decide)).trans (b00.2.1.trans hH0.2.1)
    refine lv_aload_n hx hb dX2_open_57 rfl (lv_at hl 1 rfl) ?_
    refine lv_dup hx hb dX2_open_58 rfl ?_
    refine kg F hE hW (0, 0) (b00.2.2.mpr hH0.1.1) b00.1 hc04 rfl inA_X2 7 (by decide) kw_112 (v := .int (nI cn)) rfl dX2_open_59 ?_
    refine lv_iconst (v := nI 1) hx hb dX2_open_62 (by decide) ?_
    refine lv_iadd hx hb dX2_open_63 ?_
    refine ktop (nI_add _ _) ?_
    refine kp F hE hW hS (0, 0) (b00.2.2.mpr hH0.1.1) b00.1 hc04 rfl inA_X2 tyX2 tyX2_ok nmX2 7 (by decide) kw_112 rfl rfl rfl (Nat.le_of_ble_eq_true rfl) dX2_open_64 (fun ct71 H locs hW hc71 hf71 hS => ?_)
    refine lv_iload_n hx hb dX2_open_67 rfl (lv_at hl 0 rfl) ?_
    have hR : HKF G ad3 dm3 ct71 lv lev lo hi ri sz ky vl go rt ep wq wn (cn + 1) (va_up op cn true) (va_up cl cn pz) (va_up ca cn key) (va_up ce cn ep) kc nb := hH0.opn hN3 ((hf71 _ (by decide)).trans (by rw [had]; exact hc4)) hc71 (fun z a b => (hf71 z b).trans (hf4 z a))
    have hF9 : FH ad dm ct ad3 dm3 ct71 := ⟨fun z hz => ⟨(hB z (by rintro rfl; simp at hz)).1, (hf71 z (by rintro rfl; simp at hz)).trans ((hf4 z (by rintro rfl; simp at hz)).trans (hB z (by rintro rfl; simp at hz)).2.1), (hB z (by rintro rfl; simp at hz)).2.2⟩, b00.1⟩
    rw [← hpz] at hR
    exact kr_i F hr hlk hE hW hS (Nat.le_of_ble_eq_true rfl) (Nat.le_of_ble_eq_true rfl) dX2_open_68 (⟨_, _, _, rfl, hF9, key, hk, rfl, c1, hR, rfl⟩)
  · exact kr_t (cls := "java/lang/IllegalStateException") (text := "all cursors were opened") (ik := 82) (is := 147) (ic := 86) F hst hlk hex hE hW hS hl.1 (by decide +kernel) kw_388 kw_14 kn_412 tl_86.1 tl_86.2.1 tl_86.2.2 dX2_open_16 dX2_open_19 dX2_open_20 dX2_open_22 dX2_open_25 (Nat.le_of_ble_eq_true rfl) (Nat.le_of_ble_eq_true rfl) (Nat.le_of_ble_eq_true rfl) (Nat.le_of_ble_eq_true rfl) (Nat.le_of_ble_eq_true rfl) (Nat.le_of_ble_eq_true rfl) (Or.inr ⟨rfl, ⟨key, hk, rfl⟩, by omega⟩)
set_option maxRecDepth 100000 in
set_option maxHeartbeats 4000000 in
theorem c_X2_recycle (l : Launch) (G : GG) (A : Nat → Prop) (ad : Lb → Nat) (dm : Lb → Prop) (ct : Lb → va_E) (lv : Nat → Bool) (lev : Nat → Nat) (lo : Nat → Nat) (hi : Nat → Nat) (ri : Nat → Option Nat) (sz : Nat → Nat) (ky : Nat → Nat) (vl : Nat → Nat) (go : Nat → Option Nat) (rt : Nat) (ep : Nat) (wq : Nat → Nat) (wn : Nat) (cn : Nat) (op : Nat → Bool) (cl : Nat → Nat) (ca : Nat → Nat) (ce : Nat → Nat) (kc : Nat) (nb : Nat) (hH : HKF G ad dm ct lv lev lo hi ri sz ky vl go rt ep wq wn cn op cl ca ce kc nb) (t0 : Nat) (hI : InvF lv lev lo hi ri sz ky vl go rt ep wq wn cn op cl ca ce kc nb 800 t0)  :
    CT l yX2_recycle cX2_recycle 4 (some FieldType.int) { frames := 1, cells := 0, slots := 0, locals := 25 } [.ref (ad (0, 0))] G A (ad, dm, ct) (fun v w' => ∃ dm' ct', w' = (ad, dm', ct') ∧ HK G ad dm' ct' (recS (lv, lev, lo, hi, ri, sz, ky, vl, go, rt, ep, wq, wn, cn, op, cl, ca, ce, kc, nb)).1 ∧ FH ad dm ct ad dm' ct' ∧ v = some (.int (nI (recS (lv, lev, lo, hi, ri, sz, ky, vl, go, rt, ep, wq, wn, cn, op, cl, ca, ce, kc, nb)).2))) (fun _ => False) (0) (0) := by
  refine ct_of (by decide) (Nat.le_of_ble_eq_true rfl) ?_
  intro p e s m below meth c ls F hr hlk hnm hex hE hW hl
  have hx := F.1
  have hb := F.2.1
  have hS : va_S A s.heap s.heap [] := va_S.rf
  have hl : lv_has ls 4 [(0, .ref (ad (0, 0)))] := hl
  have hI0 := hI
  obtain ⟨hP, hQ, hCu, hkc, hsum, ht, hep, hkt⟩ := hI
  have hb9 : nb ≤ 513 := by omega
  have hwn9 : wn ≤ 513 := by omega
  obtain ⟨hfr1, hfr2, hfr3⟩ := fr_spec hP hb9
  have hz8 : ∀ j, lv j = true → j < 800 := fun j hj => by have := (hP.1 j hj).1; omega
  have hCN : cntB 1024 (fun n => lv n && rcB go cn op ce n) = cntB 800 (fun n => lv n && rcB go cn op ce n) := cntB_more (n := 800) 224 (fun k hk => by cases h : lv k with
    | false => simp [h]
    | true => have := hz8 k h; omega)
  have hc9 : cntB 800 (fun n => lv n && rcB go cn op ce n) ≤ 800 := cntB_le _ _
  have hcn9 := hCu.1
  refine lv_iconst (v := nI 0) hx hb dX2_recycle_0 (by decide) ?_
  refine lv_istore_n (lv' := [(1, .int (nI 0)), (0, .ref (ad (0, 0)))]) hx hb dX2_recycle_1 rfl hl (by decide) rfl (fun ls hl => ?_)
  refine lv_iconst (v := nI 0) hx hb dX2_recycle_2 (by decide) ?_
  refine lv_istore_n (lv' := [(2, .int (nI 0)), (1, .int (nI 0)), (0, .ref (ad (0, 0)))]) hx hb dX2_recycle_3 rfl hl (by decide) rfl (fun ls hl => ?_)
  suffices key9 : ∀ (d i f0 : Nat) (dm1 : Lb → Prop) (ct1 : Lb → va_E) (H : Heap) (locs : List Loc) (ls : Array Slot), i + d = 1024 → f0 = cntB i (fun n => lv n && rcB go cn op ce n) → f0 ≤ i → HKF G ad dm1 ct1 (lvR lv go cn op ce i) lev lo hi ri sz ky vl go rt ep wq wn cn op cl ca ce kc nb → FH ad dm ct ad dm1 ct1 → wd G A (ad, dm1, ct1) H → va_S A s.heap H locs → lv_has ls 4 [(2, .int (nI i)), (1, .int (nI f0)), (0, .ref (ad (0, 0)))] → W _ l e _ s m _ below meth c H locs 0 0 _ (F0 m 4 ls []) from
    key9 1024 0 0 dm ct _ _ ls (by decide) rfl (Nat.le_refl _) (by rw [lvR_0]; exact hH) FH.rf hW hS hl
  clear hH hW hS hl
  intro d
  induction d with
  | zero =>
    intro i f0 dmA ctA H locs ls hi9 hf9 hle hH hF hW hS hl
    refine lv_iload_n hx hb dX2_recycle_4 rfl (lv_at hl 0 rfl) ?_
    refine lv_aload_n hx hb dX2_recycle_5 rfl (lv_at hl 2 rfl) ?_
    refine kg F hE hW (0, 0) hH.1.1 rfl hH.2.1 rfl inA_X2 0 (by decide) kw_105 (v := .ref (ad (0, 1))) rfl dX2_recycle_6 ?_
    refine kal 2 F hE hW (0, 1) hH.1.2.1 rfl rfl hH.2.2.1 dX2_recycle_9 ?_
    refine nc_ge (tgt := 58) hx hb dX2_recycle_10 (by decide) (by omega) (by omega) (fun c1 => ?_) (fun c1 => ?_)
    · refine lv_iload_n hx hb dX2_recycle_58 rfl (lv_at hl 1 rfl) ?_
      obtain rfl : i = 1024 := by omega
      rw [lvR_end hz8] at hH
      exact kr_i F hr hlk hE hW hS (Nat.le_of_ble_eq_true rfl) (Nat.le_of_ble_eq_true rfl) dX2_recycle_59 (⟨_, _, rfl, hH, hF, by rw [hf9, hCN]; rfl⟩)
    · exact absurd c1 (by omega)
  | succ d ih =>
    intro i f0 dmA ctA H locs ls hi9 hf9 hle hH hF hW hS hl
    refine lv_iload_n hx hb dX2_recycle_4 rfl (lv_at hl 0 rfl) ?_
    refine lv_aload_n hx hb dX2_recycle_5 rfl (lv_at hl 2 rfl) ?_
    refine kg F hE hW (0, 0) hH.1.1 rfl hH.2.1 rfl inA_X2 0 (by decide) kw_105 (v := .ref (ad (0, 1))) rfl dX2_recycle_6 ?_
    refine kal 2 F hE hW (0, 1) hH.1.2.1 rfl rfl hH.2.2.1 dX2_recycle_9 ?_
    refine nc_ge (tgt := 58) hx hb dX2_recycle_10 (by decide) (by omega) (by omega) (fun c1 => ?_) (fun c1 => ?_)
    · exact absurd c1 (by omega)
    · refine lv_aload_n hx hb dX2_recycle_13 rfl (lv_at hl 2 rfl) ?_
      refine kg F hE hW (0, 0) hH.1.1 rfl hH.2.1 rfl inA_X2 0 (by decide) kw_105 (v := .ref (ad (0, 1))) rfl dX2_recycle_14 ?_
      refine lv_iload_n hx hb dX2_recycle_17 rfl (lv_at hl 0 rfl) ?_
      cases hv9 : lv i with
      | false =>
        refine kl_a 2 F hE hW (0, 1) hH.1.2.1 rfl rfl hH.2.2.1 i rfl (by omega) (by decide) (v := .null) (by rw [pfA_f (by rw [lvR_i, hv9])]; rfl) dX2_recycle_18 ?_
        refine lv_astore_nN (lv' := [(3, .null), (2, .int (nI i)), (1, .int (nI f0)), (0, .ref (ad (0, 0)))]) hx hb dX2_recycle_19 rfl hl (by decide) rfl (fun ls hl => ?_)
        refine lv_aload_nN hx hb dX2_recycle_20 rfl (lv_at hl 0 rfl) ?_
        refine lv_ifnullN (tgt := 52) hx hb dX2_recycle_21 (by decide) ?_
        refine lv_iinc (v := nI (i + 1)) (lv' := [(2, .int (nI (i + 1))), (3, .null), (1, .int (nI f0)), (0, .ref (ad (0, 0)))]) hx hb dX2_recycle_52 hl (k := 1) rfl (ki1 _) (by decide) rfl (fun ls hl => ?_)
        refine lv_goto (tgt := 4) hx hb dX2_recycle_55 (by decide) ?_
        exact ih (i + 1) f0 _ _ _ _ _ (by omega) (by rw [hf9, cntB_s0 (by simp [hv9])]) (by omega) (by rw [lvR_no (by simp [hv9])]; exact hH) hF hW hS (lv_sub hl [0, 2, 3] rfl)
      | true =>
        refine kl_a 2 F hE hW (0, 1) hH.1.2.1 rfl rfl hH.2.2.1 i rfl (by omega) (by decide) (v := .ref (ad (1, i))) (by rw [pfA_t (by rw [lvR_i, hv9])]; rfl) dX2_recycle_18 ?_
        obtain ⟨kf1, vf1, cf1, ta1, hPp1, hCp1, hTp1⟩ := hH.2.2.2.2.2.2.1 i (by rw [lvR_i, hv9])
        refine lv_astore_n (lv' := [(3, .ref (ad (1, i))), (2, .int (nI i)), (1, .int (nI f0)), (0, .ref (ad (0, 0)))]) hx hb dX2_recycle_19 rfl hl (by decide) rfl (fun ls hl => ?_)
        refine lv_aload_n hx hb dX2_recycle_20 rfl (lv_at hl 0 rfl) ?_
        refine lv_ifnull hx hb dX2_recycle_21 ?_
        refine lv_aload_n hx hb dX2_recycle_24 rfl (lv_at hl 0 rfl) ?_
        cases hg9 : go i with
        | none =>
          have hrb : rcB go cn op ce i = false := by unfold rcB; rw [hg9]
          refine kg F hE hW (1, i) hPp1.1.1 rfl hPp1.2.1 rfl inA_X1 9 (by decide) kw_79 (v := .int (nI 0)) (by show some (Value.int (nI (dI go i))) = _; unfold dI; rw [hg9]; rfl) dX2_recycle_25 ?_
          refine nz_eq (tgt := 52) hx hb dX2_recycle_28 (by decide) (by decide) (fun c9 => ?_) (fun c9 => ?_)
          · refine lv_iinc (v := nI (i + 1)) (lv' := [(2, .int (nI (i + 1))), (3, .ref (ad (1, i))), (1, .int (nI f0)), (0, .ref (ad (0, 0)))]) hx hb dX2_recycle_52 hl (k := 1) rfl (ki1 _) (by decide) rfl (fun ls hl => ?_)
            refine lv_goto (tgt := 4) hx hb dX2_recycle_55 (by decide) ?_
            exact ih (i + 1) f0 _ _ _ _ _ (by omega) (by rw [hf9, cntB_s0 (by simp [hrb])]) (by omega) (by rw [lvR_no (by simp [hrb])]; exact hH) hF hW hS (lv_sub hl [0, 2, 3] rfl)
          · exact absurd c9 (by decide)
        | some e9 =>
          have hrb : rcB go cn op ce i = allB cn (fun c => !(op c && decide (ce c ≤ e9))) := by unfold rcB; rw [hg9]
          have he9 := hP.2.2.2.2.2.2.1 i e9 hv9 hg9
          refine kg F hE hW (1, i) hPp1.1.1 rfl hPp1.2.1 rfl inA_X1 9 (by decide) kw_79 (v := .int (nI 1)) (by show some (Value.int (nI (dI go i))) = _; unfold dI; rw [hg9]; rfl) dX2_recycle_25 ?_
          refine nz_eq (tgt := 52) hx hb dX2_recycle_28 (by decide) (by decide) (fun c9 => ?_) (fun c9 => ?_)
          · exact absurd c9 (by decide)
          · refine lv_aload_n hx hb dX2_recycle_31 rfl (lv_at hl 3 rfl) ?_
            refine lv_aload_n hx hb dX2_recycle_32 rfl (lv_at hl 0 rfl) ?_
            refine kg F hE hW (1, i) hPp1.1.1 rfl hPp1.2.1 rfl inA_X1 10 (by decide) kw_80 (v := .int (nI e9)) (by show some (Value.int (nI ta1)) = _; rw [hTp1 e9 hg9]) dX2_recycle_33 ?_
            refine kc_V 1 (c_X2_allOpenedAfter l G A ad dmA ctA (lvR lv go cn op ce i) lev lo hi ri sz ky vl go rt ep wq wn cn op cl ca ce kc nb hH hcn9 (fun c8 h8 => by have := (hCu.2 c8 h8).2.1; omega) e9 (by omega)) F hE hW hS (0, 0) hH.1.1 hH.2.1 rfl [.int (nI e9)] rfl kw_265 kw_267 kp_10 kw_1 kw_268 (by decide +kernel) rfl ⟨rfl, rfl⟩ ⟨Nat.le_of_ble_eq_true rfl, Nat.le_of_ble_eq_true rfl⟩ hl.1 rfl (Nat.le_of_ble_eq_true rfl) dX2_recycle_36 ⟨Nat.le_of_ble_eq_true rfl, Nat.le_of_ble_eq_true rfl⟩ (fun _ _ _ _ _ h => h.elim) (fun v w' H locs hp hW hS => ?_)
            rw [← hrb] at hp
            obtain ⟨rfl, rfl⟩ := hp
            cases hr9 : rcB go cn op ce i with
            | false =>
              refine nz_eq (tgt := 52) hx hb dX2_recycle_39 (by decide) (by decide) (fun c9 => ?_) (fun c9 => ?_)
              · refine lv_iinc (v := nI (i + 1)) (lv' := [(2, .int (nI (i + 1))), (3, .ref (ad (1, i))), (1, .int (nI f0)), (0, .ref (ad (0, 0)))]) hx hb dX2_recycle_52 hl (k := 1) rfl (ki1 _) (by decide) rfl (fun ls hl => ?_)
                refine lv_goto (tgt := 4) hx hb dX2_recycle_55 (by decide) ?_
                exact ih (i + 1) f0 _ _ _ _ _ (by omega) (by rw [hf9, cntB_s0 (by simp [hr9])]) (by omega) (by rw [lvR_no (by simp [hr9])]; exact hH) hF hW hS (lv_sub hl [0, 2, 3] rfl)
              · exact absurd c9 (by decide)
            | true =>
              refine nz_eq (tgt := 52) hx hb dX2_recycle_39 (by decide) (by decide) (fun c9 => ?_) (fun c9 => ?_)
              · exact absurd c9 (by decide)
              · refine lv_aload_n hx hb dX2_recycle_42 rfl (lv_at hl 3 rfl) ?_
                refine kg F hE hW (0, 0) hH.1.1 rfl hH.2.1 rfl inA_X2 0 (by decide) kw_105 (v := .ref (ad (0, 1))) rfl dX2_recycle_43 ?_
                refine lv_iload_n hx hb dX2_recycle_46 rfl (lv_at hl 1 rfl) ?_
                refine lv_null hx hb dX2_recycle_47 ?_
                refine ks_n 2 F hE hW hS (0, 1) hH.1.2.1 rfl rfl hH.2.2.1 i rfl (by omega) (by decide) dX2_recycle_48 (fun ct1 H locs hW hc1 hf1 hS => ?_)
                have hH := hH.rcy hc1 hf1
                rw [lvR_up (by simp [hv9, hr9])] at hH
                have hW := wd_dr (dm2 := fun z => dmA z ∧ ¬ (1 ≤ z.1 ∧ z.1 ≤ 4 ∧ z.2 = i)) hW (fun z h => h.1)
                have hF := hF.tr (ad2 := ad) (dm2 := fun z => dmA z ∧ ¬ (1 ≤ z.1 ∧ z.1 ≤ 4 ∧ z.2 = i)) (ct2 := ct1) ⟨fun z hz => ⟨rfl, hf1 z (by rintro rfl; simp at hz), ⟨fun h => h.1, fun h => ⟨h, by omega⟩⟩⟩, rfl⟩
                refine lv_iinc (v := nI (f0 + 1)) (lv' := [(1, .int (nI (f0 + 1))), (3, .ref (ad (1, i))), (2, .int (nI i)), (0, .ref (ad (0, 0)))]) hx hb dX2_recycle_49 hl (k := 2) rfl (ki1 _) (by decide) rfl (fun ls hl => ?_)
                refine lv_iinc (v := nI (i + 1)) (lv' := [(2, .int (nI (i + 1))), (1, .int (nI (f0 + 1))), (3, .ref (ad (1, i))), (0, .ref (ad (0, 0)))]) hx hb dX2_recycle_52 hl (k := 2) rfl (ki1 _) (by decide) rfl (fun ls hl => ?_)
                refine lv_goto (tgt := 4) hx hb dX2_recycle_55 (by decide) ?_
                exact ih (i + 1) (f0 + 1) _ _ _ _ _ (by omega) (by rw [hf9, cntB_s1 (by simp [hv9, hr9])]) (by omega) hH hF hW hS (lv_sub hl [0, 1, 3] rfl)
