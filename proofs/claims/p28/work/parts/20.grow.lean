/-! The list grows. -/
def XL (ad : Lb → Nat) (dm : Lb → Prop) (ct : Lb → va_E) (ad1 : Lb → Nat) (dm1 : Lb → Prop) (ct1 : Lb → va_E) : Prop :=
  (∀ z : Lb, z ≠ (0, 2) → z ≠ (0, 3) → ad1 z = ad z ∧ ct1 z = ct z ∧ (dm1 z ↔ dm z)) ∧ ad1 (0, 2) = ad (0, 2) ∧ (dm1 (0, 2) ↔ dm (0, 2))
theorem XL.rf {ad : Lb → Nat} {dm : Lb → Prop} {ct : Lb → va_E} : XL ad dm ct ad dm ct := ⟨fun _ _ _ => ⟨rfl, rfl, Iff.rfl⟩, rfl, Iff.rfl⟩
theorem XL.tr {ad ad1 ad2 : Lb → Nat} {dm dm1 dm2 : Lb → Prop} {ct ct1 ct2 : Lb → va_E} (h1 : XL ad dm ct ad1 dm1 ct1) (h2 : XL ad1 dm1 ct1 ad2 dm2 ct2) : XL ad dm ct ad2 dm2 ct2 :=
  ⟨fun z a b => ⟨(h2.1 z a b).1.trans (h1.1 z a b).1, (h2.1 z a b).2.1.trans (h1.1 z a b).2.1, (h2.1 z a b).2.2.trans (h1.1 z a b).2.2⟩, h2.2.1.trans h1.2.1, h2.2.2.trans h1.2.2⟩
theorem XL.put {ad : Lb → Nat} {dm : Lb → Prop} {ct ct1 : Lb → va_E} {x : Lb} (hx : x = (0, 2) ∨ x = (0, 3)) (hf : ∀ z, z ≠ x → ct1 z = ct z) : XL ad dm ct ad dm ct1 :=
  ⟨fun z a b => ⟨rfl, hf z (by rintro rfl; rcases hx with h | h; exact a h; exact b h), Iff.rfl⟩, rfl, Iff.rfl⟩
theorem isP1.xl {ad ad1 : Lb → Nat} {dm dm1 : Lb → Prop} {ct ct1 : Lb → va_E} {r : Option Nat} (h : isP1 ad dm ct r) (hX : XL ad dm ct ad1 dm1 ct1) : isP1 ad1 dm1 ct1 r := by
  obtain ⟨k, vs, h1, h2, h3⟩ := h
  obtain ⟨e1, e2, e3⟩ := hX.1 (1, k) (by simp) (by simp)
  exact ⟨k, vs, by rw [e1]; exact h1, e3.mpr h2, e2.trans h3⟩
/-- a cell gets another's label -/
theorem wd_mv {G : GG} {A : Nat → Prop} {H : Heap} {ad ad0 : Lb → Nat} {dm : Lb → Prop} {ct ct0 : Lb → va_E} (x y : Lb) (hW : wd G A (ad, dm, ct) H) (hy : dm y) (h0 : ∀ z, dm z → z ≠ y → z ≠ x → ad0 z = ad z ∧ ct0 z = ct z) : wd G A (fun z => if z = x then ad y else ad0 z, fun z => z = x ∨ (dm z ∧ z ≠ y), fun z => if z = x then ct y else ct0 z) H := by
  obtain ⟨h1, h2, h3⟩ := hW
  refine ⟨fun z hz => ?_, fun z u hz hu hzu => ?_, fun z hz => ?_⟩
  · dsimp only at hz ⊢
    by_cases e : z = x
    · rw [if_pos e, if_pos e]; exact h1 y hy
    · have k := hz.resolve_left e
      rw [if_neg e, if_neg e, (h0 z k.1 k.2 e).1, (h0 z k.1 k.2 e).2]; exact h1 z k.1
  · dsimp only at hz hu hzu
    by_cases e : z = x <;> by_cases e2 : u = x
    · rw [e, e2]
    · have k := hu.resolve_left e2
      rw [if_pos e, if_neg e2, (h0 u k.1 k.2 e2).1] at hzu
      exact absurd (h2 y u hy k.1 hzu).symm k.2
    · have k := hz.resolve_left e
      rw [if_neg e, if_pos e2, (h0 z k.1 k.2 e).1] at hzu
      exact absurd (h2 z y k.1 hy hzu) k.2
    · have k := hz.resolve_left e
      have k2 := hu.resolve_left e2
      rw [if_neg e, if_neg e2, (h0 z k.1 k.2 e).1, (h0 u k2.1 k2.2 e2).1] at hzu
      exact h2 z u k.1 k2.1 hzu
  · dsimp only at hz ⊢
    by_cases e : z = x
    · rw [if_pos e]; exact h3 y hy
    · have k := hz.resolve_left e
      rw [if_neg e, (h0 z k.1 k.2 e).1]; exact h3 z k.1
theorem max_1 {k : Nat} (h : 1 < k) (hk : k < 2 ^ 31) : (if nI 1 < nI k then nI k else nI 1) = nI k := if_pos (nI_lt h hk)
theorem max_10 {k : Nat} (h : k ≤ 10) : (if nI 10 < nI k then nI k else nI 10) = nI 10 := if_neg (nI_nlt h (by decide))
theorem min_le {a b : Nat} (h : a ≤ b) (hb : b < 2 ^ 31) : (if nI b < nI a then nI b else nI a) = nI a := if_neg (nI_nlt h hb)
theorem shr1 (n : Nat) (h : n < 2 ^ 31) : nI n >>> (nI 1 &&& 31) = nI (n / 2) := by
  have k := pk_shrN (n := n) h (nI 1 &&& 31) 1 (by decide)
  rw [Nat.pow_one] at k
  exact k
set_option maxRecDepth 100000 in
set_option maxHeartbeats 4000000 in
theorem c_J8_newLength_cabcc (l : Launch) (G : GG) (A : Nat → Prop) (ad : Lb → Nat) (dm : Lb → Prop) (ct : Lb → va_E) (cp : Nat) (h10 : 10 ≤ cp) (h8 : cp ≤ 800) :
    CT l yJ8_newLength_cabcc cJ8_newLength_cabcc 4 (some FieldType.int) { frames := 1, cells := 0, slots := 0, locals := 40 } [.int (nI cp), .int (nI 1), .int (nI (cp / 2))] G A (ad, dm, ct) (fun v w' => (ad, dm, ct) = w' ∧ v = some (.int (nI (cp + cp / 2)))) (fun _ => False) (0) (0) := by
  refine ct_of (by decide) (Nat.le_of_ble_eq_true rfl) ?_
  intro p e s m below meth c ls F hr hlk hnm hex hE hW hl
  have hx := F.1
  have hb := F.2.1
  have hS : va_S A s.heap s.heap [] := va_S.rf
  have hl : lv_has ls 4 [(0, .int (nI cp)), (1, .int (nI 1)), (2, .int (nI (cp / 2)))] := hl
  refine lv_iload_n hx hb dJ8_newLength_cabcc_0 rfl (lv_at hl 0 rfl) ?_
  refine lv_iload_n hx hb dJ8_newLength_cabcc_1 rfl (lv_at hl 1 rfl) ?_
  refine lv_iload_n hx hb dJ8_newLength_cabcc_2 rfl (lv_at hl 2 rfl) ?_
  refine va_mmax hx hb (F.2.2.1.trans hl.1.symm) F.2.2.2.1 (F.2.2.2.2 _ kw_228) (F.2.2.2.2 _ kw_229) (F.2.2.2.2 _ kw_11) (F.2.2.2.2 _ kw_230) (Nat.le_of_ble_eq_true rfl) (Nat.le_of_ble_eq_true rfl) (Nat.le_of_ble_eq_true rfl) (Nat.le_of_ble_eq_true rfl) dJ8_newLength_cabcc_3 ?_
  refine ktop (max_1 (by omega) (by omega)) ?_
  refine lv_iadd hx hb dJ8_newLength_cabcc_6 ?_
  refine ktop (nI_add _ _) ?_
  refine lv_istore_n (lv' := [(3, .int (nI (cp + (cp / 2)))), (0, .int (nI cp)), (1, .int (nI 1)), (2, .int (nI (cp / 2)))]) hx hb dJ8_newLength_cabcc_7 rfl hl (by decide) rfl (fun ls hl => ?_)
  refine lv_iconst (v := nI 0) hx hb dJ8_newLength_cabcc_8 (by decide) ?_
  refine lv_iload_n hx hb dJ8_newLength_cabcc_9 rfl (lv_at hl 0 rfl) ?_
  refine nc_ge (tgt := 21) hx hb dJ8_newLength_cabcc_10 (by decide) (by omega) (by omega) (fun c1 => ?_) (fun c1 => ?_)
  · exact absurd c1 (by omega)
  · refine lv_iload_n hx hb dJ8_newLength_cabcc_13 rfl (lv_at hl 0 rfl) ?_
    refine lv_ldc hx hb F.2.2.2.1 (F.2.2.2.2 _ kw_231) dJ8_newLength_cabcc_14 ?_
    refine ktop (y := nI 2147483639) (by decide) ?_
    refine nc_gt (tgt := 21) hx hb dJ8_newLength_cabcc_16 (by decide) (by omega) (by decide) (fun c2 => ?_) (fun c2 => ?_)
    · exact absurd c2 (by omega)
    · refine lv_iload_n hx hb dJ8_newLength_cabcc_19 rfl (lv_at hl 0 rfl) ?_
      exact kr_i F hr hlk hE hW hS (Nat.le_of_ble_eq_true rfl) (Nat.le_of_ble_eq_true rfl) dJ8_newLength_cabcc_20 (⟨rfl, rfl⟩)
set_option maxRecDepth 100000 in
set_option maxHeartbeats 4000000 in
theorem c_J7_copyOf_6403c (l : Launch) (G : GG) (A : Nat → Prop) (ad : Lb → Nat) (dm : Lb → Prop) (ct : Lb → va_E) (cp n : Nat) (f : Nat → Option Nat) (hcn : cp ≤ n) (hn : n ≤ 800) (hD3 : dm (0, 3)) (hD6 : ¬ dm (6, 0)) (hR : ct (0, 3) = .inl (G.2.1 4, cp, .inr (.inr (.inr (.inr f))))) (hel : ∀ j, j < cp → isP1 ad dm ct (f j)) :
    CT l yJ7_copyOf_6403c cJ7_copyOf_6403c 4 (some (FieldType.array (FieldType.object "java/lang/Object"))) { frames := 3, cells := 1, slots := n, locals := 40 } [.ref (ad (0, 3)), .int (nI n), .ref G.2.2.2] G A (ad, dm, ct) (fun v w' => ∃ ad' dm' ct' g, w' = (ad', dm', ct') ∧ v = some (.ref (ad' (6, 0))) ∧ NW (6, 0) (.inl (G.2.1 4, n, .inr (.inr (.inr (.inr g))))) ad dm ct ad' dm' ct' ∧ ∀ j, j < cp → g j = f j) (fun _ => False) (1) (n) := by
  refine ct_of (by decide) (Nat.le_of_ble_eq_true rfl) ?_
  intro p e s m below meth c ls F hr hlk hnm hex hE hW hl
  have hx := F.1
  have hb := F.2.1
  have hS : va_S A s.heap s.heap [] := va_S.rf
  have hl : lv_has ls 4 [(0, .ref (ad (0, 3))), (1, .int (nI n)), (2, .ref G.2.2.2)] := hl
  have hM := hE.2.1.2.2.2.2.1
  refine lv_aload_n hx hb dJ7_copyOf_6403c_0 rfl (lv_at hl 2 rfl) ?_
  refine va_ldcM hx hb F.2.2.2.1 (F.2.2.2.2 _ kw_252) hM dJ7_copyOf_6403c_1 ?_
  refine lv_acmp_ne (rx := some G.2.2.2) (ry := some G.2.2.2) (tgt := 13) hx hb dJ7_copyOf_6403c_3 (by decide) (fun h => absurd rfl h) (fun _ => ?_)
  refine lv_iload_n hx hb dJ7_copyOf_6403c_6 rfl (lv_at hl 1 rfl) ?_
  refine nq (C := "java/lang/Object") 4 F hE hW hS (6, 0) hD6 kw_254 kn_253 rfl n rfl (by omega) (by omega) (Nat.le_of_ble_eq_true rfl) (by simp) dJ7_copyOf_6403c_7 (fun ad1 dm1 ct1 H hW hN hS => ?_)
  have h03 := hN.1 (0, 3) (by decide)
  refine lv_goto (tgt := 24) hx hb dJ7_copyOf_6403c_10 (by decide) ?_
  refine lv_astore_n (lv' := [(3, .ref (ad1 (6, 0))), (0, .ref (ad (0, 3))), (1, .int (nI n)), (2, .ref G.2.2.2)]) hx hb dJ7_copyOf_6403c_24 rfl hl (by decide) rfl (fun ls hl => ?_)
  refine lv_aload_n hx hb dJ7_copyOf_6403c_25 rfl (lv_at hl 1 rfl) ?_
  refine lv_iconst (v := nI 0) hx hb dJ7_copyOf_6403c_26 (by decide) ?_
  refine lv_aload_n hx hb dJ7_copyOf_6403c_27 rfl (lv_at hl 0 rfl) ?_
  refine lv_iconst (v := nI 0) hx hb dJ7_copyOf_6403c_28 (by decide) ?_
  refine lv_aload_n hx hb dJ7_copyOf_6403c_29 rfl (lv_at hl 1 rfl) ?_
  refine kal 4 F hE hW (0, 3) ((hN.2.2 _).mpr (Or.inr hD3)) h03.1 rfl (h03.2.trans hR) dJ7_copyOf_6403c_30 ?_
  refine lv_iload_n hx hb dJ7_copyOf_6403c_31 rfl (lv_at hl 2 rfl) ?_
  refine va_mmin hx hb (F.2.2.1.trans hl.1.symm) F.2.2.2.1 (F.2.2.2.2 _ kw_255) (F.2.2.2.2 _ kw_256) (F.2.2.2.2 _ kw_11) (F.2.2.2.2 _ kw_257) (Nat.le_of_ble_eq_true rfl) (Nat.le_of_ble_eq_true rfl) (Nat.le_of_ble_eq_true rfl) (by simp) dJ7_copyOf_6403c_32 ?_
  refine ktop (min_le hcn (by omega)) ?_
  refine kcp F (F.2.2.1.trans hl.1.symm) hE hW hS kw_258 kw_158 kw_157 kw_13 (0, 3) (6, 0) ((hN.2.2 _).mpr (Or.inr hD3)) h03.1 ((hN.2.2 _).mpr (Or.inl rfl)) rfl (h03.2.trans hR) hN.2.1 (by decide) (by decide) (by omega) (by omega) (by omega) (fun i hi y hy => ?_) (Nat.le_of_ble_eq_true rfl) (Nat.le_of_ble_eq_true rfl) dJ7_copyOf_6403c_35 (fun ct2 H locs hW hc2 hf2 hS => ?_)
  · obtain ⟨k, vs, k1, k2, k3⟩ := hel (0 + i) (by omega)
    have e1 := hN.1 (1, k) (by simp)
    exact isP1.any ⟨k, vs, by rw [e1.1]; exact k1, (hN.2.2 _).mpr (Or.inr k2), e1.2.trans k3⟩ hE hW y hy
  · refine lv_aload_n hx hb dJ7_copyOf_6403c_38 rfl (lv_at hl 0 rfl) ?_
    exact kr_a F hr hlk hE hW hS (Nat.le_of_ble_eq_true rfl) (by simp) (Or.inr ⟨_, rfl⟩) (Or.inr ⟨_, rfl⟩) dJ7_copyOf_6403c_39 (⟨ad1, dm1, ct2, _, rfl, rfl, ⟨fun z hz => ⟨(hN.1 z hz).1, (hf2 z hz).trans (hN.1 z hz).2⟩, hc2, hN.2.2⟩, fun j hj => by rw [pk_cpy_in (by omega) (by omega)]; congr 1; omega⟩)
set_option maxRecDepth 100000 in
set_option maxHeartbeats 4000000 in
theorem c_J7_copyOf_1904c (l : Launch) (G : GG) (A : Nat → Prop) (ad : Lb → Nat) (dm : Lb → Prop) (ct : Lb → va_E) (cp n : Nat) (f : Nat → Option Nat) (hcn : cp ≤ n) (hn : n ≤ 800) (hD3 : dm (0, 3)) (hD6 : ¬ dm (6, 0)) (hR : ct (0, 3) = .inl (G.2.1 4, cp, .inr (.inr (.inr (.inr f))))) (hel : ∀ j, j < cp → isP1 ad dm ct (f j)) :
    CT l yJ7_copyOf_1904c cJ7_copyOf_1904c 2 (some (FieldType.array (FieldType.object "java/lang/Object"))) { frames := 4, cells := 1, slots := n, locals := 63 } [.ref (ad (0, 3)), .int (nI n)] G A (ad, dm, ct) (fun v w' => ∃ ad' dm' ct' g, w' = (ad', dm', ct') ∧ v = some (.ref (ad' (6, 0))) ∧ NW (6, 0) (.inl (G.2.1 4, n, .inr (.inr (.inr (.inr g))))) ad dm ct ad' dm' ct' ∧ ∀ j, j < cp → g j = f j) (fun _ => False) (1) (n) := by
  refine ct_of (by decide) (Nat.le_of_ble_eq_true rfl) ?_
  intro p e s m below meth c ls F hr hlk hnm hex hE hW hl
  have hx := F.1
  have hb := F.2.1
  have hS : va_S A s.heap s.heap [] := va_S.rf
  have hl : lv_has ls 2 [(0, .ref (ad (0, 3))), (1, .int (nI n))] := hl
  refine lv_aload_n hx hb dJ7_copyOf_1904c_0 rfl (lv_at hl 0 rfl) ?_
  refine lv_iload_n hx hb dJ7_copyOf_1904c_1 rfl (lv_at hl 1 rfl) ?_
  refine lv_aload_n hx hb dJ7_copyOf_1904c_2 rfl (lv_at hl 0 rfl) ?_
  have hM := hE.2.1.2.2.2.2.1
  refine va_getC hx hb (F.2.2.1.trans hl.1.symm) F.2.2.2.1 (F.2.2.2.2 _ kw_238) (va_Nw.use rfl (hE.2.1.1 _ kn_583)) (F.2.2.2.2 _ kw_582) (F.2.2.2.2 _ kw_239) (F.2.2.2.2 _ kw_248) hM ?_ (Nat.le_of_ble_eq_true rfl) (Nat.le_of_ble_eq_true rfl) dJ7_copyOf_1904c_3 ?_
  · have he1 : s.heap[ad (0, 3)]? = some (vp_cell (G.2.1 4) (cp, .inr (.inr (.inr (.inr f))))) := by have h := hW.1 (0, 3) hD3; dsimp only at h; rw [hR] at h; exact h
    obtain ⟨kA, comp, k1, k2, k3, k4⟩ := (hE.1.2 4 _ rfl).2
    exact ⟨_, he1, rfl, k4⟩
  · refine kc_S 3 (c_J7_copyOf_6403c l G A ad dm ct cp n f hcn hn hD3 hD6 hR hel) F hE hW hS kw_249 kw_250 kw_12 kw_251 (by decide +kernel) rfl ⟨rfl, rfl⟩ ⟨Nat.le_of_ble_eq_true rfl, Nat.le_of_ble_eq_true rfl⟩ hl.1 rfl (Nat.le_of_ble_eq_true rfl) dJ7_copyOf_1904c_6 ⟨Nat.le_of_ble_eq_true rfl, by simp⟩ (fun _ _ _ _ _ h => h.elim) (fun v w' H locs hp hW hS => ?_)
    obtain ⟨ad1, dm1, ct1, g, rfl, rfl, hN, hg⟩ := hp
    exact kr_a F hr hlk hE hW hS (Nat.le_of_ble_eq_true rfl) (by simp) (Or.inr ⟨_, rfl⟩) (Or.inr ⟨_, rfl⟩) dJ7_copyOf_1904c_9 (⟨ad1, dm1, ct1, g, rfl, rfl, hN, hg⟩)
