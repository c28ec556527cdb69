/-! The list of splits: ArrayList over the labels (0,2) and (0,3). -/
def LO (mc : Int32) (E sz : Nat) : va_E := .inr (0, [.int mc, .ref E, .int (nI sz)])
def LL (G : GG) (ad : Lb → Nat) (dm : Lb → Prop) (ct : Lb → va_E) (mc : Int32) (sz cap : Nat) (f : Nat → Option Nat) : Prop :=
  dm (0, 2) ∧ ((¬ dm (0, 3) ∧ sz = 0 ∧ cap = 0 ∧ ct (0, 2) = LO mc G.2.2.1 sz) ∨ (dm (0, 3) ∧ sz ≤ cap ∧ 10 ≤ cap ∧ cap ≤ 800 ∧ ct (0, 2) = LO mc (ad (0, 3)) sz ∧ ct (0, 3) = .inl (G.2.1 4, cap, .inr (.inr (.inr (.inr f))))))
theorem LL.obj {G : GG} {ad : Lb → Nat} {dm : Lb → Prop} {ct : Lb → va_E} {mc : Int32} {sz cap : Nat} {f : Nat → Option Nat} (h : LL G ad dm ct mc sz cap f) : dm (0, 2) ∧ sz ≤ 800 ∧ ∃ E, ct (0, 2) = LO mc E sz := by
  obtain ⟨h1, ⟨-, h2, -, h3⟩ | ⟨-, h2, -, h3, h4, -⟩⟩ := h
  · exact ⟨h1, by omega, _, h3⟩
  · exact ⟨h1, by omega, _, h4⟩
def XLc (ct ct1 : Lb → va_E) : Prop := ∀ z : Lb, z ≠ (0, 2) → z ≠ (0, 3) → ct1 z = ct z
theorem PG.keep {G : GG} {ad : Lb → Nat} {dm : Lb → Prop} {ct ct1 : Lb → va_E} {n le lo sz hi : Nat} {ri : Option Nat} {de ta : Nat} {kf vf : Nat → Int32} {cf : Nat → Option Nat} {x : Lb} (h : PG G ad dm ct n le lo sz hi ri de ta kf vf cf) (hf : ∀ z, z ≠ x → ct1 z = ct z) (hx : x.1 = 0 ∨ 4 < x.1) : PG G ad dm ct1 n le lo sz hi ri de ta kf vf cf := by
  have k : ∀ j, 1 ≤ j → j ≤ 4 → ct1 (j, n) = ct (j, n) := fun j h1 h2 => hf _ (by rintro rfl; simp at hx; omega)
  exact ⟨h.1, (k 1 (by decide) (by decide)).trans h.2.1, (k 2 (by decide) (by decide)).trans h.2.2.1, (k 3 (by decide) (by decide)).trans h.2.2.2.1, (k 4 (by decide) (by decide)).trans h.2.2.2.2⟩
/-- an element: a page of the world -/
def isP1 (ad : Lb → Nat) (dm : Lb → Prop) (ct : Lb → va_E) (r : Option Nat) : Prop := ∃ (k : Nat) (vs : List Value), r = some (ad (1, k)) ∧ dm (1, k) ∧ ct (1, k) = .inr (2, vs)
theorem isP1.any {s : State} {H : Heap} {G : GG} {A : Nat → Prop} {ad : Lb → Nat} {dm : Lb → Prop} {ct : Lb → va_E} {r : Option Nat} (h : isP1 ad dm ct r) (hE : VE G A s) (hW : wd G A (ad, dm, ct) H) : ∀ y, r = some y → va_Any "java/lang/Object" s H y := by
  obtain ⟨k, vs, h1, h2, h3⟩ := h
  intro y hy
  exact kAny hE hW (1, k) h2 (Option.some.inj (h1.symm.trans hy)) h3 (r := (RX1, TX1, 11)) rfl kn_572
theorem isP1.keep {ad : Lb → Nat} {dm : Lb → Prop} {ct ct1 : Lb → va_E} {r : Option Nat} {x : Lb} (h : isP1 ad dm ct r) (hf : ∀ z, z ≠ x → ct1 z = ct z) (hx : x.1 ≠ 1) : isP1 ad dm ct1 r := by
  obtain ⟨k, vs, h1, h2, h3⟩ := h
  exact ⟨k, vs, h1, h2, (hf _ (by rintro rfl; exact hx rfl)).trans h3⟩
theorem lo_ne {E : Nat} {mc : Int32} {sz : Nat} : LO mc E sz = .inr (0, [.int mc, .ref E, .int (nI sz)]) := rfl
set_option maxRecDepth 100000 in
set_option maxHeartbeats 4000000 in
theorem c_Jx4a65c_size_8abf5 (l : Launch) (G : GG) (A : Nat → Prop) (ad : Lb → Nat) (dm : Lb → Prop) (ct : Lb → va_E) (mcn : Int32) (sz cap : Nat) (f : Nat → Option Nat) (hL : LL G ad dm ct mcn sz cap f) :
    CT l yJx4a65c_size_8abf5 cJx4a65c_size_8abf5 1 (some FieldType.int) { frames := 0, cells := 0, slots := 0, locals := 0 } [.ref (ad (0, 2))] G A (ad, dm, ct) (fun v w' => (ad, dm, ct) = w' ∧ v = some (.int (nI sz))) (fun _ => False) (0) (0) := by
  refine ct_of (by decide) (Nat.le_of_ble_eq_true rfl) ?_
  intro p e s m below meth c ls F hr hlk hnm hex hE hW hl
  have hx := F.1
  have hb := F.2.1
  have hS : va_S A s.heap s.heap [] := va_S.rf
  have hl : lv_has ls 1 [(0, .ref (ad (0, 2)))] := hl
  obtain ⟨hD, -, E, hO⟩ := hL.obj
  refine lv_aload_n hx hb dJx4a65c_size_8abf5_0 rfl (lv_at hl 0 rfl) ?_
  refine kg F hE hW (0, 2) hD rfl hO rfl inA_JL 2 (by decide) kw_44 (v := .int (nI sz)) rfl dJx4a65c_size_8abf5_1 ?_
  exact kr_i F hr hlk hE hW hS (Nat.le_of_ble_eq_true rfl) (Nat.le_of_ble_eq_true rfl) dJx4a65c_size_8abf5_4 (⟨rfl, rfl⟩)
set_option maxRecDepth 100000 in
set_option maxHeartbeats 4000000 in
theorem c_Jx4a65c_isEmpty_aae02 (l : Launch) (G : GG) (A : Nat → Prop) (ad : Lb → Nat) (dm : Lb → Prop) (ct : Lb → va_E) (mcn : Int32) (sz cap : Nat) (f : Nat → Option Nat) (hL : LL G ad dm ct mcn sz cap f) :
    CT l yJx4a65c_isEmpty_aae02 cJx4a65c_isEmpty_aae02 1 (some FieldType.boolean) { frames := 0, cells := 0, slots := 0, locals := 0 } [.ref (ad (0, 2))] G A (ad, dm, ct) (fun v w' => (ad, dm, ct) = w' ∧ ((sz = 0 ∧ v = some (.int (nI 1))) ∨ (0 < sz ∧ v = some (.int (nI 0))))) (fun _ => False) (0) (0) := by
  refine ct_of (by decide) (Nat.le_of_ble_eq_true rfl) ?_
  intro p e s m below meth c ls F hr hlk hnm hex hE hW hl
  have hx := F.1
  have hb := F.2.1
  have hS : va_S A s.heap s.heap [] := va_S.rf
  have hl : lv_has ls 1 [(0, .ref (ad (0, 2)))] := hl
  obtain ⟨hD, hsz, E, hO⟩ := hL.obj
  refine lv_aload_n hx hb dJx4a65c_isEmpty_aae02_0 rfl (lv_at hl 0 rfl) ?_
  refine kg F hE hW (0, 2) hD rfl hO rfl inA_JL 2 (by decide) kw_44 (v := .int (nI sz)) rfl dJx4a65c_isEmpty_aae02_1 ?_
  refine nz_ne (tgt := 11) hx hb dJx4a65c_isEmpty_aae02_4 (by decide) (by omega) (fun c => ?_) (fun c => ?_)
  · refine lv_iconst (v := nI 0) hx hb dJx4a65c_isEmpty_aae02_11 (by decide) ?_
    exact kr_z F hr hlk hE hW hS (Nat.le_of_ble_eq_true rfl) (Nat.le_of_ble_eq_true rfl) rfl dJx4a65c_isEmpty_aae02_12 (⟨rfl, Or.inr ⟨Nat.pos_of_ne_zero c, rfl⟩⟩)
  · refine lv_iconst (v := nI 1) hx hb dJx4a65c_isEmpty_aae02_7 (by decide) ?_
    refine lv_goto (tgt := 12) hx hb dJx4a65c_isEmpty_aae02_8 (by decide) ?_
    exact kr_z F hr hlk hE hW hS (Nat.le_of_ble_eq_true rfl) (Nat.le_of_ble_eq_true rfl) rfl dJx4a65c_isEmpty_aae02_12 (⟨rfl, Or.inl ⟨c, rfl⟩⟩)
set_option maxRecDepth 100000 in
set_option maxHeartbeats 4000000 in
theorem c_J3_checkIndex_8e157 (l : Launch) (G : GG) (A : Nat → Prop) (ad : Lb → Nat) (dm : Lb → Prop) (ct : Lb → va_E) (sz : Nat) (h0 : 0 < sz) (hsz : sz < 2 ^ 31) :
    CT l yJ3_checkIndex_8e157 cJ3_checkIndex_8e157 3 (some FieldType.int) { frames := 0, cells := 0, slots := 0, locals := 0 } [.int (nI 0), .int (nI sz), .null] G A (ad, dm, ct) (fun v w' => (ad, dm, ct) = w' ∧ v = some (.int (nI 0))) (fun _ => False) (0) (0) := by
  refine ct_of (by decide) (Nat.le_of_ble_eq_true rfl) ?_
  intro p e s m below meth c ls F hr hlk hnm hex hE hW hl
  have hx := F.1
  have hb := F.2.1
  have hS : va_S A s.heap s.heap [] := va_S.rf
  have hl : lv_has ls 3 [(0, .int (nI 0)), (1, .int (nI sz)), (2, .null)] := hl
  refine lv_iload_n hx hb dJ3_checkIndex_8e157_0 rfl (lv_at hl 0 rfl) ?_
  refine nz_lt (tgt := 9) hx hb dJ3_checkIndex_8e157_1 (by decide) (by omega) ?_
  refine lv_iload_n hx hb dJ3_checkIndex_8e157_4 rfl (lv_at hl 0 rfl) ?_
  refine lv_iload_n hx hb dJ3_checkIndex_8e157_5 rfl (lv_at hl 1 rfl) ?_
  refine nc_lt (tgt := 16) hx hb dJ3_checkIndex_8e157_6 (by decide) (by omega) (by omega) (fun c1 => ?_) (fun c1 => ?_)
  · refine lv_iload_n hx hb dJ3_checkIndex_8e157_16 rfl (lv_at hl 0 rfl) ?_
    exact kr_i F hr hlk hE hW hS (Nat.le_of_ble_eq_true rfl) (Nat.le_of_ble_eq_true rfl) dJ3_checkIndex_8e157_17 (⟨rfl, rfl⟩)
  · exact absurd c1 (by omega)
set_option maxRecDepth 100000 in
set_option maxHeartbeats 4000000 in
theorem c_J15_checkIndex_7cf53 (l : Launch) (G : GG) (A : Nat → Prop) (ad : Lb → Nat) (dm : Lb → Prop) (ct : Lb → va_E) (sz : Nat) (h0 : 0 < sz) (hsz : sz < 2 ^ 31) :
    CT l yJ15_checkIndex_7cf53 cJ15_checkIndex_7cf53 2 (some FieldType.int) { frames := 1, cells := 0, slots := 0, locals := 22 } [.int (nI 0), .int (nI sz)] G A (ad, dm, ct) (fun v w' => (ad, dm, ct) = w' ∧ v = some (.int (nI 0))) (fun _ => False) (0) (0) := by
  refine ct_of (by decide) (Nat.le_of_ble_eq_true rfl) ?_
  intro p e s m below meth c ls F hr hlk hnm hex hE hW hl
  have hx := F.1
  have hb := F.2.1
  have hS : va_S A s.heap s.heap [] := va_S.rf
  have hl : lv_has ls 2 [(0, .int (nI 0)), (1, .int (nI sz))] := hl
  refine lv_iload_n hx hb dJ15_checkIndex_7cf53_0 rfl (lv_at hl 0 rfl) ?_
  refine lv_iload_n hx hb dJ15_checkIndex_7cf53_1 rfl (lv_at hl 1 rfl) ?_
  refine lv_null hx hb dJ15_checkIndex_7cf53_2 ?_
  refine kc_S 3 (c_J3_checkIndex_8e157 l G A ad dm ct sz h0 hsz) F hE hW hS kw_149 kw_150 kw_16 kw_151 (by decide +kernel) rfl ⟨rfl, rfl⟩ ⟨Nat.le_of_ble_eq_true rfl, Nat.le_of_ble_eq_true rfl⟩ hl.1 rfl (Nat.le_of_ble_eq_true rfl) dJ15_checkIndex_7cf53_3 ⟨Nat.le_of_ble_eq_true rfl, Nat.le_of_ble_eq_true rfl⟩ (fun _ _ _ _ _ h => h.elim) (fun v w' H locs hp hW hS => ?_)
  obtain ⟨rfl, rfl⟩ := hp
  exact kr_i F hr hlk hE hW hS (Nat.le_of_ble_eq_true rfl) (Nat.le_of_ble_eq_true rfl) dJ15_checkIndex_7cf53_6 (⟨rfl, rfl⟩)
set_option maxRecDepth 100000 in
set_option maxHeartbeats 4000000 in
theorem c_Jx4a65c_fastRemove_b59b0 (l : Launch) (G : GG) (A : Nat → Prop) (ad : Lb → Nat) (dm : Lb → Prop) (ct : Lb → va_E) (mcn : Int32) (sz cap : Nat) (f : Nat → Option Nat) (h0 : 0 < sz) (hsc : sz ≤ cap) (h10 : 10 ≤ cap) (hcap : cap ≤ 800) (hD : dm (0, 2)) (hD3 : dm (0, 3)) (hO : ct (0, 2) = LO mcn (ad (0, 3)) sz) (hR : ct (0, 3) = .inl (G.2.1 4, cap, .inr (.inr (.inr (.inr f))))) (hel : ∀ j, j < sz → isP1 ad dm ct (f j)) :
    CT l yJx4a65c_fastRemove_b59b0 cJx4a65c_fastRemove_b59b0 4 none { frames := 3, cells := 0, slots := 0, locals := 40 } [.ref (ad (0, 2)), .ref (ad (0, 3)), .int (nI 0)] G A (ad, dm, ct) (fun v w' => ∃ ct' f', w' = (ad, dm, ct') ∧ v = none ∧ LL G ad dm ct' (mcn + nI 1) (sz - 1) cap f' ∧ (∀ j, j < sz - 1 → f' j = f (j + 1)) ∧ XLc ct ct') (fun _ => False) (0) (0) := by
  refine ct_of (by decide) (Nat.le_of_ble_eq_true rfl) ?_
  intro p e s m below meth c ls F hr hlk hnm hex hE hW hl
  have hx := F.1
  have hb := F.2.1
  have hS : va_S A s.heap s.heap [] := va_S.rf
  have hl : lv_has ls 4 [(0, .ref (ad (0, 2))), (1, .ref (ad (0, 3))), (2, .int (nI 0))] := hl
  refine lv_aload_n hx hb dJx4a65c_fastRemove_b59b0_0 rfl (lv_at hl 0 rfl) ?_
  refine lv_dup hx hb dJx4a65c_fastRemove_b59b0_1 rfl ?_
  refine kgS F hE hW (0, 2) hD rfl hO rfl inA_JL 0 (by decide) kw_46 (fun x9 h9 => u_same (F.2.2.2.2 _ kw_47) x9 h9) (v := .int mcn) rfl dJx4a65c_fastRemove_b59b0_2 ?_
  refine lv_iconst (v := nI 1) hx hb dJx4a65c_fastRemove_b59b0_5 (by decide) ?_
  refine lv_iadd hx hb dJx4a65c_fastRemove_b59b0_6 ?_
  refine kpS F hE hW hS (0, 2) hD rfl hO rfl inA_JL tyJx4a65c tyJx4a65c_ok nmJx4a65c 0 (by decide) kw_46 (fun x9 h9 => u_same (F.2.2.2.2 _ kw_47) x9 h9) rfl rfl rfl (Nat.le_of_ble_eq_true rfl) dJx4a65c_fastRemove_b59b0_7 (fun ct1 H locs hW hc1 hf1 hS => ?_)
  have hk031 : ct1 (0, 3) = _ := (hf1 _ (by decide)).trans hR
  refine lv_aload_n hx hb dJx4a65c_fastRemove_b59b0_10 rfl (lv_at hl 0 rfl) ?_
  refine kg F hE hW (0, 2) hD rfl hc1 rfl inA_JL 2 (by decide) kw_44 (v := .int (nI sz)) rfl dJx4a65c_fastRemove_b59b0_11 ?_
  refine lv_iconst (v := nI 1) hx hb dJx4a65c_fastRemove_b59b0_14 (by decide) ?_
  refine lv_isub hx hb dJx4a65c_fastRemove_b59b0_15 ?_
  refine ktop (pk_sub (by omega)) ?_
  refine lv_dup hx hb dJx4a65c_fastRemove_b59b0_16 rfl ?_
  refine lv_istore_n (lv' := [(3, .int (nI (sz - 1))), (0, .ref (ad (0, 2))), (1, .ref (ad (0, 3))), (2, .int (nI 0))]) hx hb dJx4a65c_fastRemove_b59b0_17 rfl hl (by decide) rfl (fun ls hl => ?_)
  refine lv_iload_n hx hb dJx4a65c_fastRemove_b59b0_18 rfl (lv_at hl 3 rfl) ?_
  refine nc_le (tgt := 34) hx hb dJx4a65c_fastRemove_b59b0_19 (by decide) (by omega) (by omega) (fun c1 => ?_) (fun c1 => ?_)
  · refine lv_aload_n hx hb dJx4a65c_fastRemove_b59b0_34 rfl (lv_at hl 2 rfl) ?_
    refine lv_aload_n hx hb dJx4a65c_fastRemove_b59b0_35 rfl (lv_at hl 1 rfl) ?_
    refine lv_iload_n hx hb dJx4a65c_fastRemove_b59b0_36 rfl (lv_at hl 0 rfl) ?_
    refine lv_dup_x1 hx hb dJx4a65c_fastRemove_b59b0_37 rfl rfl ?_
    refine kp F hE hW hS (0, 2) hD rfl hc1 rfl inA_JL tyJx4a65c tyJx4a65c_ok nmJx4a65c 2 (by decide) kw_44 rfl rfl rfl (Nat.le_of_ble_eq_true rfl) dJx4a65c_fastRemove_b59b0_38 (fun ct2 H locs hW hc2 hf2 hS => ?_)
    have hk032 : ct2 (0, 3) = _ := (hf2 _ (by decide)).trans hk031
    refine lv_null hx hb dJx4a65c_fastRemove_b59b0_41 ?_
    refine ks_n 4 F hE hW hS (0, 3) hD3 rfl rfl hk032 (sz - 1) rfl (by omega) (by omega) dJx4a65c_fastRemove_b59b0_42 (fun ct9 H locs hW hc9 hf9 hS => ?_)
    have hO9 : ct9 (0, 2) = _ := (hf9 _ (by decide)).trans hc2
    exact kr_v F hr hlk hE hW hS (Nat.le_of_ble_eq_true rfl) (Nat.le_of_ble_eq_true rfl) dJx4a65c_fastRemove_b59b0_43 (⟨ct9, _, rfl, rfl, ⟨hD, Or.inr ⟨hD3, by omega, h10, hcap, hO9, hc9⟩⟩, fun j hj => by omega, fun z h2 h3 => (hf9 z h3).trans ((hf2 z h2).trans (hf1 z h2))⟩)
  · refine lv_aload_n hx hb dJx4a65c_fastRemove_b59b0_22 rfl (lv_at hl 2 rfl) ?_
    refine lv_iload_n hx hb dJx4a65c_fastRemove_b59b0_23 rfl (lv_at hl 3 rfl) ?_
    refine lv_iconst (v := nI 1) hx hb dJx4a65c_fastRemove_b59b0_24 (by decide) ?_
    refine lv_iadd hx hb dJx4a65c_fastRemove_b59b0_25 ?_
    refine ktop (nI_add _ _) ?_
    refine lv_aload_n hx hb dJx4a65c_fastRemove_b59b0_26 rfl (lv_at hl 2 rfl) ?_
    refine lv_iload_n hx hb dJx4a65c_fastRemove_b59b0_27 rfl (lv_at hl 3 rfl) ?_
    refine lv_iload_n hx hb dJx4a65c_fastRemove_b59b0_28 rfl (lv_at hl 0 rfl) ?_
    refine lv_iload_n hx hb dJx4a65c_fastRemove_b59b0_29 rfl (lv_at hl 3 rfl) ?_
    refine lv_isub hx hb dJx4a65c_fastRemove_b59b0_30 ?_
    refine ktop (pk_sub (by omega)) ?_
    refine kcp F (F.2.2.1.trans hl.1.symm) hE hW hS kw_156 kw_158 kw_157 kw_13 (0, 3) (0, 3) hD3 rfl hD3 rfl hk031 hk031 (by decide) (by decide) (by omega) (by omega) (by omega) (fun i hi y hy => ((hel (0 + 1 + i) (by omega)).keep hf1 (by decide)).any hE hW y hy) (Nat.le_of_ble_eq_true rfl) (by decide) dJx4a65c_fastRemove_b59b0_31 (fun ct5 H locs hW hc5 hf5 hS => ?_)
    have hO5 : ct5 (0, 2) = _ := (hf5 _ (by decide)).trans hc1
    refine lv_aload_n hx hb dJx4a65c_fastRemove_b59b0_34 rfl (lv_at hl 2 rfl) ?_
    refine lv_aload_n hx hb dJx4a65c_fastRemove_b59b0_35 rfl (lv_at hl 1 rfl) ?_
    refine lv_iload_n hx hb dJx4a65c_fastRemove_b59b0_36 rfl (lv_at hl 0 rfl) ?_
    refine lv_dup_x1 hx hb dJx4a65c_fastRemove_b59b0_37 rfl rfl ?_
    refine kp F hE hW hS (0, 2) hD rfl hO5 rfl inA_JL tyJx4a65c tyJx4a65c_ok nmJx4a65c 2 (by decide) kw_44 rfl rfl rfl (Nat.le_of_ble_eq_true rfl) dJx4a65c_fastRemove_b59b0_38 (fun ct2 H locs hW hc2 hf2 hS => ?_)
    have hk032 : ct2 (0, 3) = _ := (hf2 _ (by decide)).trans hc5
    refine lv_null hx hb dJx4a65c_fastRemove_b59b0_41 ?_
    refine ks_n 4 F hE hW hS (0, 3) hD3 rfl rfl hk032 (sz - 1) rfl (by omega) (by omega) dJx4a65c_fastRemove_b59b0_42 (fun ct9 H locs hW hc9 hf9 hS => ?_)
    have hO9 : ct9 (0, 2) = _ := (hf9 _ (by decide)).trans hc2
    exact kr_v F hr hlk hE hW hS (Nat.le_of_ble_eq_true rfl) (Nat.le_of_ble_eq_true rfl) dJx4a65c_fastRemove_b59b0_43 (⟨ct9, _, rfl, rfl, ⟨hD, Or.inr ⟨hD3, by omega, h10, hcap, hO9, hc9⟩⟩, fun j hj => by
          rw [va_up_ne _ _ (by omega), pk_cpy_in (by omega) (by omega)]
          congr 1; omega, fun z h2 h3 => (hf9 z h3).trans ((hf2 z h2).trans ((hf5 z h3).trans (hf1 z h2)))⟩)
set_option maxRecDepth 100000 in
set_option maxHeartbeats 4000000 in
theorem c_Jx4a65c_remove_915e3 (l : Launch) (G : GG) (A : Nat → Prop) (ad : Lb → Nat) (dm : Lb → Prop) (ct : Lb → va_E) (mcn : Int32) (sz cap : Nat) (f : Nat → Option Nat) (hL : LL G ad dm ct mcn sz cap f) (h0 : 0 < sz) (hel : ∀ j, j < sz → isP1 ad dm ct (f j)) :
    CT l yJx4a65c_remove_915e3 cJx4a65c_remove_915e3 4 (some (FieldType.object "java/lang/Object")) { frames := 4, cells := 0, slots := 0, locals := 63 } [.ref (ad (0, 2)), .int (nI 0)] G A (ad, dm, ct) (fun v w' => ∃ ct' f', w' = (ad, dm, ct') ∧ v = some (va_rf (f 0)) ∧ LL G ad dm ct' (mcn + nI 1) (sz - 1) cap f' ∧ (∀ j, j < sz - 1 → f' j = f (j + 1)) ∧ XLc ct ct') (fun _ => False) (0) (0) := by
  refine ct_of (by decide) (Nat.le_of_ble_eq_true rfl) ?_
  intro p e s m below meth c ls F hr hlk hnm hex hE hW hl
  have hx := F.1
  have hb := F.2.1
  have hS : va_S A s.heap s.heap [] := va_S.rf
  have hl : lv_has ls 4 [(0, .ref (ad (0, 2))), (1, .int (nI 0))] := hl
  obtain ⟨hD, ⟨-, hz, -, -⟩ | ⟨hD3, hsc, h10, hcap, hO, hR⟩⟩ := hL
  · omega
  · refine lv_iload_n hx hb dJx4a65c_remove_915e3_0 rfl (lv_at hl 1 rfl) ?_
    refine lv_aload_n hx hb dJx4a65c_remove_915e3_1 rfl (lv_at hl 0 rfl) ?_
    refine kg F hE hW (0, 2) hD rfl hO rfl inA_JL 2 (by decide) kw_44 (v := .int (nI sz)) rfl dJx4a65c_remove_915e3_2 ?_
    refine kc_S 2 (c_J15_checkIndex_7cf53 l G A ad dm ct sz h0 (by omega)) F hE hW hS kw_146 kw_147 kw_15 kw_148 (by decide +kernel) rfl ⟨rfl, rfl⟩ ⟨Nat.le_of_ble_eq_true rfl, Nat.le_of_ble_eq_true rfl⟩ hl.1 rfl (Nat.le_of_ble_eq_true rfl) dJx4a65c_remove_915e3_5 ⟨Nat.le_of_ble_eq_true rfl, Nat.le_of_ble_eq_true rfl⟩ (fun _ _ _ _ _ h => h.elim) (fun v w' H locs hp hW hS => ?_)
    obtain ⟨rfl, rfl⟩ := hp
    refine lv_pop hx hb dJx4a65c_remove_915e3_8 rfl ?_
    refine lv_aload_n hx hb dJx4a65c_remove_915e3_9 rfl (lv_at hl 0 rfl) ?_
    refine kg F hE hW (0, 2) hD rfl hO rfl inA_JL 1 (by decide) kw_43 (v := .ref (ad (0, 3))) rfl dJx4a65c_remove_915e3_10 ?_
    refine lv_astore_n (lv' := [(2, .ref (ad (0, 3))), (0, .ref (ad (0, 2))), (1, .int (nI 0))]) hx hb dJx4a65c_remove_915e3_13 rfl hl (by decide) rfl (fun ls hl => ?_)
    refine lv_aload_n hx hb dJx4a65c_remove_915e3_14 rfl (lv_at hl 0 rfl) ?_
    refine lv_iload_n hx hb dJx4a65c_remove_915e3_15 rfl (lv_at hl 2 rfl) ?_
    obtain ⟨k0, vs0, hf0, hd0, hct0⟩ := hel 0 h0
    refine kl_a 4 F hE hW (0, 3) hD3 rfl rfl hR 0 rfl (by omega) (by omega) (v := .ref (ad (1, k0))) (by rw [hf0]; rfl) dJx4a65c_remove_915e3_16 ?_
    refine lv_astore_n (lv' := [(3, .ref (ad (1, k0))), (2, .ref (ad (0, 3))), (0, .ref (ad (0, 2))), (1, .int (nI 0))]) hx hb dJx4a65c_remove_915e3_17 rfl hl (by decide) rfl (fun ls hl => ?_)
    refine lv_aload_n hx hb dJx4a65c_remove_915e3_18 rfl (lv_at hl 2 rfl) ?_
    refine lv_aload_n hx hb dJx4a65c_remove_915e3_19 rfl (lv_at hl 1 rfl) ?_
    refine lv_iload_n hx hb dJx4a65c_remove_915e3_20 rfl (lv_at hl 3 rfl) ?_
    refine kc_V 2 (c_Jx4a65c_fastRemove_b59b0 l G A ad dm ct mcn sz cap f h0 hsc h10 hcap hD hD3 hO hR hel) F hE hW hS (0, 2) hD hO rfl [.ref (ad (0, 3)), .int (nI 0)] rfl kw_152 kw_154 kp_1 kw_4 kw_155 (by decide +kernel) rfl ⟨rfl, rfl⟩ ⟨Nat.le_of_ble_eq_true rfl, Nat.le_of_ble_eq_true rfl⟩ hl.1 rfl (Nat.le_of_ble_eq_true rfl) dJx4a65c_remove_915e3_21 ⟨Nat.le_of_ble_eq_true rfl, Nat.le_of_ble_eq_true rfl⟩ (fun _ _ _ _ _ h => h.elim) (fun v w' H locs hp hW hS => ?_)
    obtain ⟨ct2, f2, rfl, rfl, hL2, hf2, hX2⟩ := hp
    refine lv_aload_n hx hb dJx4a65c_remove_915e3_24 rfl (lv_at hl 0 rfl) ?_
    exact kr_a F hr hlk hE hW hS (Nat.le_of_ble_eq_true rfl) (Nat.le_of_ble_eq_true rfl) (Or.inl ⟨_, rfl⟩) (Or.inr ⟨_, rfl⟩) dJx4a65c_remove_915e3_25 (⟨ct2, f2, rfl, by rw [hf0]; rfl, hL2, hf2, hX2⟩)
