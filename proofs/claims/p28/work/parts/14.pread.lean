/-! A page's methods that only read. -/
set_option maxRecDepth 100000 in
set_option maxHeartbeats 4000000 in
theorem c_X1_has (l : Launch) (G : GG) (A : Nat → Prop) (ad : Lb → Nat) (dm : Lb → Prop) (ct : Lb → va_E) (n le lo sz hi : Nat) (ri : Option Nat) (de ta : Nat) (kf vf : Nat → Int32) (cf : Nat → Option Nat) (hP : PG G ad dm ct n le lo sz hi ri de ta kf vf cf) (hsz : sz ≤ 5) (x : Int32) :
    CT l yX1_has cX1_has 2 (some FieldType.boolean) { frames := 0, cells := 0, slots := 0, locals := 0 } [.ref (ad (1, n)), .int x] G A (ad, dm, ct) (fun v w' => (ad, dm, ct) = w' ∧ ((v = some (.int (nI 1)) ∧ ∃ j, j < sz ∧ x = nI j) ∨ (v = some (.int (nI 0)) ∧ ∀ j, j < sz → x ≠ nI j))) (fun _ => False) (0) (0) := by
  refine ct_of (by decide) (Nat.le_of_ble_eq_true rfl) ?_
  intro p e s m below meth c ls F hr hlk hnm hex hE hW hl
  have hx := F.1
  have hb := F.2.1
  have hS : va_S A s.heap s.heap [] := va_S.rf
  have hl : lv_has ls 2 [(0, .ref (ad (1, n))), (1, .int x)] := hl
  refine lv_iload_n hx hb dX1_has_0 rfl (lv_at hl 1 rfl) ?_
  refine lv_if_lt (tgt := 21) hx hb dX1_has_1 (by decide) (fun c => ?_) (fun c => ?_)
  · refine lv_iconst (v := nI 0) hx hb dX1_has_21 (by decide) ?_
    exact kr_z F hr hlk hE hW hS (Nat.le_of_ble_eq_true rfl) (Nat.le_of_ble_eq_true rfl) rfl dX1_has_22 (⟨rfl, Or.inr ⟨rfl, fun j hj e => nI_pos (n := j) (by omega) (by rw [← e]; exact c)⟩⟩)
  · obtain ⟨j, hj, rfl⟩ := nI_of c
    refine lv_iload_n hx hb dX1_has_4 rfl (lv_at hl 1 rfl) ?_
    refine lv_aload_n hx hb dX1_has_5 rfl (lv_at hl 0 rfl) ?_
    refine kg F hE hW (1, n) hP.1.1 rfl hP.2.1 rfl inA_X1 6 (by decide) kw_72 (v := .int (nI sz)) rfl dX1_has_6 ?_
    refine nc_ge (tgt := 21) hx hb dX1_has_9 (by decide) (by omega) (by omega) (fun c1 => ?_) (fun c1 => ?_)
    · refine lv_iconst (v := nI 0) hx hb dX1_has_21 (by decide) ?_
      exact kr_z F hr hlk hE hW hS (Nat.le_of_ble_eq_true rfl) (Nat.le_of_ble_eq_true rfl) rfl dX1_has_22 (⟨rfl, Or.inr ⟨rfl, fun i hi e => by have := nI_inj hj (by omega) e; omega⟩⟩)
    · refine lv_iload_n hx hb dX1_has_12 rfl (lv_at hl 1 rfl) ?_
      refine lv_iconst (v := nI 5) hx hb dX1_has_13 (by decide) ?_
      refine nc_ge (tgt := 21) hx hb dX1_has_14 (by decide) (by omega) (by omega) (fun c2 => ?_) (fun c2 => ?_)
      · exact absurd c2 (by omega)
      · refine lv_iconst (v := nI 1) hx hb dX1_has_17 (by decide) ?_
        refine lv_goto (tgt := 22) hx hb dX1_has_18 (by decide) ?_
        exact kr_z F hr hlk hE hW hS (Nat.le_of_ble_eq_true rfl) (Nat.le_of_ble_eq_true rfl) rfl dX1_has_22 (⟨rfl, Or.inl ⟨rfl, j, c1, rfl⟩⟩)
set_option maxRecDepth 100000 in
set_option maxHeartbeats 4000000 in
theorem c_X1_keyIn (l : Launch) (G : GG) (A : Nat → Prop) (ad : Lb → Nat) (dm : Lb → Prop) (ct : Lb → va_E) (n le lo sz hi : Nat) (ri : Option Nat) (de ta : Nat) (kf vf : Nat → Int32) (cf : Nat → Option Nat) (hP : PG G ad dm ct n le lo sz hi ri de ta kf vf cf) (hsz : sz ≤ 5) (x : Int32) :
    CT l yX1_keyIn cX1_keyIn 2 (some FieldType.int) { frames := 1, cells := 0, slots := 0, locals := 21 } [.ref (ad (1, n)), .int x] G A (ad, dm, ct) (fun v w' => (ad, dm, ct) = w' ∧ ((∃ j, j < sz ∧ x = nI j ∧ v = some (.int (kf j))) ∨ (v = some (.int (-1)) ∧ ∀ j, j < sz → x ≠ nI j))) (fun _ => False) (0) (0) := by
  refine ct_of (by decide) (Nat.le_of_ble_eq_true rfl) ?_
  intro p e s m below meth c ls F hr hlk hnm hex hE hW hl
  have hx := F.1
  have hb := F.2.1
  have hS : va_S A s.heap s.heap [] := va_S.rf
  have hl : lv_has ls 2 [(0, .ref (ad (1, n))), (1, .int x)] := hl
  refine lv_aload_n hx hb dX1_keyIn_0 rfl (lv_at hl 0 rfl) ?_
  refine lv_iload_n hx hb dX1_keyIn_1 rfl (lv_at hl 1 rfl) ?_
  refine kc_V 1 (c_X1_has l G A ad dm ct n le lo sz hi ri de ta kf vf cf hP hsz x) F hE hW hS (1, n) hP.1.1 hP.2.1 rfl [.int x] rfl kw_191 kw_192 kw_193 kw_5 kw_194 (by decide +kernel) rfl ⟨rfl, rfl⟩ ⟨Nat.le_of_ble_eq_true rfl, Nat.le_of_ble_eq_true rfl⟩ hl.1 rfl (Nat.le_of_ble_eq_true rfl) dX1_keyIn_2 ⟨Nat.le_of_ble_eq_true rfl, Nat.le_of_ble_eq_true rfl⟩ (fun _ _ _ _ _ h => h.elim) (fun v w' H locs hp hW hS => ?_)
  obtain ⟨rfl, ⟨rfl, j, hj, rfl⟩ | ⟨rfl, hno⟩⟩ := hp
  · refine nz_eq (tgt := 17) hx hb dX1_keyIn_5 (by decide) (by omega) (fun c => ?_) (fun c => ?_)
    · exact absurd c (by decide)
    · refine lv_aload_n hx hb dX1_keyIn_8 rfl (lv_at hl 0 rfl) ?_
      refine kg F hE hW (1, n) hP.1.1 rfl hP.2.1 rfl inA_X1 3 (by decide) kw_69 (v := .ref (ad (2, n))) rfl dX1_keyIn_9 ?_
      refine lv_iload_n hx hb dX1_keyIn_12 rfl (lv_at hl 1 rfl) ?_
      refine kl_i F hE hW (2, n) hP.1.2.1 rfl hP.2.2.1 j rfl (by omega) (by decide) dX1_keyIn_13 ?_
      refine lv_goto (tgt := 18) hx hb dX1_keyIn_14 (by decide) ?_
      exact kr_i F hr hlk hE hW hS (Nat.le_of_ble_eq_true rfl) (Nat.le_of_ble_eq_true rfl) dX1_keyIn_18 (⟨rfl, Or.inl ⟨j, hj, rfl, rfl⟩⟩)
  · refine nz_eq (tgt := 17) hx hb dX1_keyIn_5 (by decide) (by omega) (fun c => ?_) (fun c => ?_)
    · refine lv_iconst (v := (-1)) hx hb dX1_keyIn_17 (by decide) ?_
      exact kr_i F hr hlk hE hW hS (Nat.le_of_ble_eq_true rfl) (Nat.le_of_ble_eq_true rfl) dX1_keyIn_18 (⟨rfl, Or.inr ⟨rfl, hno⟩⟩)
    · exact absurd rfl c
set_option maxRecDepth 100000 in
set_option maxHeartbeats 4000000 in
theorem c_X1_valueIn (l : Launch) (G : GG) (A : Nat → Prop) (ad : Lb → Nat) (dm : Lb → Prop) (ct : Lb → va_E) (n le lo sz hi : Nat) (ri : Option Nat) (de ta : Nat) (kf vf : Nat → Int32) (cf : Nat → Option Nat) (hP : PG G ad dm ct n le lo sz hi ri de ta kf vf cf) (hsz : sz ≤ 5) (x : Int32) :
    CT l yX1_valueIn cX1_valueIn 2 (some FieldType.int) { frames := 1, cells := 0, slots := 0, locals := 21 } [.ref (ad (1, n)), .int x] G A (ad, dm, ct) (fun v w' => (ad, dm, ct) = w' ∧ ((∃ j, j < sz ∧ x = nI j ∧ v = some (.int (vf j))) ∨ (v = some (.int (-1)) ∧ ∀ j, j < sz → x ≠ nI j))) (fun _ => False) (0) (0) := by
  refine ct_of (by decide) (Nat.le_of_ble_eq_true rfl) ?_
  intro p e s m below meth c ls F hr hlk hnm hex hE hW hl
  have hx := F.1
  have hb := F.2.1
  have hS : va_S A s.heap s.heap [] := va_S.rf
  have hl : lv_has ls 2 [(0, .ref (ad (1, n))), (1, .int x)] := hl
  refine lv_aload_n hx hb dX1_valueIn_0 rfl (lv_at hl 0 rfl) ?_
  refine lv_iload_n hx hb dX1_valueIn_1 rfl (lv_at hl 1 rfl) ?_
  refine kc_V 1 (c_X1_has l G A ad dm ct n le lo sz hi ri de ta kf vf cf hP hsz x) F hE hW hS (1, n) hP.1.1 hP.2.1 rfl [.int x] rfl kw_191 kw_192 kw_193 kw_5 kw_194 (by decide +kernel) rfl ⟨rfl, rfl⟩ ⟨Nat.le_of_ble_eq_true rfl, Nat.le_of_ble_eq_true rfl⟩ hl.1 rfl (Nat.le_of_ble_eq_true rfl) dX1_valueIn_2 ⟨Nat.le_of_ble_eq_true rfl, Nat.le_of_ble_eq_true rfl⟩ (fun _ _ _ _ _ h => h.elim) (fun v w' H locs hp hW hS => ?_)
  obtain ⟨rfl, ⟨rfl, j, hj, rfl⟩ | ⟨rfl, hno⟩⟩ := hp
  · refine nz_eq (tgt := 17) hx hb dX1_valueIn_5 (by decide) (by omega) (fun c => ?_) (fun c => ?_)
    · exact absurd c (by decide)
    · refine lv_aload_n hx hb dX1_valueIn_8 rfl (lv_at hl 0 rfl) ?_
      refine kg F hE hW (1, n) hP.1.1 rfl hP.2.1 rfl inA_X1 4 (by decide) kw_70 (v := .ref (ad (3, n))) rfl dX1_valueIn_9 ?_
      refine lv_iload_n hx hb dX1_valueIn_12 rfl (lv_at hl 1 rfl) ?_
      refine kl_i F hE hW (3, n) hP.1.2.2.1 rfl hP.2.2.2.1 j rfl (by omega) (by decide) dX1_valueIn_13 ?_
      refine lv_goto (tgt := 18) hx hb dX1_valueIn_14 (by decide) ?_
      exact kr_i F hr hlk hE hW hS (Nat.le_of_ble_eq_true rfl) (Nat.le_of_ble_eq_true rfl) dX1_valueIn_18 (⟨rfl, Or.inl ⟨j, hj, rfl, rfl⟩⟩)
  · refine nz_eq (tgt := 17) hx hb dX1_valueIn_5 (by decide) (by omega) (fun c => ?_) (fun c => ?_)
    · refine lv_iconst (v := (-1)) hx hb dX1_valueIn_17 (by decide) ?_
      exact kr_i F hr hlk hE hW hS (Nat.le_of_ble_eq_true rfl) (Nat.le_of_ble_eq_true rfl) dX1_valueIn_18 (⟨rfl, Or.inr ⟨rfl, hno⟩⟩)
    · exact absurd rfl c
set_option maxRecDepth 100000 in
set_option maxHeartbeats 4000000 in
theorem c_X1_pageIn (l : Launch) (G : GG) (A : Nat → Prop) (ad : Lb → Nat) (dm : Lb → Prop) (ct : Lb → va_E) (n le lo sz hi : Nat) (ri : Option Nat) (de ta : Nat) (kf vf : Nat → Int32) (cf : Nat → Option Nat) (hP : PG G ad dm ct n le lo sz hi ri de ta kf vf cf) (hsz : sz ≤ 5) (x : Int32) :
    CT l yX1_pageIn cX1_pageIn 2 (some (FieldType.object "Highkey$Page")) { frames := 1, cells := 0, slots := 0, locals := 21 } [.ref (ad (1, n)), .int x] G A (ad, dm, ct) (fun v w' => (ad, dm, ct) = w' ∧ ((∃ j, j < sz ∧ x = nI j ∧ v = some (va_rf (cf j))) ∨ (v = some .null ∧ ∀ j, j < sz → x ≠ nI j))) (fun _ => False) (0) (0) := by
  refine ct_of (by decide) (Nat.le_of_ble_eq_true rfl) ?_
  intro p e s m below meth c ls F hr hlk hnm hex hE hW hl
  have hx := F.1
  have hb := F.2.1
  have hS : va_S A s.heap s.heap [] := va_S.rf
  have hl : lv_has ls 2 [(0, .ref (ad (1, n))), (1, .int x)] := hl
  refine lv_aload_n hx hb dX1_pageIn_0 rfl (lv_at hl 0 rfl) ?_
  refine lv_iload_n hx hb dX1_pageIn_1 rfl (lv_at hl 1 rfl) ?_
  refine kc_V 1 (c_X1_has l G A ad dm ct n le lo sz hi ri de ta kf vf cf hP hsz x) F hE hW hS (1, n) hP.1.1 hP.2.1 rfl [.int x] rfl kw_191 kw_192 kw_193 kw_5 kw_194 (by decide +kernel) rfl ⟨rfl, rfl⟩ ⟨Nat.le_of_ble_eq_true rfl, Nat.le_of_ble_eq_true rfl⟩ hl.1 rfl (Nat.le_of_ble_eq_true rfl) dX1_pageIn_2 ⟨Nat.le_of_ble_eq_true rfl, Nat.le_of_ble_eq_true rfl⟩ (fun _ _ _ _ _ h => h.elim) (fun v w' H locs hp hW hS => ?_)
  obtain ⟨rfl, ⟨rfl, j, hj, rfl⟩ | ⟨rfl, hno⟩⟩ := hp
  · refine nz_eq (tgt := 17) hx hb dX1_pageIn_5 (by decide) (by omega) (fun c => ?_) (fun c => ?_)
    · exact absurd c (by decide)
    · refine lv_aload_n hx hb dX1_pageIn_8 rfl (lv_at hl 0 rfl) ?_
      refine kg F hE hW (1, n) hP.1.1 rfl hP.2.1 rfl inA_X1 5 (by decide) kw_71 (v := .ref (ad (4, n))) rfl dX1_pageIn_9 ?_
      refine lv_iload_n hx hb dX1_pageIn_12 rfl (lv_at hl 1 rfl) ?_
      refine kl_a 2 F hE hW (4, n) hP.1.2.2.2 rfl rfl hP.2.2.2.2 j rfl (by omega) (by decide) (v := va_rf (cf j)) rfl dX1_pageIn_13 ?_
      refine lv_goto (tgt := 18) hx hb dX1_pageIn_14 (by decide) ?_
      exact kr_a F hr hlk hE hW hS (Nat.le_of_ble_eq_true rfl) (Nat.le_of_ble_eq_true rfl) (Or.inl ⟨_, rfl⟩) (va_rf_or _) dX1_pageIn_18 (⟨rfl, Or.inl ⟨j, hj, rfl, rfl⟩⟩)
  · refine nz_eq (tgt := 17) hx hb dX1_pageIn_5 (by decide) (by omega) (fun c => ?_) (fun c => ?_)
    · refine lv_null hx hb dX1_pageIn_17 ?_
      exact kr_a F hr hlk hE hW hS (Nat.le_of_ble_eq_true rfl) (Nat.le_of_ble_eq_true rfl) (Or.inl ⟨_, rfl⟩) (Or.inl rfl) dX1_pageIn_18 (⟨rfl, Or.inr ⟨rfl, hno⟩⟩)
    · exact absurd rfl c
set_option maxRecDepth 100000 in
set_option maxHeartbeats 4000000 in
theorem c_X1_countLess (l : Launch) (G : GG) (A : Nat → Prop) (ad : Lb → Nat) (dm : Lb → Prop) (ct : Lb → va_E) (n le lo sz hi : Nat) (ri : Option Nat) (de ta : Nat) (kf vf : Nat → Int32) (cf : Nat → Option Nat) (hP : PG G ad dm ct n le lo sz hi ri de ta kf vf cf) (hsz : sz ≤ 5) (x : Int32) :
    CT l yX1_countLess cX1_countLess 3 (some FieldType.int) { frames := 0, cells := 0, slots := 0, locals := 0 } [.ref (ad (1, n)), .int x] G A (ad, dm, ct) (fun v w' => (ad, dm, ct) = w' ∧ ∃ q, q ≤ sz ∧ v = some (.int (nI q)) ∧ (∀ k, k < q → kf k < x) ∧ (q < sz → ¬ kf q < x)) (fun _ => False) (0) (0) := by
  refine ct_of (by decide) (Nat.le_of_ble_eq_true rfl) ?_
  intro p e s m below meth c ls F hr hlk hnm hex hE hW hl
  have hx := F.1
  have hb := F.2.1
  have hS : va_S A s.heap s.heap [] := va_S.rf
  have hl : lv_has ls 3 [(0, .ref (ad (1, n))), (1, .int x)] := hl
  refine lv_iconst (v := nI 0) hx hb dX1_countLess_0 (by decide) ?_
  refine lv_istore_n (lv' := [(2, .int (nI 0)), (0, .ref (ad (1, n))), (1, .int x)]) hx hb dX1_countLess_1 rfl hl (by decide) rfl (fun ls hl => ?_)
  suffices key : ∀ (d i : Nat) (H : Heap) (locs : List Loc) (ls : Array Slot), i ≤ sz → sz < i + d → (∀ k, k < i → kf k < x) → wd G A (ad, dm, ct) H → va_S A s.heap H locs → lv_has ls 3 [(2, .int (nI i)), (0, .ref (ad (1, n))), (1, .int x)] → W p l e _ s m _ below meth c H locs 0 0 _ (F0 m 2 ls []) from
    key (sz + 1) 0 _ _ ls (Nat.zero_le _) (by omega) (fun k hk => absurd hk (Nat.not_lt_zero _)) hW hS hl
  intro d
  induction d with
  | zero => intro i H locs ls hi hd; omega
  | succ d ih =>
    intro i H locs ls hi hd hlow hW hS hl
    refine lv_iload_n hx hb dX1_countLess_2 rfl (lv_at hl 0 rfl) ?_
    refine lv_aload_n hx hb dX1_countLess_3 rfl (lv_at hl 1 rfl) ?_
    refine kg F hE hW (1, n) hP.1.1 rfl hP.2.1 rfl inA_X1 6 (by decide) kw_72 (v := .int (nI sz)) rfl dX1_countLess_4 ?_
    refine nc_ge (tgt := 31) hx hb dX1_countLess_7 (by decide) (by omega) (by omega) (fun c1 => ?_) (fun c1 => ?_)
    · refine lv_iload_n hx hb dX1_countLess_31 rfl (lv_at hl 0 rfl) ?_
      exact kr_i F hr hlk hE hW hS (Nat.le_of_ble_eq_true rfl) (Nat.le_of_ble_eq_true rfl) dX1_countLess_32 (⟨rfl, i, hi, rfl, hlow, fun h => absurd h (by omega)⟩)
    · refine lv_iload_n hx hb dX1_countLess_10 rfl (lv_at hl 0 rfl) ?_
      refine lv_iconst (v := nI 5) hx hb dX1_countLess_11 (by decide) ?_
      refine nc_ge (tgt := 31) hx hb dX1_countLess_12 (by decide) (by omega) (by omega) (fun c2 => ?_) (fun c2 => ?_)
      · exact absurd c2 (by omega)
      · refine lv_aload_n hx hb dX1_countLess_15 rfl (lv_at hl 1 rfl) ?_
        refine kg F hE hW (1, n) hP.1.1 rfl hP.2.1 rfl inA_X1 3 (by decide) kw_69 (v := .ref (ad (2, n))) rfl dX1_countLess_16 ?_
        refine lv_iload_n hx hb dX1_countLess_19 rfl (lv_at hl 0 rfl) ?_
        refine kl_i F hE hW (2, n) hP.1.2.1 rfl hP.2.2.1 i rfl (by omega) (by decide) dX1_countLess_20 ?_
        refine lv_iload_n hx hb dX1_countLess_21 rfl (lv_at hl 2 rfl) ?_
        refine lv_icmp_ge (tgt := 31) hx hb dX1_countLess_22 (by decide) (fun c3 => ?_) (fun c3 => ?_)
        · refine lv_iload_n hx hb dX1_countLess_31 rfl (lv_at hl 0 rfl) ?_
          exact kr_i F hr hlk hE hW hS (Nat.le_of_ble_eq_true rfl) (Nat.le_of_ble_eq_true rfl) dX1_countLess_32 (⟨rfl, i, hi, rfl, hlow, fun h => fun z => absurd c3 (by exact Int32.not_le.mpr z)⟩)
        · refine lv_iinc (v := nI (i + 1)) (lv' := [(2, .int (nI (i + 1))), (0, .ref (ad (1, n))), (1, .int x)]) hx hb dX1_countLess_25 hl (k := 0) rfl (ki1 _) (by decide) rfl (fun ls hl => ?_)
          refine lv_goto (tgt := 2) hx hb dX1_countLess_28 (by decide) ?_
          exact ih (i + 1) _ _ _ (by omega) (by omega) (lt_s hlow (Int32.not_le.mp c3)) hW hS hl
set_option maxRecDepth 100000 in
set_option maxHeartbeats 4000000 in
theorem c_X1_placeOf (l : Launch) (G : GG) (A : Nat → Prop) (ad : Lb → Nat) (dm : Lb → Prop) (ct : Lb → va_E) (n le lo sz hi : Nat) (ri : Option Nat) (de ta : Nat) (kf vf : Nat → Int32) (cf : Nat → Option Nat) (hP : PG G ad dm ct n le lo sz hi ri de ta kf vf cf) (hsz : sz ≤ 5) (x : Int32) :
    CT l yX1_placeOf cX1_placeOf 3 (some FieldType.int) { frames := 1, cells := 0, slots := 0, locals := 22 } [.ref (ad (1, n)), .int x] G A (ad, dm, ct) (fun v w' => (ad, dm, ct) = w' ∧ ∃ q, q ≤ sz ∧ (∀ k, k < q → kf k < x) ∧ (q < sz → ¬ kf q < x) ∧ ((q < sz ∧ kf q = x ∧ v = some (.int (nI q))) ∨ ((q < sz → kf q ≠ x) ∧ v = some (.int (-1))))) (fun _ => False) (0) (0) := by
  refine ct_of (by decide) (Nat.le_of_ble_eq_true rfl) ?_
  intro p e s m below meth c ls F hr hlk hnm hex hE hW hl
  have hx := F.1
  have hb := F.2.1
  have hS : va_S A s.heap s.heap [] := va_S.rf
  have hl : lv_has ls 3 [(0, .ref (ad (1, n))), (1, .int x)] := hl
  refine lv_aload_n hx hb dX1_placeOf_0 rfl (lv_at hl 0 rfl) ?_
  refine lv_iload_n hx hb dX1_placeOf_1 rfl (lv_at hl 1 rfl) ?_
  refine kc_V 1 (c_X1_countLess l G A ad dm ct n le lo sz hi ri de ta kf vf cf hP hsz x) F hE hW hS (1, n) hP.1.1 hP.2.1 rfl [.int x] rfl kw_171 kw_172 kw_173 kw_5 kw_174 (by decide +kernel) rfl ⟨rfl, rfl⟩ ⟨Nat.le_of_ble_eq_true rfl, Nat.le_of_ble_eq_true rfl⟩ hl.1 rfl (Nat.le_of_ble_eq_true rfl) dX1_placeOf_2 ⟨Nat.le_of_ble_eq_true rfl, Nat.le_of_ble_eq_true rfl⟩ (fun _ _ _ _ _ h => h.elim) (fun v w' H locs hp hW hS => ?_)
  obtain ⟨rfl, q, hq, rfl, h1, h2⟩ := hp
  refine lv_istore_n (lv' := [(2, .int (nI q)), (0, .ref (ad (1, n))), (1, .int x)]) hx hb dX1_placeOf_5 rfl hl (by decide) rfl (fun ls hl => ?_)
  refine lv_aload_n hx hb dX1_placeOf_6 rfl (lv_at hl 1 rfl) ?_
  refine lv_iload_n hx hb dX1_placeOf_7 rfl (lv_at hl 0 rfl) ?_
  refine kc_V 1 (c_X1_has l G A ad dm ct n le lo sz hi ri de ta kf vf cf hP hsz (nI q)) F hE hW hS (1, n) hP.1.1 hP.2.1 rfl [.int (nI q)] rfl kw_191 kw_192 kw_193 kw_5 kw_194 (by decide +kernel) rfl ⟨rfl, rfl⟩ ⟨Nat.le_of_ble_eq_true rfl, Nat.le_of_ble_eq_true rfl⟩ hl.1 rfl (Nat.le_of_ble_eq_true rfl) dX1_placeOf_8 ⟨Nat.le_of_ble_eq_true rfl, Nat.le_of_ble_eq_true rfl⟩ (fun _ _ _ _ _ h => h.elim) (fun v w' H locs hp hW hS => ?_)
  obtain ⟨rfl, ⟨rfl, j, hj, hjq⟩ | ⟨rfl, hno⟩⟩ := hp
  · have hqs : q < sz := by have := nI_inj (by omega) (by omega) hjq; omega
    refine nz_eq (tgt := 28) hx hb dX1_placeOf_11 (by decide) (by omega) (fun c => ?_) (fun c => ?_)
    · exact absurd c (by decide)
    · refine lv_aload_n hx hb dX1_placeOf_14 rfl (lv_at hl 1 rfl) ?_
      refine kg F hE hW (1, n) hP.1.1 rfl hP.2.1 rfl inA_X1 3 (by decide) kw_69 (v := .ref (ad (2, n))) rfl dX1_placeOf_15 ?_
      refine lv_iload_n hx hb dX1_placeOf_18 rfl (lv_at hl 0 rfl) ?_
      refine kl_i F hE hW (2, n) hP.1.2.1 rfl hP.2.2.1 q rfl (by omega) (by decide) dX1_placeOf_19 ?_
      refine lv_iload_n hx hb dX1_placeOf_20 rfl (lv_at hl 2 rfl) ?_
      refine lv_icmp_ne (tgt := 28) hx hb dX1_placeOf_21 (by decide) (fun c4 => ?_) (fun c4 => ?_)
      · refine lv_iconst (v := (-1)) hx hb dX1_placeOf_28 (by decide) ?_
        exact kr_i F hr hlk hE hW hS (Nat.le_of_ble_eq_true rfl) (Nat.le_of_ble_eq_true rfl) dX1_placeOf_29 (⟨rfl, q, hq, h1, h2, Or.inr ⟨fun _ => c4, rfl⟩⟩)
      · refine lv_iload_n hx hb dX1_placeOf_24 rfl (lv_at hl 0 rfl) ?_
        refine lv_goto (tgt := 29) hx hb dX1_placeOf_25 (by decide) ?_
        exact kr_i F hr hlk hE hW hS (Nat.le_of_ble_eq_true rfl) (Nat.le_of_ble_eq_true rfl) dX1_placeOf_29 (⟨rfl, q, hq, h1, h2, Or.inl ⟨hqs, c4, rfl⟩⟩)
  · refine nz_eq (tgt := 28) hx hb dX1_placeOf_11 (by decide) (by omega) (fun c => ?_) (fun c => ?_)
    · refine lv_iconst (v := (-1)) hx hb dX1_placeOf_28 (by decide) ?_
      exact kr_i F hr hlk hE hW hS (Nat.le_of_ble_eq_true rfl) (Nat.le_of_ble_eq_true rfl) dX1_placeOf_29 (⟨rfl, q, hq, h1, h2, Or.inr ⟨fun h => absurd rfl (hno q h), rfl⟩⟩)
    · exact absurd rfl c
set_option maxRecDepth 100000 in
set_option maxHeartbeats 4000000 in
theorem c_X1_leastKeyAbove (l : Launch) (G : GG) (A : Nat → Prop) (ad : Lb → Nat) (dm : Lb → Prop) (ct : Lb → va_E) (n le lo sz hi : Nat) (ri : Option Nat) (de ta : Nat) (kf vf : Nat → Int32) (cf : Nat → Option Nat) (hP : PG G ad dm ct n le lo sz hi ri de ta kf vf cf) (hsz : sz ≤ 5) (x y : Int32) (hxy : x + 1 = y) :
    CT l yX1_leastKeyAbove cX1_leastKeyAbove 2 (some FieldType.int) { frames := 2, cells := 0, slots := 0, locals := 42 } [.ref (ad (1, n)), .int x] G A (ad, dm, ct) (fun v w' => (ad, dm, ct) = w' ∧ ∃ q, q ≤ sz ∧ (∀ k, k < q → kf k < y) ∧ (q < sz → ¬ kf q < y) ∧ ((q < sz ∧ v = some (.int (kf q))) ∨ (q = sz ∧ v = some (.int (-1))))) (fun _ => False) (0) (0) := by
  refine ct_of (by decide) (Nat.le_of_ble_eq_true rfl) ?_
  intro p e s m below meth c ls F hr hlk hnm hex hE hW hl
  have hx := F.1
  have hb := F.2.1
  have hS : va_S A s.heap s.heap [] := va_S.rf
  have hl : lv_has ls 2 [(0, .ref (ad (1, n))), (1, .int x)] := hl
  refine lv_aload_n hx hb dX1_leastKeyAbove_0 rfl (lv_at hl 0 rfl) ?_
  refine lv_aload_n hx hb dX1_leastKeyAbove_1 rfl (lv_at hl 0 rfl) ?_
  refine lv_iload_n hx hb dX1_leastKeyAbove_2 rfl (lv_at hl 1 rfl) ?_
  refine lv_iconst (v := nI 1) hx hb dX1_leastKeyAbove_3 (by decide) ?_
  refine lv_iadd hx hb dX1_leastKeyAbove_4 ?_
  refine ktop hxy ?_
  refine kc_V 1 (c_X1_countLess l G A ad dm ct n le lo sz hi ri de ta kf vf cf hP hsz y) F hE hW hS (1, n) hP.1.1 hP.2.1 rfl [.int y] rfl kw_171 kw_172 kw_173 kw_5 kw_174 (by decide +kernel) rfl ⟨rfl, rfl⟩ ⟨Nat.le_of_ble_eq_true rfl, Nat.le_of_ble_eq_true rfl⟩ hl.1 rfl (Nat.le_of_ble_eq_true rfl) dX1_leastKeyAbove_5 ⟨Nat.le_of_ble_eq_true rfl, Nat.le_of_ble_eq_true rfl⟩ (fun _ _ _ _ _ h => h.elim) (fun v w' H locs hp hW hS => ?_)
  obtain ⟨rfl, q, hq, rfl, h1, h2⟩ := hp
  refine kc_V 1 (c_X1_keyIn l G A ad dm ct n le lo sz hi ri de ta kf vf cf hP hsz (nI q)) F hE hW hS (1, n) hP.1.1 hP.2.1 rfl [.int (nI q)] rfl kw_203 kw_204 kw_205 kw_5 kw_206 (by decide +kernel) rfl ⟨rfl, rfl⟩ ⟨Nat.le_of_ble_eq_true rfl, Nat.le_of_ble_eq_true rfl⟩ hl.1 rfl (Nat.le_of_ble_eq_true rfl) dX1_leastKeyAbove_8 ⟨Nat.le_of_ble_eq_true rfl, Nat.le_of_ble_eq_true rfl⟩ (fun _ _ _ _ _ h => h.elim) (fun v w' H locs hp hW hS => ?_)
  obtain ⟨rfl, ⟨j, hj, hjq, rfl⟩ | ⟨rfl, hno⟩⟩ := hp
  · have hjq := nI_inj (by omega) (by omega) hjq
    subst hjq
    exact kr_i F hr hlk hE hW hS (Nat.le_of_ble_eq_true rfl) (Nat.le_of_ble_eq_true rfl) dX1_leastKeyAbove_11 (⟨rfl, q, hq, h1, h2, Or.inl ⟨hj, rfl⟩⟩)
  · exact kr_i F hr hlk hE hW hS (Nat.le_of_ble_eq_true rfl) (Nat.le_of_ble_eq_true rfl) dX1_leastKeyAbove_11 (⟨rfl, q, hq, h1, h2, Or.inr ⟨Nat.le_antisymm hq (Nat.not_lt.mp fun h => hno q h rfl), rfl⟩⟩)
set_option maxRecDepth 100000 in
set_option maxHeartbeats 4000000 in
theorem c_X1_onward (l : Launch) (G : GG) (A : Nat → Prop) (ad : Lb → Nat) (dm : Lb → Prop) (ct : Lb → va_E) (n le lo sz hi : Nat) (ri : Option Nat) (de ta : Nat) (kf vf : Nat → Int32) (cf : Nat → Option Nat) (hP : PG G ad dm ct n le lo sz hi ri de ta kf vf cf) (hsz : sz ≤ 5) (key lv : Nat) (hkey : key < 1000) (hlv : lv < 2 ^ 31) (hhi : hi < 2 ^ 31) (hle : le < 2 ^ 31) :
    CT l yX1_onward cX1_onward 3 (some (FieldType.object "Highkey$Page")) { frames := 2, cells := 0, slots := 0, locals := 42 } [.ref (ad (1, n)), .int (nI key), .int (nI lv)] G A (ad, dm, ct) (fun v w' => (ad, dm, ct) = w' ∧ ((hi ≤ key ∧ v = some (va_rf ri)) ∨ (key < hi ∧ le ≤ lv ∧ v = some .null) ∨ (key < hi ∧ lv < le ∧ ∃ q, q ≤ sz ∧ (∀ k, k < q → kf k < nI (key + 1)) ∧ (q < sz → ¬ kf q < nI (key + 1)) ∧ ((∃ j, q = j + 1 ∧ v = some (va_rf (cf j))) ∨ (q = 0 ∧ v = some .null))))) (fun _ => False) (0) (0) := by
  refine ct_of (by decide) (Nat.le_of_ble_eq_true rfl) ?_
  intro p e s m below meth c ls F hr hlk hnm hex hE hW hl
  have hx := F.1
  have hb := F.2.1
  have hS : va_S A s.heap s.heap [] := va_S.rf
  have hl : lv_has ls 3 [(0, .ref (ad (1, n))), (1, .int (nI key)), (2, .int (nI lv))] := hl
  refine lv_iload_n hx hb dX1_onward_0 rfl (lv_at hl 1 rfl) ?_
  refine lv_aload_n hx hb dX1_onward_1 rfl (lv_at hl 0 rfl) ?_
  refine kg F hE hW (1, n) hP.1.1 rfl hP.2.1 rfl inA_X1 7 (by decide) kw_74 (v := .int (nI hi)) rfl dX1_onward_2 ?_
  refine nc_lt (tgt := 13) hx hb dX1_onward_5 (by decide) (by omega) (by omega) (fun c => ?_) (fun c => ?_)
  · refine lv_aload_n hx hb dX1_onward_13 rfl (lv_at hl 0 rfl) ?_
    refine kg F hE hW (1, n) hP.1.1 rfl hP.2.1 rfl inA_X1 1 (by decide) kw_65 (v := .int (nI le)) rfl dX1_onward_14 ?_
    refine lv_iload_n hx hb dX1_onward_17 rfl (lv_at hl 2 rfl) ?_
    refine nc_le (tgt := 37) hx hb dX1_onward_18 (by decide) (by omega) (by omega) (fun c2 => ?_) (fun c2 => ?_)
    · refine lv_null hx hb dX1_onward_37 ?_
      exact kr_a F hr hlk hE hW hS (Nat.le_of_ble_eq_true rfl) (Nat.le_of_ble_eq_true rfl) (Or.inl ⟨_, rfl⟩) (Or.inl rfl) dX1_onward_38 (⟨rfl, Or.inr (Or.inl ⟨c, c2, rfl⟩)⟩)
    · refine lv_aload_n hx hb dX1_onward_21 rfl (lv_at hl 0 rfl) ?_
      refine lv_aload_n hx hb dX1_onward_22 rfl (lv_at hl 0 rfl) ?_
      refine lv_iload_n hx hb dX1_onward_23 rfl (lv_at hl 1 rfl) ?_
      refine lv_iconst (v := nI 1) hx hb dX1_onward_24 (by decide) ?_
      refine lv_iadd hx hb dX1_onward_25 ?_
      refine ktop (nI_add _ _) ?_
      refine kc_V 1 (c_X1_countLess l G A ad dm ct n le lo sz hi ri de ta kf vf cf hP hsz (nI (key + 1))) F hE hW hS (1, n) hP.1.1 hP.2.1 rfl [.int (nI (key + 1))] rfl kw_171 kw_172 kw_173 kw_5 kw_174 (by decide +kernel) rfl ⟨rfl, rfl⟩ ⟨Nat.le_of_ble_eq_true rfl, Nat.le_of_ble_eq_true rfl⟩ hl.1 rfl (Nat.le_of_ble_eq_true rfl) dX1_onward_26 ⟨Nat.le_of_ble_eq_true rfl, Nat.le_of_ble_eq_true rfl⟩ (fun _ _ _ _ _ h => h.elim) (fun v w' H locs hp hW hS => ?_)
      obtain ⟨rfl, q, hq, rfl, h1, h2⟩ := hp
      rcases q with _ | q
      · refine lv_iconst (v := nI 1) hx hb dX1_onward_29 (by decide) ?_
        refine lv_isub hx hb dX1_onward_30 ?_
        refine ktop (y := (-1)) (by decide) ?_
        refine kc_V 1 (c_X1_pageIn l G A ad dm ct n le lo sz hi ri de ta kf vf cf hP hsz (-1)) F hE hW hS (1, n) hP.1.1 hP.2.1 rfl [.int (-1)] rfl kw_187 kw_188 kw_189 kw_5 kw_190 (by decide +kernel) rfl ⟨rfl, rfl⟩ ⟨Nat.le_of_ble_eq_true rfl, Nat.le_of_ble_eq_true rfl⟩ hl.1 rfl (Nat.le_of_ble_eq_true rfl) dX1_onward_31 ⟨Nat.le_of_ble_eq_true rfl, Nat.le_of_ble_eq_true rfl⟩ (fun _ _ _ _ _ h => h.elim) (fun v w' H locs hp hW hS => ?_)
        obtain ⟨rfl, ⟨j, hj, hjq, rfl⟩ | ⟨rfl, hno⟩⟩ := hp
        · exact absurd hjq.symm (nI_neg (by omega))
        · refine lv_goto (tgt := 38) hx hb dX1_onward_34 (by decide) ?_
          exact kr_a F hr hlk hE hW hS (Nat.le_of_ble_eq_true rfl) (Nat.le_of_ble_eq_true rfl) (Or.inl ⟨_, rfl⟩) (Or.inl rfl) dX1_onward_38 (⟨rfl, Or.inr (Or.inr ⟨c, c2, 0, hq, h1, h2, Or.inr ⟨rfl, rfl⟩⟩)⟩)
      · refine lv_iconst (v := nI 1) hx hb dX1_onward_29 (by decide) ?_
        refine lv_isub hx hb dX1_onward_30 ?_
        refine ktop (nI_pred q) ?_
        refine kc_V 1 (c_X1_pageIn l G A ad dm ct n le lo sz hi ri de ta kf vf cf hP hsz (nI q)) F hE hW hS (1, n) hP.1.1 hP.2.1 rfl [.int (nI q)] rfl kw_187 kw_188 kw_189 kw_5 kw_190 (by decide +kernel) rfl ⟨rfl, rfl⟩ ⟨Nat.le_of_ble_eq_true rfl, Nat.le_of_ble_eq_true rfl⟩ hl.1 rfl (Nat.le_of_ble_eq_true rfl) dX1_onward_31 ⟨Nat.le_of_ble_eq_true rfl, Nat.le_of_ble_eq_true rfl⟩ (fun _ _ _ _ _ h => h.elim) (fun v w' H locs hp hW hS => ?_)
        obtain ⟨rfl, ⟨j, hj, hjq, rfl⟩ | ⟨rfl, hno⟩⟩ := hp
        · have hjq := nI_inj (by omega) (by omega) hjq
          subst hjq
          refine lv_goto (tgt := 38) hx hb dX1_onward_34 (by decide) ?_
          exact kr_a F hr hlk hE hW hS (Nat.le_of_ble_eq_true rfl) (Nat.le_of_ble_eq_true rfl) (Or.inl ⟨_, rfl⟩) (va_rf_or _) dX1_onward_38 (⟨rfl, Or.inr (Or.inr ⟨c, c2, q + 1, hq, h1, h2, Or.inl ⟨q, rfl, rfl⟩⟩)⟩)
        · exact absurd rfl (hno q (by omega))
  · refine lv_aload_n hx hb dX1_onward_8 rfl (lv_at hl 0 rfl) ?_
    refine kg F hE hW (1, n) hP.1.1 rfl hP.2.1 rfl inA_X1 8 (by decide) kw_78 (v := va_rf ri) rfl dX1_onward_9 ?_
    exact kr_a F hr hlk hE hW hS (Nat.le_of_ble_eq_true rfl) (Nat.le_of_ble_eq_true rfl) (Or.inl ⟨_, rfl⟩) (va_rf_or _) dX1_onward_12 (⟨rfl, Or.inl ⟨c, rfl⟩⟩)
set_option maxRecDepth 100000 in
set_option maxHeartbeats 4000000 in
theorem c_X1_placeOfEmptyLeaf (l : Launch) (G : GG) (A : Nat → Prop) (ad : Lb → Nat) (dm : Lb → Prop) (ct : Lb → va_E) (n le lo sz hi : Nat) (ri : Option Nat) (de ta : Nat) (kf vf : Nat → Int32) (cf : Nat → Option Nat) (hP : PG G ad dm ct n le lo sz hi ri de ta kf vf cf) (hsz : sz ≤ 5) (cs : Nat → Nat) (hC : ∀ k, k < sz → ∃ m le lo hi ri de ta kf vf cf1, cf k = some (ad (1, m)) ∧ PG G ad dm ct m le lo (cs k) hi ri de ta kf vf cf1) (hcs : ∀ k, k < sz → cs k < 2 ^ 31) :
    CT l yX1_placeOfEmptyLeaf cX1_placeOfEmptyLeaf 3 (some FieldType.int) { frames := 0, cells := 0, slots := 0, locals := 0 } [.ref (ad (1, n))] G A (ad, dm, ct) (fun v w' => (ad, dm, ct) = w' ∧ ((∃ j, 1 ≤ j ∧ j < sz ∧ cs j = 0 ∧ (∀ i, 1 ≤ i → i < j → cs i ≠ 0) ∧ v = some (.int (nI j))) ∨ ((∀ i, 1 ≤ i → i < sz → cs i ≠ 0) ∧ v = some (.int (-1))))) (fun _ => False) (0) (0) := by
  refine ct_of (by decide) (Nat.le_of_ble_eq_true rfl) ?_
  intro p e s m below meth c ls F hr hlk hnm hex hE hW hl
  have hx := F.1
  have hb := F.2.1
  have hS : va_S A s.heap s.heap [] := va_S.rf
  have hl : lv_has ls 3 [(0, .ref (ad (1, n)))] := hl
  refine lv_iconst (v := nI 1) hx hb dX1_placeOfEmptyLeaf_0 (by decide) ?_
  refine lv_istore_n (lv' := [(1, .int (nI 1)), (0, .ref (ad (1, n)))]) hx hb dX1_placeOfEmptyLeaf_1 rfl hl (by decide) rfl (fun ls hl => ?_)
  suffices key : ∀ (d i : Nat) (H : Heap) (locs : List Loc) (ls : Array Slot), 1 ≤ i → i ≤ 5 → 5 < i + d → (∀ k, 1 ≤ k → k < i → cs k ≠ 0) → wd G A (ad, dm, ct) H → va_S A s.heap H locs → lv_has ls 3 [(1, .int (nI i)), (0, .ref (ad (1, n)))] → W p l e _ s m _ below meth c H locs 0 0 _ (F0 m 2 ls []) from
    key 5 1 _ _ ls (Nat.le_refl _) (by omega) (by omega) (fun k h1 h2 => by omega) hW hS hl
  intro d
  induction d with
  | zero => intro i H locs ls h1 h5 hd; omega
  | succ d ih =>
    intro i H locs ls h1 h5 hd hlow hW hS hl
    refine lv_iload_n hx hb dX1_placeOfEmptyLeaf_2 rfl (lv_at hl 0 rfl) ?_
    refine lv_aload_n hx hb dX1_placeOfEmptyLeaf_3 rfl (lv_at hl 1 rfl) ?_
    refine kg F hE hW (1, n) hP.1.1 rfl hP.2.1 rfl inA_X1 6 (by decide) kw_72 (v := .int (nI sz)) rfl dX1_placeOfEmptyLeaf_4 ?_
    refine nc_ge (tgt := 41) hx hb dX1_placeOfEmptyLeaf_7 (by decide) (by omega) (by omega) (fun c1 => ?_) (fun c1 => ?_)
    · refine lv_iconst (v := (-1)) hx hb dX1_placeOfEmptyLeaf_41 (by decide) ?_
      exact kr_i F hr hlk hE hW hS (Nat.le_of_ble_eq_true rfl) (Nat.le_of_ble_eq_true rfl) dX1_placeOfEmptyLeaf_42 (⟨rfl, Or.inr ⟨fun k hk1 hk2 => hlow k hk1 (by omega), rfl⟩⟩)
    · refine lv_iload_n hx hb dX1_placeOfEmptyLeaf_10 rfl (lv_at hl 0 rfl) ?_
      refine lv_iconst (v := nI 5) hx hb dX1_placeOfEmptyLeaf_11 (by decide) ?_
      refine nc_ge (tgt := 41) hx hb dX1_placeOfEmptyLeaf_12 (by decide) (by omega) (by omega) (fun c2 => ?_) (fun c2 => ?_)
      · exact absurd c2 (by omega)
      · obtain ⟨m2, le2, lo2, hi2, ri2, de2, ta2, kf2, vf2, cf2, hcf, hP2⟩ := hC i c1
        refine lv_aload_n hx hb dX1_placeOfEmptyLeaf_15 rfl (lv_at hl 1 rfl) ?_
        refine kg F hE hW (1, n) hP.1.1 rfl hP.2.1 rfl inA_X1 5 (by decide) kw_71 (v := .ref (ad (4, n))) rfl dX1_placeOfEmptyLeaf_16 ?_
        refine lv_iload_n hx hb dX1_placeOfEmptyLeaf_19 rfl (lv_at hl 0 rfl) ?_
        refine kl_a 2 F hE hW (4, n) hP.1.2.2.2 rfl rfl hP.2.2.2.2 i rfl (by omega) (by decide) (v := .ref (ad (1, m2))) (by rw [hcf]; rfl) dX1_placeOfEmptyLeaf_20 ?_
        refine lv_astore_n (lv' := [(2, .ref (ad (1, m2))), (1, .int (nI i)), (0, .ref (ad (1, n)))]) hx hb dX1_placeOfEmptyLeaf_21 rfl hl (by decide) rfl (fun ls hl => ?_)
        refine lv_aload_n hx hb dX1_placeOfEmptyLeaf_22 rfl (lv_at hl 0 rfl) ?_
        refine lv_ifnull hx hb dX1_placeOfEmptyLeaf_23 ?_
        refine lv_aload_n hx hb dX1_placeOfEmptyLeaf_26 rfl (lv_at hl 0 rfl) ?_
        refine kg F hE hW (1, m2) hP2.1.1 rfl hP2.2.1 rfl inA_X1 6 (by decide) kw_72 (v := .int (nI (cs i))) rfl dX1_placeOfEmptyLeaf_27 ?_
        refine nz_ne (tgt := 35) hx hb dX1_placeOfEmptyLeaf_30 (by decide) (hcs i c1) (fun c3 => ?_) (fun c3 => ?_)
        · refine lv_iinc (v := nI (i + 1)) (lv' := [(1, .int (nI (i + 1))), (2, .ref (ad (1, m2))), (0, .ref (ad (1, n)))]) hx hb dX1_placeOfEmptyLeaf_35 hl (k := 1) rfl (ki1 _) (by decide) rfl (fun ls hl => ?_)
          refine lv_goto (tgt := 2) hx hb dX1_placeOfEmptyLeaf_38 (by decide) ?_
          refine ih (i + 1) _ _ _ (by omega) (by omega) (by omega) (fun k k1 k2 => ?_) hW hS (lv_sub hl [0, 2] rfl)
          rcases Nat.lt_or_ge k i with q | q
          · exact hlow k k1 q
          · have : k = i := by omega
            subst this
            exact c3
        · refine lv_iload_n hx hb dX1_placeOfEmptyLeaf_33 rfl (lv_at hl 1 rfl) ?_
          exact kr_i F hr hlk hE hW hS (Nat.le_of_ble_eq_true rfl) (Nat.le_of_ble_eq_true rfl) dX1_placeOfEmptyLeaf_34 (⟨rfl, Or.inl ⟨i, h1, c1, c3, hlow, rfl⟩⟩)
