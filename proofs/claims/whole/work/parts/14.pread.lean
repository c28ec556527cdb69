/-! A page's methods that only read. -/
set_option maxRecDepth 100000 in
set_option maxHeartbeats 4000000 in
theorem c_X1_has (l : Launch) (G : GG) (A : Nat → Prop) (ad : Lb → Nat) (dm : Lb → Prop) (ct : Lb → va_E) (n le lo sz hi : Nat) (ri : Option Nat) (de ta : Nat) (kf vf : Nat → Int32) (cf : Nat → Option Nat) (hP : PG G ad dm ct n le lo sz hi ri de ta kf vf cf) (hsz : sz ≤ 5) (x : Int32) :
    CT l yX1_has cX1_has 2 (some FieldType.boolean) { frames := 0, cells := 0, slots := 0, locals := 0 } [.ref (ad (1, n)), .int x] G A (ad, dm, ct) (fun v w' => (ad, dm, ct) = w' ∧ ((v = some (.int (nI 1)) ∧ ∃ j, j < sz ∧ x = nI j) ∨ (v = some (.int (nI 0)) ∧ ∀ j, j < sz → x ≠ nI j))) (fun _ => False) (0) (0) := by
  refine ct_of (by decide) (Nat.le_of_ble_eq_true rfl) ?_
  intro p e s m below meth c ls F hr hlk hnm hex hE hW hl
  have hx := F.1
  have hb := F.2.1
  have hS : va_S A s.heap s.heap [] := va_S.rf
  have hl : lv_has ls 2 [(0, .ref (ad (1, n))), (1, .int x)] := hl
  refine lv_iload_n hx hb dX1_has_0 rfl (lv_at hl 1 rfl) ?_
  refine lv_if_lt (tgt := 21) hx hb dX1_has_1 (by decide) (fun c => ?_) (fun c => ?_)
  · refine lv_iconst (v := nI 0) hx hb dX1_has_21 (by decide) ?_
    exact kr_z F hr hlk hE hW hS (Nat.le_of_ble_eq_true rfl) (Nat.le_of_ble_eq_true rfl) rfl dX1_has_22 (⟨rfl, Or.inr ⟨rfl, fun j hj e => nI_pos (n := j) (by omega) (by rw [← e]; exact c)⟩⟩)
  · obtain ⟨j, hj, rfl⟩ := nI_of c
    refine lv_iload_n hx hb dX1_has_4 rfl (lv_at hl 1 rfl) ?_
    refine lv_aload_n hx hb dX1_has_5 rfl (lv_at hl 0 rfl) ?_
    refine kg F hE hW (1, n) hP.1.1 rfl hP.2.1 rfl inA_X1 6 (by decide) kw_73 (v := .int (nI sz)) rfl dX1_has_6 ?_
    refine nc_ge (tgt := 21) hx hb dX1_has_9 (by decide) (by omega) (by omega) (fun c1 => ?_) (fun c1 => ?_)
    · refine lv_iconst (v := nI 0) hx hb dX1_has_21 (by decide) ?_
      exact kr_z F hr hlk hE hW hS (Nat.le_of_ble_eq_true rfl) (Nat.le_of_ble_eq_true rfl) rfl dX1_has_22 (⟨rfl, Or.inr ⟨rfl, fun i hi e => by have := nI_inj hj (by omega) e; omega⟩⟩)
    · refine lv_iload_n hx hb dX1_has_12 rfl (lv_at hl 1 rfl) ?_
      refine lv_iconst (v := nI 5) hx hb dX1_has_13 (by decide) ?_
      refine nc_ge (tgt := 21) hx hb dX1_has_14 (by decide) (by omega) (by omega) (fun c2 => ?_) (fun c2 => ?_)
      · exact absurd c2 (by omega)
      · refine lv_iconst (v := nI 1) hx hb dX1_has_17 (by decide) ?_
        refine lv_goto (tgt := 22) hx hb dX1_has_18 (by decide) ?_
        exact kr_z F hr hlk hE hW hS (Nat.le_of_ble_eq_true rfl) (Nat.le_of_ble_eq_true rfl) rfl dX1_has_22 (⟨rfl, Or.inl ⟨rfl, j, c1, rfl⟩⟩)
set_option maxRecDepth 100000 in
set_option maxHeartbeats 4000000 in
theorem c_X1_keyIn (l : Launch) (G : GG) (A : Nat → Prop) (ad : Lb → Nat) (dm : Lb → Prop) (ct : Lb → va_E) (n le lo sz hi : Nat) (ri : Option Nat) (de ta : Nat) (kf vf : Nat → Int32) (cf : Nat → Option Nat) (hP : PG G ad dm ct n le lo sz hi ri de ta kf vf cf) (hsz : sz ≤ 5) (x : Int32) :
    CT l yX1_keyIn cX1_keyIn 2 (some FieldType.int) { frames := 1, cells := 0, slots := 0, locals := 21 } [.ref (ad (1, n)), .int x] G A (ad, dm, ct) (fun v w' => (ad, dm, ct) = w' ∧ ((∃ j, j < sz ∧ x = nI j ∧ v = some (.int (kf j))) ∨ (v = some (.int (-1)) ∧ ∀ j, j < sz → x ≠ nI j))) (fun _ => False) (0) (0) := by
  refine ct_of (by decide) (Nat.le_of_ble_eq_true rfl) ?_
  intro p e s m below meth c ls F hr hlk hnm hex hE hW hl
  have hx := F.1
  have hb := F.2.1
  have hS : va_S A s.heap s.heap [] := va_S.rf
  have hl : lv_has ls 2 [(0, .ref (ad (1, n))), (1, .int x)] := hl
  refine lv_aload_n hx hb dX1_keyIn_0 rfl (lv_at hl 0 rfl) ?_
  refine lv_iload_n hx hb dX1_keyIn_1 rfl (lv_at hl 1 rfl) ?_
  refine kc_V 1 (c_X1_has l G A ad dm ct n le lo sz hi ri de ta kf vf cf hP hsz x) F hE hW hS (1, n) hP.1.1 hP.2.1 rfl [.int x] rfl kw_204 kw_205 kw_206 kw_5 kw_207 (by decide +kernel) rfl ⟨rfl, rfl⟩ ⟨Nat.le_of_ble_eq_true rfl, Nat.le_of_ble_eq_true rfl⟩ hl.1 rfl (Nat.le_of_ble_eq_true rfl) dX1_keyIn_2 ⟨Nat.le_of_ble_eq_true rfl, Nat.le_of_ble_eq_true rfl⟩ (fun _ _ _ _ _ h => h.elim) (fun v w' H locs hp hW hS => ?_)
  obtain ⟨rfl, ⟨rfl, j, hj, rfl⟩ | ⟨rfl, hno⟩⟩ := hp
  · refine nz_eq (tgt := 17) hx hb dX1_keyIn_5 (by decide) (by omega) (fun c => ?_) (fun c => ?_)
    · exact absurd c (by decide)
    · refine lv_aload_n hx hb dX1_keyIn_8 rfl (lv_at hl 0 rfl) ?_
      refine kg F hE hW (1, n) hP.1.1 rfl hP.2.1 rfl inA_X1 3 (by decide) kw_70 (v := .ref (ad (2, n))) rfl dX1_keyIn_9 ?_
      refine lv_iload_n hx hb dX1_keyIn_12 rfl (lv_at hl 1 rfl) ?_
      refine kl_i F hE hW (2, n) hP.1.2.1 rfl hP.2.2.1 j rfl (by omega) (by decide) dX1_keyIn_13 ?_
      refine lv_goto (tgt := 18) hx hb dX1_keyIn_14 (by decide) ?_
      exact kr_i F hr hlk hE hW hS (Nat.le_of_ble_eq_true rfl) (Nat.le_of_ble_eq_true rfl) dX1_keyIn_18 (⟨rfl, Or.inl ⟨j, hj, rfl, rfl⟩⟩)
  · refine nz_eq (tgt := 17) hx hb dX1_keyIn_5 (by decide) (by omega) (fun c => ?_) (fun c => ?_)
    · refine lv_iconst (v := (-1)) hx hb dX1_keyIn_17 (by decide) ?_
      exact kr_i F hr hlk hE hW hS (Nat.le_of_ble_eq_true rfl) (Nat.le_of_ble_eq_true rfl) dX1_keyIn_18 (⟨rfl, Or.inr ⟨rfl, hno⟩⟩)
    · exact absurd rfl c
set_option maxRecDepth 100000 in
set_option maxHeartbeats 4000000 in
theorem c_X1_valueIn (l : Launch) (G : GG) (A : Nat → Prop) (ad : Lb → Nat) (dm : Lb → Prop) (ct : Lb → va_E) (n le lo sz hi : Nat) (ri : Option Nat) (de ta : Nat) (kf vf : Nat → Int32) (cf : Nat → Option Nat) (hP : PG G ad dm ct n le lo sz hi ri de ta kf vf cf) (hsz : sz ≤ 5) (x : Int32) :
    CT l yX1_valueIn cX1_valueIn 2 (some FieldType.int) { frames := 1, cells := 0, slots := 0, locals := 21 } [.ref (ad (1, n)), .int x] G A (ad, dm, ct) (fun v w' => (ad, dm, ct) = w' ∧ ((∃ j, j < sz ∧ x = nI j ∧ v = some (.int (vf j))) ∨ (v = some (.int (-1)) ∧ ∀ j, j < sz → x ≠ nI j))) (fun _ => False) (0) (0) := by
  refine ct_of (by decide) (Nat.le_of_ble_eq_true rfl) ?_
  intro p e s m below meth c ls F hr hlk hnm hex hE hW hl
  have hx := F.1
  have hb := F.2.1
  have hS : va_S A s.heap s.heap [] := va_S.rf
  have hl : lv_has ls 2 [(0, .ref (ad (1, n))), (1, .int x)] := hl
  refine lv_aload_n hx hb dX1_valueIn_0 rfl (lv_at hl 0 rfl) ?_
  refine lv_iload_n hx hb dX1_valueIn_1 rfl (lv_at hl 1 rfl) ?_
  refine kc_V 1 (c_X1_has l G A ad dm ct n le lo sz hi ri de ta kf vf cf hP hsz x) F hE hW hS (1, n) hP.1.1 hP.2.1 rfl [.int x] rfl kw_204 kw_205 kw_206 kw_5 kw_207 (by decide +kernel) rfl ⟨rfl, rfl⟩ ⟨Nat.le_of_ble_eq_true rfl, Nat.le_of_ble_eq_true rfl⟩ hl.1 rfl (Nat.le_of_ble_eq_true rfl) dX1_valueIn_2 ⟨Nat.le_of_ble_eq_true rfl, Nat.le_of_ble_eq_true rfl⟩ (fun _ _ _ _ _ h => h.elim) (fun v w' H locs hp hW hS => ?_)
  obtain ⟨rfl, ⟨rfl, j, hj, rfl⟩ | ⟨rfl, hno⟩⟩ := hp
  · refine nz_eq (tgt := 17) hx hb dX1_valueIn_5 (by decide) (by omega) (fun c => ?_) (fun c => ?_)
    · exact absurd c (by decide)
    · refine lv_aload_n hx hb dX1_valueIn_8 rfl (lv_at hl 0 rfl) ?_
      refine kg F hE hW (1, n) hP.1.1 rfl hP.2.1 rfl inA_X1 4 (by decide) kw_71 (v := .ref (ad (3, n))) rfl dX1_valueIn_9 ?_
      refine lv_iload_n hx hb dX1_valueIn_12 rfl (lv_at hl 1 rfl) ?_
      refine kl_i F hE hW (3, n) hP.1.2.2.1 rfl hP.2.2.2.1 j rfl (by omega) (by decide) dX1_valueIn_13 ?_
      refine lv_goto (tgt := 18) hx hb dX1_valueIn_14 (by decide) ?_
      exact kr_i F hr hlk hE hW hS (Nat.le_of_ble_eq_true rfl) (Nat.le_of_ble_eq_true rfl) dX1_valueIn_18 (⟨rfl, Or.inl ⟨j, hj, rfl, rfl⟩⟩)
  · refine nz_eq (tgt := 17) hx hb dX1_valueIn_5 (by decide) (by omega) (fun c => ?_) (fun c => ?_)
    · refine lv_iconst (v := (-1)) hx hb dX1_valueIn_17 (by decide) ?_
      exact kr_i F hr hlk hE hW hS (Nat.le_of_ble_eq_true rfl) (Nat.le_of_ble_eq_true rfl) dX1_valueIn_18 (⟨rfl, Or.inr ⟨rfl, hno⟩⟩)
    · exact absurd rfl c
set_option maxRecDepth 100000 in
set_option maxHeartbeats 4000000 in
theorem c_X1_pageIn (l : Launch) (G : GG) (A : Nat → Prop) (ad : Lb → Nat) (dm : Lb → Prop) (ct : Lb → va_E) (n le lo sz hi : Nat) (ri : Option Nat) (de ta : Nat) (kf vf : Nat → Int32) (cf : Nat → Option Nat) (hP : PG G ad dm ct n le lo sz hi ri de ta kf vf cf) (hsz : sz ≤ 5) (x : Int32) :
    CT l yX1_pageIn cX1_pageIn 2 (some (FieldType.object "Highkey$Page")) { frames := 1, cells := 0, slots := 0, locals := 21 } [.ref (ad (1, n)), .int x] G A (ad, dm, ct) (fun v w' => (ad, dm, ct) = w' ∧ ((∃ j, j < sz ∧ x = nI j ∧ v = some (va_rf (cf j))) ∨ (v = some .null ∧ ∀ j, j < sz → x ≠ nI j))) (fun _ => False) (0) (0) := by
  refine ct_of (by decide) (Nat.le_of_ble_eq_true rfl) ?_
  intro p e s m below meth c ls F hr hlk hnm hex hE hW hl
  have hx := F.1
  have hb := F.2.1
  have hS : va_S A s.heap s.heap [] := va_S.rf
  have hl : lv_has ls 2 [(0, .ref (ad (1, n))), (1, .int x)] := hl
  refine lv_aload_n hx hb dX1_pageIn_0 rfl (lv_at hl 0 rfl) ?_
  refine lv_iload_n hx hb dX1_pageIn_1 rfl (lv_at hl 1 rfl) ?_
  refine kc_V 1 (c_X1_has l G A ad dm ct n le lo sz hi ri de ta kf vf cf hP hsz x) F hE hW hS (1, n) hP.1.1 hP.2.1 rfl [.int x] rfl kw_204 kw_205 kw_206 kw_5 kw_207 (by decide +kernel) rfl ⟨rfl, rfl⟩ ⟨Nat.le_of_ble_eq_true rfl, Nat.le_of_ble_eq_true rfl⟩ hl.1 rfl (Nat.le_of_ble_eq_true rfl) dX1_pageIn_2 ⟨Nat.le_of_ble_eq_true rfl, Nat.le_of_ble_eq_true rfl⟩ (fun _ _ _ _ _ h => h.elim) (fun v w' H locs hp hW hS => ?_)
  obtain ⟨rfl, ⟨rfl, j, hj, rfl⟩ | ⟨rfl, hno⟩⟩ := hp
  · refine nz_eq (tgt := 17) hx hb dX1_pageIn_5 (by decide) (by omega) (fun c => ?_) (fun c => ?_)
    · exact absurd c (by decide)
    · refine lv_aload_n hx hb dX1_pageIn_8 rfl (lv_at hl 0 rfl) ?_
      refine kg F hE hW (1, n) hP.1.1 rfl hP.2.1 rfl inA_X1 5 (by decide) kw_72 (v := .ref (ad (4, n))) rfl dX1_pageIn_9 ?_
      refine lv_iload_n hx hb dX1_pageIn_12 rfl (lv_at hl 1 rfl) ?_
      refine kl_a 2 F hE hW (4, n) hP.1.2.2.2 rfl rfl hP.2.2.2.2 j rfl (by omega) (by decide) (v := va_rf (cf j)) rfl dX1_pageIn_13 ?_
      refine lv_goto (tgt := 18) hx hb dX1_pageIn_14 (by decide) ?_
      exact kr_a F hr hlk hE hW hS (Nat.le_of_ble_eq_true rfl) (Nat.le_of_ble_eq_true rfl) (Or.inl ⟨_, rfl⟩) (va_rf_or _) dX1_pageIn_18 (⟨rfl, Or.inl ⟨j, hj, rfl, rfl⟩⟩)
  · refine nz_eq (tgt := 17) hx hb dX1_pageIn_5 (by decide) (by omega) (fun c => ?_) (fun c => ?_)
    · refine lv_null hx hb dX1_pageIn_17 ?_
      exact kr_a F hr hlk hE hW hS (Nat.le_of_ble_eq_true rfl) (Nat.le_of_ble_eq_true rfl) (Or.inl ⟨_, rfl⟩) (Or.inl rfl) dX1_pageIn_18 (⟨rfl, Or.inr ⟨rfl, hno⟩⟩)
    · exact absurd rfl c
set_option maxRecDepth 100000 in
set_option maxHeartbeats 4000000 in
theorem c_X1_countLess (l : Launch) (G : GG) (A : Nat → Prop) (ad : Lb → Nat) (dm : Lb → Prop) (ct : Lb → va_E) (n le lo sz hi : Nat) (ri : Option Nat) (de ta : Nat) (kf vf : Nat → Int32) (cf : Nat → Option Nat) (hP : PG G ad dm ct n le lo sz hi ri de ta kf vf cf) (hsz : sz ≤ 5) (x : Int32) :
    CT l yX1_countLess cX1_countLess 3 (some FieldType.int) { frames := 0, cells := 0, slots := 0, locals := 0 } [.ref (ad (1, n)), .int x] G A (ad, dm, ct) (fun v w' => (ad, dm, ct) = w' ∧ ∃ q, q ≤ sz ∧ v = some (.int (nI q)) ∧ (∀ k, k < q → kf k < x) ∧ (q < sz → ¬ kf q < x)) (fun _ => False) (0) (0) := by
  refine ct_of (by decide) (Nat.le_of_ble_eq_true rfl) ?_
  intro p e s m below meth c ls F hr hlk hnm hex hE hW hl
  have hx := F.1
  have hb := F.2.1
  have hS : va_S A s.heap s.heap [] := va_S.rf
  have hl : lv_has ls 3 [(0, .ref (ad (1, n))), (1, .int x)] := hl
  refine lv_iconst (v := nI 0) hx hb dX1_countLess_0 (by decide) ?_
  refine lv_istore_n (lv' := [(2, .int (nI 0)), (0, .ref (ad (1, n))), (1, .int x)]) hx hb dX1_countLess_1 rfl hl (by decide) rfl (fun ls hl => ?_)
  suffices key : ∀ (d i : Nat) (H : Heap) (locs : List Loc) (ls : Array Slot), i ≤ sz → sz < i + d → (∀ k, k < i → kf k < x) → wd G A (ad, dm, ct) H → va_S A s.heap H locs → lv_has ls 3 [(2, .int (nI i)), (0, .ref (ad (1, n))), (1, .int x)] → W p l e _ s m _ below meth c H locs 0 0 _ (F0 m 2 ls []) from
    key (sz + 1) 0 _ _ ls (Nat.zero_le _) (by omega) (fun k hk => absurd hk (Nat.not_lt_zero _)) hW hS hl
  intro d
  induction d with
  | zero => intro i H locs ls hi hd; omega
  | succ d ih =>
    intro i H locs ls hi hd hlow hW hS hl
    refine lv_iload_n hx hb dX1_countLess_2 rfl (lv_at hl 0 rfl) ?_
    refine lv_aload_n hx hb dX1_countLess_3 rfl (lv_at hl 1 rfl) ?_
    refine kg F hE hW (1, n) hP.1.1 rfl hP.2.1 rfl inA_X1 6 (by decide) kw_73 (v := .int (nI sz)) rfl dX1_countLess_4 ?_
    refine nc_ge (tgt := 31) hx hb dX1_countLess_7 (by decide) (by omega) (by omega) (fun c1 => ?_) (fun c1 => ?_)
    · refine lv_iload_n hx hb dX1_countLess_31 rfl (lv_at hl 0 rfl) ?_
      exact kr_i F hr hlk hE hW hS (Nat.le_of_ble_eq_true rfl) (Nat.le_of_ble_eq_true rfl) dX1_countLess_32 (⟨rfl, i, hi, rfl, hlow, fun h => absurd h (by omega)⟩)
    · refine lv_iload_n hx hb dX1_countLess_10 rfl (lv_at hl 0 rfl) ?_
      refine lv_iconst (v := nI 5) hx hb dX1_countLess_11 (by decide) ?_
      refine nc_ge (tgt := 31) hx hb dX1_countLess_12 (by decide) (by omega) (by omega) (fun c2 => ?_) (fun c2 => ?_)
      · exact absurd c2 (by omega)
      · refine lv_aload_n hx hb dX1_countLess_15 rfl (lv_at hl 1 rfl) ?_
        refine kg F hE hW (1, n) hP.1.1 rfl hP.2.1 rfl inA_X1 3 (by decide) kw_70 (v := .ref (ad (2, n))) rfl dX1_countLess_16 ?_
        refine lv_iload_n hx hb dX1_countLess_19 rfl (lv_at hl 0 rfl) ?_
        refine kl_i F hE hW (2, n) hP.1.2.1 rfl hP.2.2.1 i rfl (by omega) (by decide) dX1_countLess_20 ?_
        refine lv_iload_n hx hb dX1_countLess_21 rfl (lv_at hl 2 rfl) ?_
        refine lv_icmp_ge (tgt := 31) hx hb dX1_countLess_22 (by decide) (fun c3 => ?_) (fun c3 => ?_)
        · refine lv_iload_n hx hb dX1_countLess_31 rfl (lv_at hl 0 rfl) ?_
          exact kr_i F hr hlk hE hW hS (Nat.le_of_ble_eq_true rfl) (Nat.le_of_ble_eq_true rfl) dX1_countLess_32 (⟨rfl, i, hi, rfl, hlow, fun h => fun z => absurd c3 (by exact Int32.not_le.mpr z)⟩)
        · refine lv_iinc (v := nI (i + 1)) (lv' := [(2, .int (nI (i + 1))), (0, .ref (ad (1, n))), (1, .int x)]) hx hb dX1_countLess_25 hl (k := 0) rfl (ki1 _) (by decide) rfl (fun ls hl => ?_)
          refine lv_goto (tgt := 2) hx hb dX1_countLess_28 (by decide) ?_
          exact ih (i + 1) _ _ _ (by omega) (by omega) (lt_s hlow (Int32.not_le.mp c3)) hW hS hl
