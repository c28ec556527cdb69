/-! The class: checks, small reads. -/
theorem tl_169 : (∀ w ∈ (vx_atS "Highkey" 169 "java/lang/IllegalArgumentException" ["java/lang/RuntimeException", "java/lang/Exception"]), w ∈ lw_tbl) ∧ (vx_atS "Highkey" 169 "java/lang/IllegalArgumentException" ["java/lang/RuntimeException", "java/lang/Exception"]).all (fun w => goodWord w || isDecl w) = true ∧ (∀ w ∈ Cond.classLink "Highkey" 165 "java/lang/IllegalArgumentException" :: Cond.initialized "java/lang/IllegalArgumentException" :: (vx_atS "Highkey" 169 "java/lang/IllegalArgumentException" ["java/lang/RuntimeException", "java/lang/Exception"]), vx_ot w = true) :=
  ⟨by decide +kernel, by decide +kernel, by decide +kernel⟩
theorem tl_176 : (∀ w ∈ (vx_atS "Highkey" 176 "java/lang/IndexOutOfBoundsException" ["java/lang/RuntimeException", "java/lang/Exception"]), w ∈ lw_tbl) ∧ (vx_atS "Highkey" 176 "java/lang/IndexOutOfBoundsException" ["java/lang/RuntimeException", "java/lang/Exception"]).all (fun w => goodWord w || isDecl w) = true ∧ (∀ w ∈ Cond.classLink "Highkey" 172 "java/lang/IndexOutOfBoundsException" :: Cond.initialized "java/lang/IndexOutOfBoundsException" :: (vx_atS "Highkey" 176 "java/lang/IndexOutOfBoundsException" ["java/lang/RuntimeException", "java/lang/Exception"]), vx_ot w = true) :=
  ⟨by decide +kernel, by decide +kernel, by decide +kernel⟩
theorem tl_86 : (∀ w ∈ (vx_atS "Highkey" 86 "java/lang/IllegalStateException" ["java/lang/RuntimeException", "java/lang/Exception"]), w ∈ lw_tbl) ∧ (vx_atS "Highkey" 86 "java/lang/IllegalStateException" ["java/lang/RuntimeException", "java/lang/Exception"]).all (fun w => goodWord w || isDecl w) = true ∧ (∀ w ∈ Cond.classLink "Highkey" 82 "java/lang/IllegalStateException" :: Cond.initialized "java/lang/IllegalStateException" :: (vx_atS "Highkey" 86 "java/lang/IllegalStateException" ["java/lang/RuntimeException", "java/lang/Exception"]), vx_ot w = true) :=
  ⟨by decide +kernel, by decide +kernel, by decide +kernel⟩
theorem pfA_t {ad : Lb → Nat} {lv : Nat → Bool} {n : Nat} (h : lv n = true) : pfA ad lv n = some (ad (1, n)) := if_pos h
theorem pfA_f {ad : Lb → Nat} {lv : Nat → Bool} {n : Nat} (h : lv n = false) : pfA ad lv n = none := if_neg (by rw [h]; exact Bool.false_ne_true)
theorem cfA_t {ad : Lb → Nat} {cn c : Nat} (h : c < cn) : cfA ad cn c = some (ad (5, c)) := if_pos h
theorem cfA_f {ad : Lb → Nat} {cn c : Nat} (h : cn ≤ c) : cfA ad cn c = none := if_neg (Nat.not_lt.mpr h)
set_option maxRecDepth 100000 in
set_option maxHeartbeats 4000000 in
theorem c_X2_checkKey (l : Launch) (G : GG) (A : Nat → Prop) (ad : Lb → Nat) (dm : Lb → Prop) (ct : Lb → va_E) (hst : l.stackTraces = false) (x : Int32) :
    CT l yX2_checkKey cX2_checkKey 1 none { frames := 6, cells := 1, slots := 6, locals := 100 } [.int x] G A (ad, dm, ct) (fun v w' => (ad, dm, ct) = w' ∧ (v = none ∧ ∃ k, k < 200 ∧ x = nI k)) (fun E => E = "java/lang/IllegalArgumentException" ∧ ∀ k, k < 200 → x ≠ nI k) (1) (6) := by
  refine ct_of (by decide) (Nat.le_of_ble_eq_true rfl) ?_
  intro p e s m below meth c ls F hr hlk hnm hex hE hW hl
  have hx := F.1
  have hb := F.2.1
  have hS : va_S A s.heap s.heap [] := va_S.rf
  have hl : lv_has ls 1 [(0, .int x)] := hl
  refine lv_iload_n hx hb dX2_checkKey_0 rfl (lv_at hl 0 rfl) ?_
  refine lv_if_lt (tgt := 11) hx hb dX2_checkKey_1 (by decide) (fun c1 => ?_) (fun c1 => ?_)
  · exact kr_t (cls := "java/lang/IllegalArgumentException") (text := "no such key") (ik := 165) (is := 167) (ic := 169) F hst hlk hex hE hW hS hl.1 (by decide +kernel) kw_292 kw_9 kn_333 tl_169.1 tl_169.2.1 tl_169.2.2 dX2_checkKey_11 dX2_checkKey_14 dX2_checkKey_15 dX2_checkKey_17 dX2_checkKey_20 (Nat.le_of_ble_eq_true rfl) (Nat.le_of_ble_eq_true rfl) (Nat.le_of_ble_eq_true rfl) (Nat.le_of_ble_eq_true rfl) (Nat.le_of_ble_eq_true rfl) (Nat.le_of_ble_eq_true rfl) (⟨rfl, fun k hk e => absurd c1 (by rw [e]; exact nI_nlt (Nat.zero_le _) (by omega))⟩)
  · obtain ⟨j, hj, rfl⟩ := nI_of c1
    refine lv_iload_n hx hb dX2_checkKey_4 rfl (lv_at hl 0 rfl) ?_
    refine lv_sipush (v := nI 200) hx hb dX2_checkKey_5 (by decide) ?_
    refine nc_lt (tgt := 21) hx hb dX2_checkKey_8 (by decide) (by omega) (by omega) (fun c2 => ?_) (fun c2 => ?_)
    · exact kr_v F hr hlk hE hW hS (Nat.le_of_ble_eq_true rfl) (Nat.le_of_ble_eq_true rfl) dX2_checkKey_21 (⟨rfl, rfl, j, c2, rfl⟩)
    · exact kr_t (cls := "java/lang/IllegalArgumentException") (text := "no such key") (ik := 165) (is := 167) (ic := 169) F hst hlk hex hE hW hS hl.1 (by decide +kernel) kw_292 kw_9 kn_333 tl_169.1 tl_169.2.1 tl_169.2.2 dX2_checkKey_11 dX2_checkKey_14 dX2_checkKey_15 dX2_checkKey_17 dX2_checkKey_20 (Nat.le_of_ble_eq_true rfl) (Nat.le_of_ble_eq_true rfl) (Nat.le_of_ble_eq_true rfl) (Nat.le_of_ble_eq_true rfl) (Nat.le_of_ble_eq_true rfl) (Nat.le_of_ble_eq_true rfl) (⟨rfl, fun k hk e => by have := nI_inj hj (by omega) e; omega⟩)
set_option maxRecDepth 100000 in
set_option maxHeartbeats 4000000 in
theorem c_X2_checkValue (l : Launch) (G : GG) (A : Nat → Prop) (ad : Lb → Nat) (dm : Lb → Prop) (ct : Lb → va_E) (hst : l.stackTraces = false) (x : Int32) :
    CT l yX2_checkValue cX2_checkValue 1 none { frames := 6, cells := 1, slots := 6, locals := 100 } [.int x] G A (ad, dm, ct) (fun v w' => (ad, dm, ct) = w' ∧ (v = none ∧ ∃ k, k < 10000 ∧ x = nI k)) (fun E => E = "java/lang/IllegalArgumentException" ∧ ∀ k, k < 10000 → x ≠ nI k) (1) (6) := by
  refine ct_of (by decide) (Nat.le_of_ble_eq_true rfl) ?_
  intro p e s m below meth c ls F hr hlk hnm hex hE hW hl
  have hx := F.1
  have hb := F.2.1
  have hS : va_S A s.heap s.heap [] := va_S.rf
  have hl : lv_has ls 1 [(0, .int x)] := hl
  refine lv_iload_n hx hb dX2_checkValue_0 rfl (lv_at hl 0 rfl) ?_
  refine lv_if_lt (tgt := 11) hx hb dX2_checkValue_1 (by decide) (fun c1 => ?_) (fun c1 => ?_)
  · exact kr_t (cls := "java/lang/IllegalArgumentException") (text := "no such value") (ik := 165) (is := 170) (ic := 169) F hst hlk hex hE hW hS hl.1 (by decide +kernel) kw_292 kw_9 kn_363 tl_169.1 tl_169.2.1 tl_169.2.2 dX2_checkValue_11 dX2_checkValue_14 dX2_checkValue_15 dX2_checkValue_17 dX2_checkValue_20 (Nat.le_of_ble_eq_true rfl) (Nat.le_of_ble_eq_true rfl) (Nat.le_of_ble_eq_true rfl) (Nat.le_of_ble_eq_true rfl) (Nat.le_of_ble_eq_true rfl) (Nat.le_of_ble_eq_true rfl) (⟨rfl, fun k hk e => absurd c1 (by rw [e]; exact nI_nlt (Nat.zero_le _) (by omega))⟩)
  · obtain ⟨j, hj, rfl⟩ := nI_of c1
    refine lv_iload_n hx hb dX2_checkValue_4 rfl (lv_at hl 0 rfl) ?_
    refine lv_sipush (v := nI 10000) hx hb dX2_checkValue_5 (by decide) ?_
    refine nc_lt (tgt := 21) hx hb dX2_checkValue_8 (by decide) (by omega) (by omega) (fun c2 => ?_) (fun c2 => ?_)
    · exact kr_v F hr hlk hE hW hS (Nat.le_of_ble_eq_true rfl) (Nat.le_of_ble_eq_true rfl) dX2_checkValue_21 (⟨rfl, rfl, j, c2, rfl⟩)
    · exact kr_t (cls := "java/lang/IllegalArgumentException") (text := "no such value") (ik := 165) (is := 170) (ic := 169) F hst hlk hex hE hW hS hl.1 (by decide +kernel) kw_292 kw_9 kn_363 tl_169.1 tl_169.2.1 tl_169.2.2 dX2_checkValue_11 dX2_checkValue_14 dX2_checkValue_15 dX2_checkValue_17 dX2_checkValue_20 (Nat.le_of_ble_eq_true rfl) (Nat.le_of_ble_eq_true rfl) (Nat.le_of_ble_eq_true rfl) (Nat.le_of_ble_eq_true rfl) (Nat.le_of_ble_eq_true rfl) (Nat.le_of_ble_eq_true rfl) (⟨rfl, fun k hk e => by have := nI_inj hj (by omega) e; omega⟩)
set_option maxRecDepth 100000 in
set_option maxHeartbeats 4000000 in
theorem c_X2_checkPlace (l : Launch) (G : GG) (A : Nat → Prop) (ad : Lb → Nat) (dm : Lb → Prop) (ct : Lb → va_E) (hst : l.stackTraces = false) (x : Int32) :
    CT l yX2_checkPlace cX2_checkPlace 1 none { frames := 6, cells := 1, slots := 6, locals := 100 } [.int x] G A (ad, dm, ct) (fun v w' => (ad, dm, ct) = w' ∧ (v = none ∧ ∃ k, k < 2 ^ 31 ∧ x = nI k)) (fun E => E = "java/lang/IndexOutOfBoundsException" ∧ x < nI 0) (1) (6) := by
  refine ct_of (by decide) (Nat.le_of_ble_eq_true rfl) ?_
  intro p e s m below meth c ls F hr hlk hnm hex hE hW hl
  have hx := F.1
  have hb := F.2.1
  have hS : va_S A s.heap s.heap [] := va_S.rf
  have hl : lv_has ls 1 [(0, .int x)] := hl
  refine lv_iload_n hx hb dX2_checkPlace_0 rfl (lv_at hl 0 rfl) ?_
  refine lv_if_ge (tgt := 14) hx hb dX2_checkPlace_1 (by decide) (fun c1 => ?_) (fun c1 => ?_)
  · obtain ⟨j, hj, rfl⟩ := nI_of (Int32.not_lt.mpr c1)
    exact kr_v F hr hlk hE hW hS (Nat.le_of_ble_eq_true rfl) (Nat.le_of_ble_eq_true rfl) dX2_checkPlace_14 (⟨rfl, rfl, j, hj, rfl⟩)
  · exact kr_t (cls := "java/lang/IndexOutOfBoundsException") (text := "place is below 0") (ik := 172) (is := 174) (ic := 176) F hst hlk hex hE hW hS hl.1 (by decide +kernel) kw_440 kw_18 kn_552 tl_176.1 tl_176.2.1 tl_176.2.2 dX2_checkPlace_4 dX2_checkPlace_7 dX2_checkPlace_8 dX2_checkPlace_10 dX2_checkPlace_13 (Nat.le_of_ble_eq_true rfl) (Nat.le_of_ble_eq_true rfl) (Nat.le_of_ble_eq_true rfl) (Nat.le_of_ble_eq_true rfl) (Nat.le_of_ble_eq_true rfl) (Nat.le_of_ble_eq_true rfl) (⟨rfl, Int32.not_le.mp c1⟩)
set_option maxRecDepth 100000 in
set_option maxHeartbeats 4000000 in
theorem c_X2_keys (l : Launch) (G : GG) (A : Nat → Prop) (ad : Lb → Nat) (dm : Lb → Prop) (ct : Lb → va_E) (lv : Nat → Bool) (lev : Nat → Nat) (lo : Nat → Nat) (hi : Nat → Nat) (ri : Nat → Option Nat) (sz : Nat → Nat) (ky : Nat → Nat) (vl : Nat → Nat) (go : Nat → Option Nat) (rt : Nat) (ep : Nat) (wq : Nat → Nat) (wn : Nat) (cn : Nat) (op : Nat → Bool) (cl : Nat → Nat) (ca : Nat → Nat) (ce : Nat → Nat) (kc : Nat) (nb : Nat) (hH : HKF G ad dm ct lv lev lo hi ri sz ky vl go rt ep wq wn cn op cl ca ce kc nb)  :
    CT l yX2_keys cX2_keys 1 (some FieldType.int) { frames := 0, cells := 0, slots := 0, locals := 0 } [.ref (ad (0, 0))] G A (ad, dm, ct) (fun v w' => (ad, dm, ct) = w' ∧ v = some (.int (nI kc))) (fun _ => False) (0) (0) := by
  refine ct_of (by decide) (Nat.le_of_ble_eq_true rfl) ?_
  intro p e s m below meth c ls F hr hlk hnm hex hE hW hl
  have hx := F.1
  have hb := F.2.1
  have hS : va_S A s.heap s.heap [] := va_S.rf
  have hl : lv_has ls 1 [(0, .ref (ad (0, 0)))] := hl
  refine lv_aload_n hx hb dX2_keys_0 rfl (lv_at hl 0 rfl) ?_
  refine kg F hE hW (0, 0) hH.1.1 rfl hH.2.1 rfl inA_X2 5 (by decide) kw_110 (v := .int (nI kc)) rfl dX2_keys_1 ?_
  exact kr_i F hr hlk hE hW hS (Nat.le_of_ble_eq_true rfl) (Nat.le_of_ble_eq_true rfl) dX2_keys_4 (⟨rfl, rfl⟩)
set_option maxRecDepth 100000 in
set_option maxHeartbeats 4000000 in
theorem c_X2_epoch (l : Launch) (G : GG) (A : Nat → Prop) (ad : Lb → Nat) (dm : Lb → Prop) (ct : Lb → va_E) (lv : Nat → Bool) (lev : Nat → Nat) (lo : Nat → Nat) (hi : Nat → Nat) (ri : Nat → Option Nat) (sz : Nat → Nat) (ky : Nat → Nat) (vl : Nat → Nat) (go : Nat → Option Nat) (rt : Nat) (ep : Nat) (wq : Nat → Nat) (wn : Nat) (cn : Nat) (op : Nat → Bool) (cl : Nat → Nat) (ca : Nat → Nat) (ce : Nat → Nat) (kc : Nat) (nb : Nat) (hH : HKF G ad dm ct lv lev lo hi ri sz ky vl go rt ep wq wn cn op cl ca ce kc nb)  :
    CT l yX2_epoch cX2_epoch 1 (some FieldType.int) { frames := 0, cells := 0, slots := 0, locals := 0 } [.ref (ad (0, 0))] G A (ad, dm, ct) (fun v w' => (ad, dm, ct) = w' ∧ v = some (.int (nI ep))) (fun _ => False) (0) (0) := by
  refine ct_of (by decide) (Nat.le_of_ble_eq_true rfl) ?_
  intro p e s m below meth c ls F hr hlk hnm hex hE hW hl
  have hx := F.1
  have hb := F.2.1
  have hS : va_S A s.heap s.heap [] := va_S.rf
  have hl : lv_has ls 1 [(0, .ref (ad (0, 0)))] := hl
  refine lv_aload_n hx hb dX2_epoch_0 rfl (lv_at hl 0 rfl) ?_
  refine kg F hE hW (0, 0) hH.1.1 rfl hH.2.1 rfl inA_X2 6 (by decide) kw_111 (v := .int (nI ep)) rfl dX2_epoch_1 ?_
  exact kr_i F hr hlk hE hW hS (Nat.le_of_ble_eq_true rfl) (Nat.le_of_ble_eq_true rfl) dX2_epoch_4 (⟨rfl, rfl⟩)
set_option maxRecDepth 100000 in
set_option maxHeartbeats 4000000 in
theorem c_X2_root (l : Launch) (G : GG) (A : Nat → Prop) (ad : Lb → Nat) (dm : Lb → Prop) (ct : Lb → va_E) (lv : Nat → Bool) (lev : Nat → Nat) (lo : Nat → Nat) (hi : Nat → Nat) (ri : Nat → Option Nat) (sz : Nat → Nat) (ky : Nat → Nat) (vl : Nat → Nat) (go : Nat → Option Nat) (rt : Nat) (ep : Nat) (wq : Nat → Nat) (wn : Nat) (cn : Nat) (op : Nat → Bool) (cl : Nat → Nat) (ca : Nat → Nat) (ce : Nat → Nat) (kc : Nat) (nb : Nat) (hH : HKF G ad dm ct lv lev lo hi ri sz ky vl go rt ep wq wn cn op cl ca ce kc nb) (hrt : lv rt = true) :
    CT l yX2_root cX2_root 1 (some FieldType.int) { frames := 0, cells := 0, slots := 0, locals := 0 } [.ref (ad (0, 0))] G A (ad, dm, ct) (fun v w' => (ad, dm, ct) = w' ∧ v = some (.int (nI rt))) (fun _ => False) (0) (0) := by
  refine ct_of (by decide) (Nat.le_of_ble_eq_true rfl) ?_
  intro p e s m below meth c ls F hr hlk hnm hex hE hW hl
  have hx := F.1
  have hb := F.2.1
  have hS : va_S A s.heap s.heap [] := va_S.rf
  have hl : lv_has ls 1 [(0, .ref (ad (0, 0)))] := hl
  obtain ⟨kf1, vf1, cf1, ta1, hPp1, hCp1, hTp1⟩ := hH.2.2.2.2.2.2.1 rt hrt
  refine lv_aload_n hx hb dX2_root_0 rfl (lv_at hl 0 rfl) ?_
  refine kg F hE hW (0, 0) hH.1.1 rfl hH.2.1 rfl inA_X2 4 (by decide) kw_109 (v := .ref (ad (1, rt))) rfl dX2_root_1 ?_
  refine kg F hE hW (1, rt) hPp1.1.1 rfl hPp1.2.1 rfl inA_X1 0 (by decide) kw_64 (v := .int (nI rt)) rfl dX2_root_4 ?_
  exact kr_i F hr hlk hE hW hS (Nat.le_of_ble_eq_true rfl) (Nat.le_of_ble_eq_true rfl) dX2_root_7 (⟨rfl, rfl⟩)
set_option maxRecDepth 100000 in
set_option maxHeartbeats 4000000 in
theorem c_X2_numberOfN (l : Launch) (G : GG) (A : Nat → Prop) (ad : Lb → Nat) (dm : Lb → Prop) (ct : Lb → va_E)  :
    CT l yX2_numberOf cX2_numberOf 1 (some FieldType.int) { frames := 0, cells := 0, slots := 0, locals := 0 } [.null] G A (ad, dm, ct) (fun v w' => (ad, dm, ct) = w' ∧ v = some (.int (-1))) (fun _ => False) (0) (0) := by
  refine ct_of (by decide) (Nat.le_of_ble_eq_true rfl) ?_
  intro p e s m below meth c ls F hr hlk hnm hex hE hW hl
  have hx := F.1
  have hb := F.2.1
  have hS : va_S A s.heap s.heap [] := va_S.rf
  have hl : lv_has ls 1 [(0, .null)] := hl
  refine lv_aload_nN hx hb dX2_numberOf_0 rfl (lv_at hl 0 rfl) ?_
  refine lv_ifnonnullN hx hb dX2_numberOf_1 ?_
  refine lv_iconst (v := (-1)) hx hb dX2_numberOf_4 (by decide) ?_
  refine lv_goto (tgt := 12) hx hb dX2_numberOf_5 (by decide) ?_
  exact kr_i F hr hlk hE hW hS (Nat.le_of_ble_eq_true rfl) (Nat.le_of_ble_eq_true rfl) dX2_numberOf_12 (⟨rfl, rfl⟩)
set_option maxRecDepth 100000 in
set_option maxHeartbeats 4000000 in
theorem c_X2_numberOf (l : Launch) (G : GG) (A : Nat → Prop) (ad : Lb → Nat) (dm : Lb → Prop) (ct : Lb → va_E) (lv : Nat → Bool) (lev : Nat → Nat) (lo : Nat → Nat) (hi : Nat → Nat) (ri : Nat → Option Nat) (sz : Nat → Nat) (ky : Nat → Nat) (vl : Nat → Nat) (go : Nat → Option Nat) (rt : Nat) (ep : Nat) (wq : Nat → Nat) (wn : Nat) (cn : Nat) (op : Nat → Bool) (cl : Nat → Nat) (ca : Nat → Nat) (ce : Nat → Nat) (kc : Nat) (nb : Nat) (hH : HKF G ad dm ct lv lev lo hi ri sz ky vl go rt ep wq wn cn op cl ca ce kc nb) (n : Nat) (hv : lv n = true) :
    CT l yX2_numberOf cX2_numberOf 1 (some FieldType.int) { frames := 0, cells := 0, slots := 0, locals := 0 } [.ref (ad (1, n))] G A (ad, dm, ct) (fun v w' => (ad, dm, ct) = w' ∧ v = some (.int (nI n))) (fun _ => False) (0) (0) := by
  refine ct_of (by decide) (Nat.le_of_ble_eq_true rfl) ?_
  intro p e s m below meth c ls F hr hlk hnm hex hE hW hl
  have hx := F.1
  have hb := F.2.1
  have hS : va_S A s.heap s.heap [] := va_S.rf
  have hl : lv_has ls 1 [(0, .ref (ad (1, n)))] := hl
  obtain ⟨kf1, vf1, cf1, ta1, hPp1, hCp1, hTp1⟩ := hH.2.2.2.2.2.2.1 n hv
  refine lv_aload_n hx hb dX2_numberOf_0 rfl (lv_at hl 0 rfl) ?_
  refine lv_ifnonnull (tgt := 8) hx hb dX2_numberOf_1 (by decide) ?_
  refine lv_aload_n hx hb dX2_numberOf_8 rfl (lv_at hl 0 rfl) ?_
  refine kg F hE hW (1, n) hPp1.1.1 rfl hPp1.2.1 rfl inA_X1 0 (by decide) kw_64 (v := .int (nI n)) rfl dX2_numberOf_9 ?_
  exact kr_i F hr hlk hE hW hS (Nat.le_of_ble_eq_true rfl) (Nat.le_of_ble_eq_true rfl) dX2_numberOf_12 (⟨rfl, rfl⟩)
set_option maxRecDepth 100000 in
set_option maxHeartbeats 4000000 in
theorem c_X2_pageOf (l : Launch) (G : GG) (A : Nat → Prop) (ad : Lb → Nat) (dm : Lb → Prop) (ct : Lb → va_E) (lv : Nat → Bool) (lev : Nat → Nat) (lo : Nat → Nat) (hi : Nat → Nat) (ri : Nat → Option Nat) (sz : Nat → Nat) (ky : Nat → Nat) (vl : Nat → Nat) (go : Nat → Option Nat) (rt : Nat) (ep : Nat) (wq : Nat → Nat) (wn : Nat) (cn : Nat) (op : Nat → Bool) (cl : Nat → Nat) (ca : Nat → Nat) (ce : Nat → Nat) (kc : Nat) (nb : Nat) (hst : l.stackTraces = false) (hH : HKF G ad dm ct lv lev lo hi ri sz ky vl go rt ep wq wn cn op cl ca ce kc nb) (h800 : ∀ j, lv j = true → j < 800) (x : Int32) :
    CT l yX2_pageOf cX2_pageOf 3 (some (FieldType.object "Highkey$Page")) { frames := 6, cells := 1, slots := 6, locals := 100 } [.ref (ad (0, 0)), .int x] G A (ad, dm, ct) (fun v w' => (ad, dm, ct) = w' ∧ ∃ j, x = nI j ∧ lv j = true ∧ v = some (.ref (ad (1, j)))) (fun E => E = "java/lang/IndexOutOfBoundsException" ∧ ∀ j, lv j = true → x ≠ nI j) (1) (6) := by
  refine ct_of (by decide) (Nat.le_of_ble_eq_true rfl) ?_
  intro p e s m below meth c ls F hr hlk hnm hex hE hW hl
  have hx := F.1
  have hb := F.2.1
  have hS : va_S A s.heap s.heap [] := va_S.rf
  have hl : lv_has ls 3 [(0, .ref (ad (0, 0))), (1, .int x)] := hl
  refine lv_iload_n hx hb dX2_pageOf_0 rfl (lv_at hl 1 rfl) ?_
  refine lv_if_lt (tgt := 22) hx hb dX2_pageOf_1 (by decide) (fun c1 => ?_) (fun c1 => ?_)
  · refine lv_null hx hb dX2_pageOf_22 ?_
    refine lv_astore_nN (lv' := [(2, .null), (0, .ref (ad (0, 0))), (1, .int x)]) hx hb dX2_pageOf_23 rfl hl (by decide) rfl (fun ls hl => ?_)
    refine lv_aload_nN hx hb dX2_pageOf_24 rfl (lv_at hl 0 rfl) ?_
    refine lv_ifnonnullN hx hb dX2_pageOf_25 ?_
    exact kr_t (cls := "java/lang/IndexOutOfBoundsException") (text := "no such page") (ik := 172) (is := 177) (ic := 176) F hst hlk hex hE hW hS hl.1 (by decide +kernel) kw_440 kw_18 kn_529 tl_176.1 tl_176.2.1 tl_176.2.2 dX2_pageOf_28 dX2_pageOf_31 dX2_pageOf_32 dX2_pageOf_34 dX2_pageOf_37 (Nat.le_of_ble_eq_true rfl) (Nat.le_of_ble_eq_true rfl) (Nat.le_of_ble_eq_true rfl) (Nat.le_of_ble_eq_true rfl) (Nat.le_of_ble_eq_true rfl) (Nat.le_of_ble_eq_true rfl) (⟨rfl, fun j hj e => absurd c1 (by rw [e]; exact nI_nlt (Nat.zero_le _) (by have := h800 j hj; omega))⟩)
  · obtain ⟨j, hj, rfl⟩ := nI_of c1
    refine lv_iload_n hx hb dX2_pageOf_4 rfl (lv_at hl 1 rfl) ?_
    refine lv_aload_n hx hb dX2_pageOf_5 rfl (lv_at hl 0 rfl) ?_
    refine kg F hE hW (0, 0) hH.1.1 rfl hH.2.1 rfl inA_X2 0 (by decide) kw_105 (v := .ref (ad (0, 1))) rfl dX2_pageOf_6 ?_
    refine kal 2 F hE hW (0, 1) hH.1.2.1 rfl rfl hH.2.2.1 dX2_pageOf_9 ?_
    refine nc_ge (tgt := 22) hx hb dX2_pageOf_10 (by decide) (by omega) (by omega) (fun c2 => ?_) (fun c2 => ?_)
    · refine lv_null hx hb dX2_pageOf_22 ?_
      refine lv_astore_nN (lv' := [(2, .null), (0, .ref (ad (0, 0))), (1, .int (nI j))]) hx hb dX2_pageOf_23 rfl hl (by decide) rfl (fun ls hl => ?_)
      refine lv_aload_nN hx hb dX2_pageOf_24 rfl (lv_at hl 0 rfl) ?_
      refine lv_ifnonnullN hx hb dX2_pageOf_25 ?_
      exact kr_t (cls := "java/lang/IndexOutOfBoundsException") (text := "no such page") (ik := 172) (is := 177) (ic := 176) F hst hlk hex hE hW hS hl.1 (by decide +kernel) kw_440 kw_18 kn_529 tl_176.1 tl_176.2.1 tl_176.2.2 dX2_pageOf_28 dX2_pageOf_31 dX2_pageOf_32 dX2_pageOf_34 dX2_pageOf_37 (Nat.le_of_ble_eq_true rfl) (Nat.le_of_ble_eq_true rfl) (Nat.le_of_ble_eq_true rfl) (Nat.le_of_ble_eq_true rfl) (Nat.le_of_ble_eq_true rfl) (Nat.le_of_ble_eq_true rfl) (⟨rfl, fun i hi e => by have := h800 i hi; have := nI_inj hj (by omega) e; omega⟩)
    · refine lv_aload_n hx hb dX2_pageOf_13 rfl (lv_at hl 0 rfl) ?_
      refine kg F hE hW (0, 0) hH.1.1 rfl hH.2.1 rfl inA_X2 0 (by decide) kw_105 (v := .ref (ad (0, 1))) rfl dX2_pageOf_14 ?_
      refine lv_iload_n hx hb dX2_pageOf_17 rfl (lv_at hl 1 rfl) ?_
      cases hv : lv j with
      | false =>
        refine kl_a 2 F hE hW (0, 1) hH.1.2.1 rfl rfl hH.2.2.1 j rfl c2 (by decide) (v := .null) (by rw [pfA_f hv]; rfl) dX2_pageOf_18 ?_
        refine lv_goto (tgt := 23) hx hb dX2_pageOf_19 (by decide) ?_
        refine lv_astore_nN (lv' := [(2, .null), (0, .ref (ad (0, 0))), (1, .int (nI j))]) hx hb dX2_pageOf_23 rfl hl (by decide) rfl (fun ls hl => ?_)
        refine lv_aload_nN hx hb dX2_pageOf_24 rfl (lv_at hl 0 rfl) ?_
        refine lv_ifnonnullN hx hb dX2_pageOf_25 ?_
        exact kr_t (cls := "java/lang/IndexOutOfBoundsException") (text := "no such page") (ik := 172) (is := 177) (ic := 176) F hst hlk hex hE hW hS hl.1 (by decide +kernel) kw_440 kw_18 kn_529 tl_176.1 tl_176.2.1 tl_176.2.2 dX2_pageOf_28 dX2_pageOf_31 dX2_pageOf_32 dX2_pageOf_34 dX2_pageOf_37 (Nat.le_of_ble_eq_true rfl) (Nat.le_of_ble_eq_true rfl) (Nat.le_of_ble_eq_true rfl) (Nat.le_of_ble_eq_true rfl) (Nat.le_of_ble_eq_true rfl) (Nat.le_of_ble_eq_true rfl) (⟨rfl, fun i hi e => by have := h800 i hi; rw [nI_inj (by omega) (by omega) e, hi] at hv; cases hv⟩)
      | true =>
        refine kl_a 2 F hE hW (0, 1) hH.1.2.1 rfl rfl hH.2.2.1 j rfl c2 (by decide) (v := .ref (ad (1, j))) (by rw [pfA_t hv]; rfl) dX2_pageOf_18 ?_
        refine lv_goto (tgt := 23) hx hb dX2_pageOf_19 (by decide) ?_
        refine lv_astore_n (lv' := [(2, .ref (ad (1, j))), (0, .ref (ad (0, 0))), (1, .int (nI j))]) hx hb dX2_pageOf_23 rfl hl (by decide) rfl (fun ls hl => ?_)
        refine lv_aload_n hx hb dX2_pageOf_24 rfl (lv_at hl 0 rfl) ?_
        refine lv_ifnonnull (tgt := 38) hx hb dX2_pageOf_25 (by decide) ?_
        refine lv_aload_n hx hb dX2_pageOf_38 rfl (lv_at hl 0 rfl) ?_
        exact kr_a F hr hlk hE hW hS (Nat.le_of_ble_eq_true rfl) (Nat.le_of_ble_eq_true rfl) (Or.inl ⟨_, rfl⟩) (Or.inr ⟨_, rfl⟩) dX2_pageOf_39 (⟨rfl, j, rfl, hv, rfl⟩)
set_option maxRecDepth 100000 in
set_option maxHeartbeats 4000000 in
theorem c_X2_level (l : Launch) (G : GG) (A : Nat → Prop) (ad : Lb → Nat) (dm : Lb → Prop) (ct : Lb → va_E) (lv : Nat → Bool) (lev : Nat → Nat) (lo : Nat → Nat) (hi : Nat → Nat) (ri : Nat → Option Nat) (sz : Nat → Nat) (ky : Nat → Nat) (vl : Nat → Nat) (go : Nat → Option Nat) (rt : Nat) (ep : Nat) (wq : Nat → Nat) (wn : Nat) (cn : Nat) (op : Nat → Bool) (cl : Nat → Nat) (ca : Nat → Nat) (ce : Nat → Nat) (kc : Nat) (nb : Nat) (hst : l.stackTraces = false) (hH : HKF G ad dm ct lv lev lo hi ri sz ky vl go rt ep wq wn cn op cl ca ce kc nb) (t0 : Nat) (hI : InvF lv lev lo hi ri sz ky vl go rt ep wq wn cn op cl ca ce kc nb 800 t0) (x : Int32) :
    CT l yX2_level cX2_level 2 (some FieldType.int) { frames := 7, cells := 1, slots := 6, locals := 122 } [.ref (ad (0, 0)), .int x] G A (ad, dm, ct) (fun v w' => (ad, dm, ct) = w' ∧ ∃ j, x = nI j ∧ lv j = true ∧ v = some (.int (nI (lev j)))) (fun E => E = "java/lang/IndexOutOfBoundsException" ∧ ∀ j, lv j = true → x ≠ nI j) (1) (6) := by
  refine ct_of (by decide) (Nat.le_of_ble_eq_true rfl) ?_
  intro p e s m below meth c ls F hr hlk hnm hex hE hW hl
  have hx := F.1
  have hb := F.2.1
  have hS : va_S A s.heap s.heap [] := va_S.rf
  have hl : lv_has ls 2 [(0, .ref (ad (0, 0))), (1, .int x)] := hl
  have hI0 := hI
  obtain ⟨hP, hQ, hCu, hkc, hsum, ht, hep, hkt⟩ := hI
  have hb9 : nb ≤ 513 := by omega
  have hwn9 : wn ≤ 513 := by omega
  obtain ⟨hfr1, hfr2, hfr3⟩ := fr_spec hP hb9
  refine lv_aload_n hx hb dX2_level_0 rfl (lv_at hl 0 rfl) ?_
  refine lv_iload_n hx hb dX2_level_1 rfl (lv_at hl 1 rfl) ?_
  refine kc_V 1 (c_X2_pageOf l G A ad dm ct lv lev lo hi ri sz ky vl go rt ep wq wn cn op cl ca ce kc nb hst hH (fun j hj => by have := (hP.1 j hj).1; omega) x) F hE hW hS (0, 0) hH.1.1 hH.2.1 rfl [.int x] rfl kw_525 kw_527 kp_14 kw_1 kw_528 (by decide +kernel) rfl ⟨rfl, rfl⟩ ⟨Nat.le_of_ble_eq_true rfl, Nat.le_of_ble_eq_true rfl⟩ hl.1 rfl (Nat.le_of_ble_eq_true rfl) dX2_level_2 ⟨(Nat.le_of_ble_eq_true rfl), (Nat.le_of_ble_eq_true rfl)⟩ (fun E q9 ce H locs hpx hW hS hce hcv hcl => kr_x hex hlk hW hS hce hcv hcl (Nat.le_of_ble_eq_true rfl) (Nat.le_of_ble_eq_true rfl) (hpx)) (fun v w' H locs hp hW hS => ?_)
  obtain ⟨rfl, j, rfl, hv, rfl⟩ := hp
  obtain ⟨u1, u2, u3, u4, u5, u6⟩ := pg_bd hP hb9 hv
  obtain ⟨kf1, vf1, cf1, ta1, hPp1, hCp1, hTp1⟩ := hH.2.2.2.2.2.2.1 j hv
  refine kg F hE hW (1, j) hPp1.1.1 rfl hPp1.2.1 rfl inA_X1 1 (by decide) kw_66 (v := .int (nI (lev j))) rfl dX2_level_5 ?_
  exact kr_i F hr hlk hE hW hS (Nat.le_of_ble_eq_true rfl) (Nat.le_of_ble_eq_true rfl) dX2_level_8 (⟨rfl, j, rfl, hv, rfl⟩)
set_option maxRecDepth 100000 in
set_option maxHeartbeats 4000000 in
theorem c_X2_size (l : Launch) (G : GG) (A : Nat → Prop) (ad : Lb → Nat) (dm : Lb → Prop) (ct : Lb → va_E) (lv : Nat → Bool) (lev : Nat → Nat) (lo : Nat → Nat) (hi : Nat → Nat) (ri : Nat → Option Nat) (sz : Nat → Nat) (ky : Nat → Nat) (vl : Nat → Nat) (go : Nat → Option Nat) (rt : Nat) (ep : Nat) (wq : Nat → Nat) (wn : Nat) (cn : Nat) (op : Nat → Bool) (cl : Nat → Nat) (ca : Nat → Nat) (ce : Nat → Nat) (kc : Nat) (nb : Nat) (hst : l.stackTraces = false) (hH : HKF G ad dm ct lv lev lo hi ri sz ky vl go rt ep wq wn cn op cl ca ce kc nb) (t0 : Nat) (hI : InvF lv lev lo hi ri sz ky vl go rt ep wq wn cn op cl ca ce kc nb 800 t0) (x : Int32) :
    CT l yX2_size cX2_size 2 (some FieldType.int) { frames := 7, cells := 1, slots := 6, locals := 122 } [.ref (ad (0, 0)), .int x] G A (ad, dm, ct) (fun v w' => (ad, dm, ct) = w' ∧ ∃ j, x = nI j ∧ lv j = true ∧ v = some (.int (nI (sz j)))) (fun E => E = "java/lang/IndexOutOfBoundsException" ∧ ∀ j, lv j = true → x ≠ nI j) (1) (6) := by
  refine ct_of (by decide) (Nat.le_of_ble_eq_true rfl) ?_
  intro p e s m below meth c ls F hr hlk hnm hex hE hW hl
  have hx := F.1
  have hb := F.2.1
  have hS : va_S A s.heap s.heap [] := va_S.rf
  have hl : lv_has ls 2 [(0, .ref (ad (0, 0))), (1, .int x)] := hl
  have hI0 := hI
  obtain ⟨hP, hQ, hCu, hkc, hsum, ht, hep, hkt⟩ := hI
  have hb9 : nb ≤ 513 := by omega
  have hwn9 : wn ≤ 513 := by omega
  obtain ⟨hfr1, hfr2, hfr3⟩ := fr_spec hP hb9
  refine lv_aload_n hx hb dX2_size_0 rfl (lv_at hl 0 rfl) ?_
  refine lv_iload_n hx hb dX2_size_1 rfl (lv_at hl 1 rfl) ?_
  refine kc_V 1 (c_X2_pageOf l G A ad dm ct lv lev lo hi ri sz ky vl go rt ep wq wn cn op cl ca ce kc nb hst hH (fun j hj => by have := (hP.1 j hj).1; omega) x) F hE hW hS (0, 0) hH.1.1 hH.2.1 rfl [.int x] rfl kw_525 kw_527 kp_14 kw_1 kw_528 (by decide +kernel) rfl ⟨rfl, rfl⟩ ⟨Nat.le_of_ble_eq_true rfl, Nat.le_of_ble_eq_true rfl⟩ hl.1 rfl (Nat.le_of_ble_eq_true rfl) dX2_size_2 ⟨(Nat.le_of_ble_eq_true rfl), (Nat.le_of_ble_eq_true rfl)⟩ (fun E q9 ce H locs hpx hW hS hce hcv hcl => kr_x hex hlk hW hS hce hcv hcl (Nat.le_of_ble_eq_true rfl) (Nat.le_of_ble_eq_true rfl) (hpx)) (fun v w' H locs hp hW hS => ?_)
  obtain ⟨rfl, j, rfl, hv, rfl⟩ := hp
  obtain ⟨u1, u2, u3, u4, u5, u6⟩ := pg_bd hP hb9 hv
  obtain ⟨kf1, vf1, cf1, ta1, hPp1, hCp1, hTp1⟩ := hH.2.2.2.2.2.2.1 j hv
  refine kg F hE hW (1, j) hPp1.1.1 rfl hPp1.2.1 rfl inA_X1 6 (by decide) kw_73 (v := .int (nI (sz j))) rfl dX2_size_5 ?_
  exact kr_i F hr hlk hE hW hS (Nat.le_of_ble_eq_true rfl) (Nat.le_of_ble_eq_true rfl) dX2_size_8 (⟨rfl, j, rfl, hv, rfl⟩)
set_option maxRecDepth 100000 in
set_option maxHeartbeats 4000000 in
theorem c_X2_high (l : Launch) (G : GG) (A : Nat → Prop) (ad : Lb → Nat) (dm : Lb → Prop) (ct : Lb → va_E) (lv : Nat → Bool) (lev : Nat → Nat) (lo : Nat → Nat) (hi : Nat → Nat) (ri : Nat → Option Nat) (sz : Nat → Nat) (ky : Nat → Nat) (vl : Nat → Nat) (go : Nat → Option Nat) (rt : Nat) (ep : Nat) (wq : Nat → Nat) (wn : Nat) (cn : Nat) (op : Nat → Bool) (cl : Nat → Nat) (ca : Nat → Nat) (ce : Nat → Nat) (kc : Nat) (nb : Nat) (hst : l.stackTraces = false) (hH : HKF G ad dm ct lv lev lo hi ri sz ky vl go rt ep wq wn cn op cl ca ce kc nb) (t0 : Nat) (hI : InvF lv lev lo hi ri sz ky vl go rt ep wq wn cn op cl ca ce kc nb 800 t0) (x : Int32) :
    CT l yX2_high cX2_high 2 (some FieldType.int) { frames := 7, cells := 1, slots := 6, locals := 122 } [.ref (ad (0, 0)), .int x] G A (ad, dm, ct) (fun v w' => (ad, dm, ct) = w' ∧ ∃ j, x = nI j ∧ lv j = true ∧ v = some (.int (nI (hi j)))) (fun E => E = "java/lang/IndexOutOfBoundsException" ∧ ∀ j, lv j = true → x ≠ nI j) (1) (6) := by
  refine ct_of (by decide) (Nat.le_of_ble_eq_true rfl) ?_
  intro p e s m below meth c ls F hr hlk hnm hex hE hW hl
  have hx := F.1
  have hb := F.2.1
  have hS : va_S A s.heap s.heap [] := va_S.rf
  have hl : lv_has ls 2 [(0, .ref (ad (0, 0))), (1, .int x)] := hl
  have hI0 := hI
  obtain ⟨hP, hQ, hCu, hkc, hsum, ht, hep, hkt⟩ := hI
  have hb9 : nb ≤ 513 := by omega
  have hwn9 : wn ≤ 513 := by omega
  obtain ⟨hfr1, hfr2, hfr3⟩ := fr_spec hP hb9
  refine lv_aload_n hx hb dX2_high_0 rfl (lv_at hl 0 rfl) ?_
  refine lv_iload_n hx hb dX2_high_1 rfl (lv_at hl 1 rfl) ?_
  refine kc_V 1 (c_X2_pageOf l G A ad dm ct lv lev lo hi ri sz ky vl go rt ep wq wn cn op cl ca ce kc nb hst hH (fun j hj => by have := (hP.1 j hj).1; omega) x) F hE hW hS (0, 0) hH.1.1 hH.2.1 rfl [.int x] rfl kw_525 kw_527 kp_14 kw_1 kw_528 (by decide +kernel) rfl ⟨rfl, rfl⟩ ⟨Nat.le_of_ble_eq_true rfl, Nat.le_of_ble_eq_true rfl⟩ hl.1 rfl (Nat.le_of_ble_eq_true rfl) dX2_high_2 ⟨(Nat.le_of_ble_eq_true rfl), (Nat.le_of_ble_eq_true rfl)⟩ (fun E q9 ce H locs hpx hW hS hce hcv hcl => kr_x hex hlk hW hS hce hcv hcl (Nat.le_of_ble_eq_true rfl) (Nat.le_of_ble_eq_true rfl) (hpx)) (fun v w' H locs hp hW hS => ?_)
  obtain ⟨rfl, j, rfl, hv, rfl⟩ := hp
  obtain ⟨u1, u2, u3, u4, u5, u6⟩ := pg_bd hP hb9 hv
  obtain ⟨kf1, vf1, cf1, ta1, hPp1, hCp1, hTp1⟩ := hH.2.2.2.2.2.2.1 j hv
  refine kg F hE hW (1, j) hPp1.1.1 rfl hPp1.2.1 rfl inA_X1 7 (by decide) kw_75 (v := .int (nI (hi j))) rfl dX2_high_5 ?_
  exact kr_i F hr hlk hE hW hS (Nat.le_of_ble_eq_true rfl) (Nat.le_of_ble_eq_true rfl) dX2_high_8 (⟨rfl, j, rfl, hv, rfl⟩)
set_option maxRecDepth 100000 in
set_option maxHeartbeats 4000000 in
theorem c_X2_right (l : Launch) (G : GG) (A : Nat → Prop) (ad : Lb → Nat) (dm : Lb → Prop) (ct : Lb → va_E) (lv : Nat → Bool) (lev : Nat → Nat) (lo : Nat → Nat) (hi : Nat → Nat) (ri : Nat → Option Nat) (sz : Nat → Nat) (ky : Nat → Nat) (vl : Nat → Nat) (go : Nat → Option Nat) (rt : Nat) (ep : Nat) (wq : Nat → Nat) (wn : Nat) (cn : Nat) (op : Nat → Bool) (cl : Nat → Nat) (ca : Nat → Nat) (ce : Nat → Nat) (kc : Nat) (nb : Nat) (hst : l.stackTraces = false) (hH : HKF G ad dm ct lv lev lo hi ri sz ky vl go rt ep wq wn cn op cl ca ce kc nb) (t0 : Nat) (hI : InvF lv lev lo hi ri sz ky vl go rt ep wq wn cn op cl ca ce kc nb 800 t0) (x : Int32) :
    CT l yX2_right cX2_right 2 (some FieldType.int) { frames := 7, cells := 1, slots := 6, locals := 122 } [.ref (ad (0, 0)), .int x] G A (ad, dm, ct) (fun v w' => (ad, dm, ct) = w' ∧ ∃ j, x = nI j ∧ lv j = true ∧ v = some (.int (oI (ri j)))) (fun E => E = "java/lang/IndexOutOfBoundsException" ∧ ∀ j, lv j = true → x ≠ nI j) (1) (6) := by
  refine ct_of (by decide) (Nat.le_of_ble_eq_true rfl) ?_
  intro p e s m below meth c ls F hr hlk hnm hex hE hW hl
  have hx := F.1
  have hb := F.2.1
  have hS : va_S A s.heap s.heap [] := va_S.rf
  have hl : lv_has ls 2 [(0, .ref (ad (0, 0))), (1, .int x)] := hl
  have hI0 := hI
  obtain ⟨hP, hQ, hCu, hkc, hsum, ht, hep, hkt⟩ := hI
  have hb9 : nb ≤ 513 := by omega
  have hwn9 : wn ≤ 513 := by omega
  obtain ⟨hfr1, hfr2, hfr3⟩ := fr_spec hP hb9
  refine lv_aload_n hx hb dX2_right_0 rfl (lv_at hl 0 rfl) ?_
  refine lv_iload_n hx hb dX2_right_1 rfl (lv_at hl 1 rfl) ?_
  refine kc_V 1 (c_X2_pageOf l G A ad dm ct lv lev lo hi ri sz ky vl go rt ep wq wn cn op cl ca ce kc nb hst hH (fun j hj => by have := (hP.1 j hj).1; omega) x) F hE hW hS (0, 0) hH.1.1 hH.2.1 rfl [.int x] rfl kw_525 kw_527 kp_14 kw_1 kw_528 (by decide +kernel) rfl ⟨rfl, rfl⟩ ⟨Nat.le_of_ble_eq_true rfl, Nat.le_of_ble_eq_true rfl⟩ hl.1 rfl (Nat.le_of_ble_eq_true rfl) dX2_right_2 ⟨(Nat.le_of_ble_eq_true rfl), (Nat.le_of_ble_eq_true rfl)⟩ (fun E q9 ce H locs hpx hW hS hce hcv hcl => kr_x hex hlk hW hS hce hcv hcl (Nat.le_of_ble_eq_true rfl) (Nat.le_of_ble_eq_true rfl) (hpx)) (fun v w' H locs hp hW hS => ?_)
  obtain ⟨rfl, j, rfl, hv, rfl⟩ := hp
  obtain ⟨u1, u2, u3, u4, u5, u6⟩ := pg_bd hP hb9 hv
  obtain ⟨kf1, vf1, cf1, ta1, hPp1, hCp1, hTp1⟩ := hH.2.2.2.2.2.2.1 j hv
  cases hr9 : ri j with
  | none =>
    refine kg F hE hW (1, j) hPp1.1.1 rfl hPp1.2.1 rfl inA_X1 8 (by decide) kw_77 (v := .null) (by show some (va_rf (rA ad ri j)) = _; unfold rA; rw [hr9]; rfl) dX2_right_5 ?_
    refine kc_S 1 (c_X2_numberOfN l G A ad dm ct) F hE hW hS kw_542 kw_543 kw_1 kw_544 (by decide +kernel) rfl ⟨rfl, rfl⟩ ⟨Nat.le_of_ble_eq_true rfl, Nat.le_of_ble_eq_true rfl⟩ hl.1 rfl (Nat.le_of_ble_eq_true rfl) dX2_right_8 ⟨Nat.le_of_ble_eq_true rfl, Nat.le_of_ble_eq_true rfl⟩ (fun _ _ _ _ _ h => h.elim) (fun v w' H locs hp hW hS => ?_)
    obtain ⟨rfl, rfl⟩ := hp
    exact kr_i F hr hlk hE hW hS (Nat.le_of_ble_eq_true rfl) (Nat.le_of_ble_eq_true rfl) dX2_right_11 (⟨rfl, j, rfl, hv, by rw [hr9]; rfl⟩)
  | some rz =>
    have hrz := (hP.2.2.2.1 j rz hv hr9).1
    refine kg F hE hW (1, j) hPp1.1.1 rfl hPp1.2.1 rfl inA_X1 8 (by decide) kw_77 (v := .ref (ad (1, rz))) (by show some (va_rf (rA ad ri j)) = _; unfold rA; rw [hr9]; rfl) dX2_right_5 ?_
    refine kc_S 1 (c_X2_numberOf l G A ad dm ct lv lev lo hi ri sz ky vl go rt ep wq wn cn op cl ca ce kc nb hH rz hrz) F hE hW hS kw_542 kw_543 kw_1 kw_544 (by decide +kernel) rfl ⟨rfl, rfl⟩ ⟨Nat.le_of_ble_eq_true rfl, Nat.le_of_ble_eq_true rfl⟩ hl.1 rfl (Nat.le_of_ble_eq_true rfl) dX2_right_8 ⟨Nat.le_of_ble_eq_true rfl, Nat.le_of_ble_eq_true rfl⟩ (fun _ _ _ _ _ h => h.elim) (fun v w' H locs hp hW hS => ?_)
    obtain ⟨rfl, rfl⟩ := hp
    exact kr_i F hr hlk hE hW hS (Nat.le_of_ble_eq_true rfl) (Nat.le_of_ble_eq_true rfl) dX2_right_11 (⟨rfl, j, rfl, hv, by rw [hr9]; rfl⟩)
set_option maxRecDepth 100000 in
set_option maxHeartbeats 4000000 in
theorem c_X2_keyAt (l : Launch) (G : GG) (A : Nat → Prop) (ad : Lb → Nat) (dm : Lb → Prop) (ct : Lb → va_E) (lv : Nat → Bool) (lev : Nat → Nat) (lo : Nat → Nat) (hi : Nat → Nat) (ri : Nat → Option Nat) (sz : Nat → Nat) (ky : Nat → Nat) (vl : Nat → Nat) (go : Nat → Option Nat) (rt : Nat) (ep : Nat) (wq : Nat → Nat) (wn : Nat) (cn : Nat) (op : Nat → Bool) (cl : Nat → Nat) (ca : Nat → Nat) (ce : Nat → Nat) (kc : Nat) (nb : Nat) (hst : l.stackTraces = false) (hH : HKF G ad dm ct lv lev lo hi ri sz ky vl go rt ep wq wn cn op cl ca ce kc nb) (t0 : Nat) (hI : InvF lv lev lo hi ri sz ky vl go rt ep wq wn cn op cl ca ce kc nb 800 t0) (x y : Int32) :
    CT l yX2_keyAt cX2_keyAt 4 (some FieldType.int) { frames := 7, cells := 2, slots := 12, locals := 122 } [.ref (ad (0, 0)), .int x, .int y] G A (ad, dm, ct) (fun v w' => (ad, dm, ct) = w' ∧ ∃ j k9, x = nI j ∧ lv j = true ∧ k9 < 2 ^ 31 ∧ y = nI k9 ∧ v = some (.int (oI (kyA sz ky j k9)))) (fun E => E = "java/lang/IndexOutOfBoundsException" ∧ ((∀ j, lv j = true → x ≠ nI j) ∨ y < nI 0)) (2) (12) := by
  refine ct_of (by decide) (Nat.le_of_ble_eq_true rfl) ?_
  intro p e s m below meth c ls F hr hlk hnm hex hE hW hl
  have hx := F.1
  have hb := F.2.1
  have hS : va_S A s.heap s.heap [] := va_S.rf
  have hl : lv_has ls 4 [(0, .ref (ad (0, 0))), (1, .int x), (2, .int y)] := hl
  have hI0 := hI
  obtain ⟨hP, hQ, hCu, hkc, hsum, ht, hep, hkt⟩ := hI
  have hb9 : nb ≤ 513 := by omega
  have hwn9 : wn ≤ 513 := by omega
  obtain ⟨hfr1, hfr2, hfr3⟩ := fr_spec hP hb9
  refine lv_aload_n hx hb dX2_keyAt_0 rfl (lv_at hl 0 rfl) ?_
  refine lv_iload_n hx hb dX2_keyAt_1 rfl (lv_at hl 1 rfl) ?_
  refine kc_V 1 (c_X2_pageOf l G A ad dm ct lv lev lo hi ri sz ky vl go rt ep wq wn cn op cl ca ce kc nb hst hH (fun j hj => by have := (hP.1 j hj).1; omega) x) F hE hW hS (0, 0) hH.1.1 hH.2.1 rfl [.int x] rfl kw_525 kw_527 kp_14 kw_1 kw_528 (by decide +kernel) rfl ⟨rfl, rfl⟩ ⟨Nat.le_of_ble_eq_true rfl, Nat.le_of_ble_eq_true rfl⟩ hl.1 rfl (Nat.le_of_ble_eq_true rfl) dX2_keyAt_2 ⟨Nat.le_of_ble_eq_true rfl, Nat.le_of_ble_eq_true rfl⟩ (fun E q9 ce H locs hpx hW hS hce hcv hcl => kr_x hex hlk hW hS hce hcv hcl (Nat.le_of_ble_eq_true rfl) (Nat.le_of_ble_eq_true rfl) ⟨hpx.1, Or.inl hpx.2⟩) (fun v w' H locs hp hW hS => ?_)
  obtain ⟨rfl, j, rfl, hv, rfl⟩ := hp
  obtain ⟨u1, u2, u3, u4, u5, u6⟩ := pg_bd hP hb9 hv
  obtain ⟨kf1, vf1, cf1, ta1, hPp1, hCp1, hTp1⟩ := hH.2.2.2.2.2.2.1 j hv
  refine lv_astore_n (lv' := [(3, .ref (ad (1, j))), (0, .ref (ad (0, 0))), (1, .int (nI j)), (2, .int y)]) hx hb dX2_keyAt_5 rfl hl (by decide) rfl (fun ls hl => ?_)
  refine lv_iload_n hx hb dX2_keyAt_6 rfl (lv_at hl 3 rfl) ?_
  refine kc_S 1 (c_X2_checkPlace l G A ad dm ct hst y) F hE hW hS kw_549 kw_550 kw_1 kw_551 (by decide +kernel) rfl ⟨rfl, rfl⟩ ⟨Nat.le_of_ble_eq_true rfl, Nat.le_of_ble_eq_true rfl⟩ hl.1 rfl (Nat.le_of_ble_eq_true rfl) dX2_keyAt_7 ⟨Nat.le_of_ble_eq_true rfl, Nat.le_of_ble_eq_true rfl⟩ (fun E q9 ce H locs hpx hW hS hce hcv hcl => kr_x hex hlk hW hS hce hcv hcl (Nat.le_of_ble_eq_true rfl) (Nat.le_of_ble_eq_true rfl) ⟨hpx.1, Or.inr hpx.2⟩) (fun v w' H locs hp hW hS => ?_)
  obtain ⟨rfl, rfl, k9, hk9, rfl⟩ := hp
  refine lv_aload_n hx hb dX2_keyAt_10 rfl (lv_at hl 0 rfl) ?_
  refine lv_iload_n hx hb dX2_keyAt_11 rfl (lv_at hl 3 rfl) ?_
  refine kc_V 1 (c_X1_keyIn l G A ad dm ct j (lev j) (lo j) (sz j) (hi j) (rA ad ri j) (dI go j) ta1 kf1 vf1 cf1 hPp1 u5 (nI k9)) F hE hW hS (1, j) hPp1.1.1 hPp1.2.1 rfl [.int (nI k9)] rfl kw_553 kw_204 kw_205 kw_5 kw_206 (by decide +kernel) rfl ⟨rfl, rfl⟩ ⟨Nat.le_of_ble_eq_true rfl, Nat.le_of_ble_eq_true rfl⟩ hl.1 rfl (Nat.le_of_ble_eq_true rfl) dX2_keyAt_12 ⟨Nat.le_of_ble_eq_true rfl, Nat.le_of_ble_eq_true rfl⟩ (fun _ _ _ _ _ h => h.elim) (fun v w' H locs hp hW hS => ?_)
  obtain ⟨rfl, ⟨i9, hi9, he9, rfl⟩ | ⟨rfl, hno⟩⟩ := hp
  · obtain rfl : k9 = i9 := nI_inj hk9 (by omega) he9
    exact kr_i F hr hlk hE hW hS (Nat.le_of_ble_eq_true rfl) (Nat.le_of_ble_eq_true rfl) dX2_keyAt_15 (⟨rfl, j, k9, rfl, hv, hk9, rfl, by rw [(hCp1 k9 hi9).1]; unfold kyA; rw [if_pos hi9]; rfl⟩)
  · exact kr_i F hr hlk hE hW hS (Nat.le_of_ble_eq_true rfl) (Nat.le_of_ble_eq_true rfl) dX2_keyAt_15 (⟨rfl, j, k9, rfl, hv, hk9, rfl, by unfold kyA; rw [if_neg (fun h => hno k9 h rfl)]; rfl⟩)
set_option maxRecDepth 100000 in
set_option maxHeartbeats 4000000 in
theorem c_X2_below (l : Launch) (G : GG) (A : Nat → Prop) (ad : Lb → Nat) (dm : Lb → Prop) (ct : Lb → va_E) (lv : Nat → Bool) (lev : Nat → Nat) (lo : Nat → Nat) (hi : Nat → Nat) (ri : Nat → Option Nat) (sz : Nat → Nat) (ky : Nat → Nat) (vl : Nat → Nat) (go : Nat → Option Nat) (rt : Nat) (ep : Nat) (wq : Nat → Nat) (wn : Nat) (cn : Nat) (op : Nat → Bool) (cl : Nat → Nat) (ca : Nat → Nat) (ce : Nat → Nat) (kc : Nat) (nb : Nat) (hst : l.stackTraces = false) (hH : HKF G ad dm ct lv lev lo hi ri sz ky vl go rt ep wq wn cn op cl ca ce kc nb) (t0 : Nat) (hI : InvF lv lev lo hi ri sz ky vl go rt ep wq wn cn op cl ca ce kc nb 800 t0) (x y : Int32) :
    CT l yX2_below cX2_below 4 (some FieldType.int) { frames := 7, cells := 2, slots := 12, locals := 122 } [.ref (ad (0, 0)), .int x, .int y] G A (ad, dm, ct) (fun v w' => (ad, dm, ct) = w' ∧ ∃ j k9, x = nI j ∧ lv j = true ∧ k9 < 2 ^ 31 ∧ y = nI k9 ∧ v = some (.int (oI (blA lev sz vl j k9)))) (fun E => E = "java/lang/IndexOutOfBoundsException" ∧ ((∀ j, lv j = true → x ≠ nI j) ∨ y < nI 0)) (2) (12) := by
  refine ct_of (by decide) (Nat.le_of_ble_eq_true rfl) ?_
  intro p e s m below meth c ls F hr hlk hnm hex hE hW hl
  have hx := F.1
  have hb := F.2.1
  have hS : va_S A s.heap s.heap [] := va_S.rf
  have hl : lv_has ls 4 [(0, .ref (ad (0, 0))), (1, .int x), (2, .int y)] := hl
  have hI0 := hI
  obtain ⟨hP, hQ, hCu, hkc, hsum, ht, hep, hkt⟩ := hI
  have hb9 : nb ≤ 513 := by omega
  have hwn9 : wn ≤ 513 := by omega
  obtain ⟨hfr1, hfr2, hfr3⟩ := fr_spec hP hb9
  refine lv_aload_n hx hb dX2_below_0 rfl (lv_at hl 0 rfl) ?_
  refine lv_iload_n hx hb dX2_below_1 rfl (lv_at hl 1 rfl) ?_
  refine kc_V 1 (c_X2_pageOf l G A ad dm ct lv lev lo hi ri sz ky vl go rt ep wq wn cn op cl ca ce kc nb hst hH (fun j hj => by have := (hP.1 j hj).1; omega) x) F hE hW hS (0, 0) hH.1.1 hH.2.1 rfl [.int x] rfl kw_525 kw_527 kp_14 kw_1 kw_528 (by decide +kernel) rfl ⟨rfl, rfl⟩ ⟨Nat.le_of_ble_eq_true rfl, Nat.le_of_ble_eq_true rfl⟩ hl.1 rfl (Nat.le_of_ble_eq_true rfl) dX2_below_2 ⟨Nat.le_of_ble_eq_true rfl, Nat.le_of_ble_eq_true rfl⟩ (fun E q9 ce H locs hpx hW hS hce hcv hcl => kr_x hex hlk hW hS hce hcv hcl (Nat.le_of_ble_eq_true rfl) (Nat.le_of_ble_eq_true rfl) ⟨hpx.1, Or.inl hpx.2⟩) (fun v w' H locs hp hW hS => ?_)
  obtain ⟨rfl, j, rfl, hv, rfl⟩ := hp
  obtain ⟨u1, u2, u3, u4, u5, u6⟩ := pg_bd hP hb9 hv
  obtain ⟨kf1, vf1, cf1, ta1, hPp1, hCp1, hTp1⟩ := hH.2.2.2.2.2.2.1 j hv
  refine lv_astore_n (lv' := [(3, .ref (ad (1, j))), (0, .ref (ad (0, 0))), (1, .int (nI j)), (2, .int y)]) hx hb dX2_below_5 rfl hl (by decide) rfl (fun ls hl => ?_)
  refine lv_iload_n hx hb dX2_below_6 rfl (lv_at hl 3 rfl) ?_
  refine kc_S 1 (c_X2_checkPlace l G A ad dm ct hst y) F hE hW hS kw_549 kw_550 kw_1 kw_551 (by decide +kernel) rfl ⟨rfl, rfl⟩ ⟨Nat.le_of_ble_eq_true rfl, Nat.le_of_ble_eq_true rfl⟩ hl.1 rfl (Nat.le_of_ble_eq_true rfl) dX2_below_7 ⟨Nat.le_of_ble_eq_true rfl, Nat.le_of_ble_eq_true rfl⟩ (fun E q9 ce H locs hpx hW hS hce hcv hcl => kr_x hex hlk hW hS hce hcv hcl (Nat.le_of_ble_eq_true rfl) (Nat.le_of_ble_eq_true rfl) ⟨hpx.1, Or.inr hpx.2⟩) (fun v w' H locs hp hW hS => ?_)
  obtain ⟨rfl, rfl, k9, hk9, rfl⟩ := hp
  refine lv_aload_n hx hb dX2_below_10 rfl (lv_at hl 0 rfl) ?_
  refine lv_iload_n hx hb dX2_below_11 rfl (lv_at hl 3 rfl) ?_
  refine kc_V 1 (c_X1_pageIn l G A ad dm ct j (lev j) (lo j) (sz j) (hi j) (rA ad ri j) (dI go j) ta1 kf1 vf1 cf1 hPp1 u5 (nI k9)) F hE hW hS (1, j) hPp1.1.1 hPp1.2.1 rfl [.int (nI k9)] rfl kw_478 kw_188 kw_189 kw_5 kw_190 (by decide +kernel) rfl ⟨rfl, rfl⟩ ⟨Nat.le_of_ble_eq_true rfl, Nat.le_of_ble_eq_true rfl⟩ hl.1 rfl (Nat.le_of_ble_eq_true rfl) dX2_below_12 ⟨Nat.le_of_ble_eq_true rfl, Nat.le_of_ble_eq_true rfl⟩ (fun _ _ _ _ _ h => h.elim) (fun v w' H locs hp hW hS => ?_)
  obtain ⟨rfl, ⟨i9, hi9, he9, rfl⟩ | ⟨rfl, hno⟩⟩ := hp
  · obtain rfl : k9 = i9 := nI_inj hk9 (by omega) he9
    rcases Nat.eq_zero_or_pos (lev j) with h0 | h0
    · rw [((hCp1 k9 hi9).2.1 h0).2]
      refine kc_S 1 (c_X2_numberOfN l G A ad dm ct) F hE hW hS kw_542 kw_543 kw_1 kw_544 (by decide +kernel) rfl ⟨rfl, rfl⟩ ⟨Nat.le_of_ble_eq_true rfl, Nat.le_of_ble_eq_true rfl⟩ hl.1 rfl (Nat.le_of_ble_eq_true rfl) dX2_below_15 ⟨Nat.le_of_ble_eq_true rfl, Nat.le_of_ble_eq_true rfl⟩ (fun _ _ _ _ _ h => h.elim) (fun v w' H locs hp hW hS => ?_)
      obtain ⟨rfl, rfl⟩ := hp
      exact kr_i F hr hlk hE hW hS (Nat.le_of_ble_eq_true rfl) (Nat.le_of_ble_eq_true rfl) dX2_below_18 (⟨rfl, j, k9, rfl, hv, hk9, rfl, by unfold blA; rw [if_neg (by omega)]; rfl⟩)
    · rw [(hCp1 k9 hi9).2.2 h0]
      have hcl := ((hP.2.2.2.2.2.1 j (al_lv hP hv h0) h0).2.2 k9 hi9).1.1
      refine kc_S 1 (c_X2_numberOf l G A ad dm ct lv lev lo hi ri sz ky vl go rt ep wq wn cn op cl ca ce kc nb hH (vl (5 * j + k9)) hcl) F hE hW hS kw_542 kw_543 kw_1 kw_544 (by decide +kernel) rfl ⟨rfl, rfl⟩ ⟨Nat.le_of_ble_eq_true rfl, Nat.le_of_ble_eq_true rfl⟩ hl.1 rfl (Nat.le_of_ble_eq_true rfl) dX2_below_15 ⟨Nat.le_of_ble_eq_true rfl, Nat.le_of_ble_eq_true rfl⟩ (fun _ _ _ _ _ h => h.elim) (fun v w' H locs hp hW hS => ?_)
      obtain ⟨rfl, rfl⟩ := hp
      exact kr_i F hr hlk hE hW hS (Nat.le_of_ble_eq_true rfl) (Nat.le_of_ble_eq_true rfl) dX2_below_18 (⟨rfl, j, k9, rfl, hv, hk9, rfl, by unfold blA; rw [if_pos ⟨hi9, h0⟩]; rfl⟩)
  · refine kc_S 1 (c_X2_numberOfN l G A ad dm ct) F hE hW hS kw_542 kw_543 kw_1 kw_544 (by decide +kernel) rfl ⟨rfl, rfl⟩ ⟨Nat.le_of_ble_eq_true rfl, Nat.le_of_ble_eq_true rfl⟩ hl.1 rfl (Nat.le_of_ble_eq_true rfl) dX2_below_15 ⟨Nat.le_of_ble_eq_true rfl, Nat.le_of_ble_eq_true rfl⟩ (fun _ _ _ _ _ h => h.elim) (fun v w' H locs hp hW hS => ?_)
    obtain ⟨rfl, rfl⟩ := hp
    exact kr_i F hr hlk hE hW hS (Nat.le_of_ble_eq_true rfl) (Nat.le_of_ble_eq_true rfl) dX2_below_18 (⟨rfl, j, k9, rfl, hv, hk9, rfl, by unfold blA; rw [if_neg (fun h => hno k9 h.1 rfl)]; rfl⟩)
