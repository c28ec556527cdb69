/-! The reference's small methods. -/
theorem cnt_s1 {n : Nat} {f : Nat → Nat} {c : Nat} (h : f n < c) : cnt (n + 1) f c = n + 1 := if_pos h
theorem cnt_s0 {n : Nat} {f : Nat → Nat} {c : Nat} (h : ¬ f n < c) : cnt (n + 1) f c = cnt n f c := if_neg h
set_option maxRecDepth 100000 in
set_option maxHeartbeats 4000000 in
theorem c_X3_thrown (l : Launch) (G : GG) (A : Nat → Prop) (ad : Lb → Nat) (dm : Lb → Prop) (ct0 : Lb → va_E) (lv : Nat → Bool) (lev : Nat → Nat) (lo : Nat → Nat) (hi : Nat → Nat) (ri : Nat → Option Nat) (sz : Nat → Nat) (ky : Nat → Nat) (vl : Nat → Nat) (go : Nat → Option Nat) (rt : Nat) (ep : Nat) (wq : Nat → Nat) (wn : Nat) (cn : Nat) (op : Nat → Bool) (cl : Nat → Nat) (ca : Nat → Nat) (ce : Nat → Nat) (kc : Nat) (nb : Nat) (th fo : Nat) (hM : MDF G ad dm ct0 lv lev lo hi ri sz ky vl go rt ep wq wn cn op cl ca ce kc nb th fo)  :
    CT l yX3_thrown cX3_thrown 1 (some FieldType.int) { frames := 0, cells := 0, slots := 0, locals := 0 } [.ref (ad (10, 0))] G A (ad, dm, ct0) (fun v w' => (ad, dm, ct0) = w' ∧ v = some (.int (nI th))) (fun _ => False) (0) (0) := by
  refine ct_of (by decide) (Nat.le_of_ble_eq_true rfl) ?_
  intro p e s m below meth c ls F hr hlk hnm hex hE hW hl
  have hx := F.1
  have hb := F.2.1
  have hS : va_S A s.heap s.heap [] := va_S.rf
  have hl : lv_has ls 1 [(0, .ref (ad (10, 0)))] := hl
  have hX : XM ct0 ct0 := XM.rf
  refine lv_aload_n hx hb dX3_thrown_0 rfl (lv_at hl 0 rfl) ?_
  refine kg F hE hW (10, 0) (hM.1 0 (by decide)) rfl hM.2.1 rfl inA_X3 0 (by decide) kw_606 (v := .int (nI th)) rfl dX3_thrown_1 ?_
  exact kr_i F hr hlk hE hW hS (Nat.le_of_ble_eq_true rfl) (Nat.le_of_ble_eq_true rfl) dX3_thrown_4 (⟨rfl, rfl⟩)
set_option maxRecDepth 100000 in
set_option maxHeartbeats 4000000 in
theorem c_X3_holds (l : Launch) (G : GG) (A : Nat → Prop) (ad : Lb → Nat) (dm : Lb → Prop) (ct0 : Lb → va_E) (lv : Nat → Bool) (lev : Nat → Nat) (lo : Nat → Nat) (hi : Nat → Nat) (ri : Nat → Option Nat) (sz : Nat → Nat) (ky : Nat → Nat) (vl : Nat → Nat) (go : Nat → Option Nat) (rt : Nat) (ep : Nat) (wq : Nat → Nat) (wn : Nat) (cn : Nat) (op : Nat → Bool) (cl : Nat → Nat) (ca : Nat → Nat) (ce : Nat → Nat) (kc : Nat) (nb : Nat) (th fo : Nat) (hM : MDF G ad dm ct0 lv lev lo hi ri sz ky vl go rt ep wq wn cn op cl ca ce kc nb th fo) (q : Nat) (hq : q < 100) :
    CT l yX3_holds cX3_holds 2 (some FieldType.boolean) { frames := 0, cells := 0, slots := 0, locals := 0 } [.ref (ad (10, 0)), .int (nI q)] G A (ad, dm, ct0) (fun v w' => ∃ ct', w' = (ad, dm, ct') ∧ MDF G ad dm ct' lv lev lo hi ri sz ky vl go rt ep wq wn cn op cl ca ce kc nb q fo ∧ XM ct0 ct' ∧ ((q = 0 ∧ v = some (.int (nI 1))) ∨ (0 < q ∧ v = some (.int (nI 0))))) (fun _ => False) (0) (0) := by
  refine ct_of (by decide) (Nat.le_of_ble_eq_true rfl) ?_
  intro p e s m below meth c ls F hr hlk hnm hex hE hW hl
  have hx := F.1
  have hb := F.2.1
  have hS : va_S A s.heap s.heap [] := va_S.rf
  have hl : lv_has ls 2 [(0, .ref (ad (10, 0))), (1, .int (nI q))] := hl
  have hX : XM ct0 ct0 := XM.rf
  refine lv_aload_n hx hb dX3_holds_0 rfl (lv_at hl 0 rfl) ?_
  refine lv_iload_n hx hb dX3_holds_1 rfl (lv_at hl 1 rfl) ?_
  refine mp_th (v := q) F hE hW hS hM kw_606 dX3_holds_2 (fun ct H locs hW hM hX0 hS => ?_)
  have hX := hX.tr hX0
  refine lv_iload_n hx hb dX3_holds_5 rfl (lv_at hl 1 rfl) ?_
  refine nz_ne (tgt := 13) hx hb dX3_holds_6 (by decide) (by omega) (fun c => ?_) (fun c => ?_)
  · refine lv_iconst (v := nI 0) hx hb dX3_holds_13 (by decide) ?_
    exact kr_z F hr hlk hE hW hS (Nat.le_of_ble_eq_true rfl) (Nat.le_of_ble_eq_true rfl) rfl dX3_holds_14 (⟨_, rfl, hM, hX, Or.inr ⟨Nat.pos_of_ne_zero c, rfl⟩⟩)
  · refine lv_iconst (v := nI 1) hx hb dX3_holds_9 (by decide) ?_
    refine lv_goto (tgt := 14) hx hb dX3_holds_10 (by decide) ?_
    exact kr_z F hr hlk hE hW hS (Nat.le_of_ble_eq_true rfl) (Nat.le_of_ble_eq_true rfl) rfl dX3_holds_14 (⟨_, rfl, hM, hX, Or.inl ⟨c, rfl⟩⟩)
set_option maxRecDepth 100000 in
set_option maxHeartbeats 4000000 in
theorem c_X3_in (l : Launch) (G : GG) (A : Nat → Prop) (ad : Lb → Nat) (dm : Lb → Prop) (ct : Lb → va_E) (x : Int32) (b : Nat) (hb9 : b < 100000) :
    CT l yX3_in cX3_in 3 (some FieldType.boolean) { frames := 0, cells := 0, slots := 0, locals := 0 } [.int x, .int (nI 0), .int (lI b)] G A (ad, dm, ct) (fun v w' => (ad, dm, ct) = w' ∧ ((v = some (.int (nI 1)) ∧ ∃ j, j < b ∧ x = nI j) ∨ (v = some (.int (nI 0)) ∧ ∀ j, j < b → x ≠ nI j))) (fun _ => False) (0) (0) := by
  refine ct_of (by decide) (Nat.le_of_ble_eq_true rfl) ?_
  intro p e s m below meth c ls F hr hlk hnm hex hE hW hl
  have hx := F.1
  have hb := F.2.1
  have hS : va_S A s.heap s.heap [] := va_S.rf
  have hl : lv_has ls 3 [(0, .int x), (1, .int (nI 0)), (2, .int (lI b))] := hl
  refine lv_iload_n hx hb dX3_in_0 rfl (lv_at hl 0 rfl) ?_
  refine lv_iload_n hx hb dX3_in_1 rfl (lv_at hl 1 rfl) ?_
  refine lv_icmp_lt (tgt := 14) hx hb dX3_in_2 (by decide) (fun c1 => ?_) (fun c1 => ?_)
  · refine lv_iconst (v := nI 0) hx hb dX3_in_14 (by decide) ?_
    exact kr_z F hr hlk hE hW hS (Nat.le_of_ble_eq_true rfl) (Nat.le_of_ble_eq_true rfl) rfl dX3_in_15 (⟨rfl, Or.inr ⟨rfl, fun j hj e => absurd c1 (by rw [e]; exact nI_nlt (Nat.zero_le _) (by omega))⟩⟩)
  · obtain ⟨j, hj, rfl⟩ := nI_of c1
    refine lv_iload_n hx hb dX3_in_5 rfl (lv_at hl 0 rfl) ?_
    refine lv_iload_n hx hb dX3_in_6 rfl (lv_at hl 2 rfl) ?_
    refine lv_icmp_gt (tgt := 14) hx hb dX3_in_7 (by decide) (fun c2 => ?_) (fun c2 => ?_)
    · refine lv_iconst (v := nI 0) hx hb dX3_in_14 (by decide) ?_
      exact kr_z F hr hlk hE hW hS (Nat.le_of_ble_eq_true rfl) (Nat.le_of_ble_eq_true rfl) rfl dX3_in_15 (⟨rfl, Or.inr ⟨rfl, fun i hi e => absurd c2 (by rw [e, Int32.not_lt]; exact (lI_nI_le (by omega) (by omega)).mpr hi)⟩⟩)
    · refine lv_iconst (v := nI 1) hx hb dX3_in_10 (by decide) ?_
      refine lv_goto (tgt := 15) hx hb dX3_in_11 (by decide) ?_
      exact kr_z F hr hlk hE hW hS (Nat.le_of_ble_eq_true rfl) (Nat.le_of_ble_eq_true rfl) rfl dX3_in_15 (⟨rfl, Or.inl ⟨rfl, j, (lI_nI_le (by omega) (by omega)).mp (Int32.not_lt.mp c2), rfl⟩⟩)
set_option maxRecDepth 100000 in
set_option maxHeartbeats 4000000 in
theorem c_X3_isKey (l : Launch) (G : GG) (A : Nat → Prop) (ad : Lb → Nat) (dm : Lb → Prop) (ct : Lb → va_E) (x : Int32) :
    CT l yX3_isKey cX3_isKey 1 (some FieldType.boolean) { frames := 1, cells := 0, slots := 0, locals := 22 } [.int x] G A (ad, dm, ct) (fun v w' => (ad, dm, ct) = w' ∧ ((v = some (.int (nI 1)) ∧ ∃ j, j < 200 ∧ x = nI j) ∨ (v = some (.int (nI 0)) ∧ ∀ j, j < 200 → x ≠ nI j))) (fun _ => False) (0) (0) := by
  refine ct_of (by decide) (Nat.le_of_ble_eq_true rfl) ?_
  intro p e s m below meth c ls F hr hlk hnm hex hE hW hl
  have hx := F.1
  have hb := F.2.1
  have hS : va_S A s.heap s.heap [] := va_S.rf
  have hl : lv_has ls 1 [(0, .int x)] := hl
  refine lv_iload_n hx hb dX3_isKey_0 rfl (lv_at hl 0 rfl) ?_
  refine lv_iconst (v := nI 0) hx hb dX3_isKey_1 (by decide) ?_
  refine lv_sipush (v := nI 199) hx hb dX3_isKey_2 (by decide) ?_
  refine ktop (y := lI 200) (by decide) ?_
  refine kc_S 3 (c_X3_in l G A ad dm ct x 200 (by decide)) F hE hW hS kw_679 kw_680 kw_6 kw_681 (by decide +kernel) rfl ⟨rfl, rfl⟩ ⟨Nat.le_of_ble_eq_true rfl, Nat.le_of_ble_eq_true rfl⟩ hl.1 rfl (Nat.le_of_ble_eq_true rfl) dX3_isKey_5 ⟨Nat.le_of_ble_eq_true rfl, Nat.le_of_ble_eq_true rfl⟩ (fun _ _ _ _ _ h => h.elim) (fun v w' H locs hp hW hS => ?_)
  obtain ⟨rfl, ⟨rfl, hp⟩ | ⟨rfl, hp⟩⟩ := hp
  · exact kr_z F hr hlk hE hW hS (Nat.le_of_ble_eq_true rfl) (Nat.le_of_ble_eq_true rfl) rfl dX3_isKey_8 (⟨rfl, Or.inl ⟨rfl, hp⟩⟩)
  · exact kr_z F hr hlk hE hW hS (Nat.le_of_ble_eq_true rfl) (Nat.le_of_ble_eq_true rfl) rfl dX3_isKey_8 (⟨rfl, Or.inr ⟨rfl, hp⟩⟩)
set_option maxRecDepth 100000 in
set_option maxHeartbeats 4000000 in
theorem c_X3_place (l : Launch) (G : GG) (A : Nat → Prop) (ad : Lb → Nat) (dm : Lb → Prop) (ct0 : Lb → va_E) (lv : Nat → Bool) (lev : Nat → Nat) (lo : Nat → Nat) (hi : Nat → Nat) (ri : Nat → Option Nat) (sz : Nat → Nat) (ky : Nat → Nat) (vl : Nat → Nat) (go : Nat → Option Nat) (rt : Nat) (ep : Nat) (wq : Nat → Nat) (wn : Nat) (cn : Nat) (op : Nat → Bool) (cl : Nat → Nat) (ca : Nat → Nat) (ce : Nat → Nat) (kc : Nat) (nb : Nat) (th fo : Nat) (hM : MDF G ad dm ct0 lv lev lo hi ri sz ky vl go rt ep wq wn cn op cl ca ce kc nb th fo) (pg c0 : Nat) (x : Int32) (hp0 : pg < 800) (hs : sz pg ≤ 5) (hx0 : x = lI c0) (hc0 : c0 < 2 ^ 30) (hky : ∀ i, i < sz pg → ky (5 * pg + i) < 2 ^ 30) :
    CT l yX3_place cX3_place 5 (some FieldType.int) { frames := 0, cells := 0, slots := 0, locals := 0 } [.ref (ad (10, 0)), .int (nI pg), .int x] G A (ad, dm, ct0) (fun v w' => (ad, dm, ct0) = w' ∧ v = some (.int (lI (cnt (sz pg) (pk ky pg) c0)))) (fun _ => False) (0) (0) := by
  refine ct_of (by decide) (Nat.le_of_ble_eq_true rfl) ?_
  intro p e s m below meth c ls F hr hlk hnm hex hE hW hl
  have hx := F.1
  have hb := F.2.1
  have hS : va_S A s.heap s.heap [] := va_S.rf
  have hl : lv_has ls 5 [(0, .ref (ad (10, 0))), (1, .int (nI pg)), (2, .int x)] := hl
  have hX : XM ct0 ct0 := XM.rf
  refine lv_iconst (v := (-1)) hx hb dX3_place_0 (by decide) ?_
  refine lv_istore_n (lv' := [(3, .int (-1)), (0, .ref (ad (10, 0))), (1, .int (nI pg)), (2, .int x)]) hx hb dX3_place_1 rfl hl (by decide) rfl (fun ls hl => ?_)
  refine lv_iconst (v := nI 0) hx hb dX3_place_2 (by decide) ?_
  refine lv_istore (lv' := [(4, .int (nI 0)), (3, .int (-1)), (0, .ref (ad (10, 0))), (1, .int (nI pg)), (2, .int x)]) hx hb dX3_place_3 hl (by decide) rfl (fun ls hl => ?_)
  suffices key : ∀ (d i : Nat) (H : Heap) (locs : List Loc) (ls : Array Slot) (y : Int32), i + d = sz pg → y = lI (cnt i (pk ky pg) c0) → wd G A (ad, dm, ct0) H → va_S A s.heap H locs → lv_has ls 5 [(4, .int (nI i)), (3, .int y), (0, .ref (ad (10, 0))), (1, .int (nI pg)), (2, .int x)] → W _ l e _ s m _ below meth c H locs 0 0 _ (F0 m 5 ls []) from
    key (sz pg) 0 _ _ ls _ (Nat.zero_add _) rfl hW hS hl
  intro d
  induction d with
  | zero =>
    intro i H locs ls y hi hy hW hS hl
    refine lv_iload hx hb dX3_place_5 (lv_at hl 0 rfl) ?_
    refine lv_aload_n hx hb dX3_place_7 rfl (lv_at hl 2 rfl) ?_
    refine kg F hE hW (10, 0) (hM.1 0 (by decide)) rfl hM.2.1 rfl inA_X3 6 (by decide) kw_612 (v := .ref (ad (10, 6))) rfl dX3_place_8 ?_
    refine lv_iload_n hx hb dX3_place_11 rfl (lv_at hl 3 rfl) ?_
    refine kl_i F hE hW (10, 6) (hM.1 6 (by decide)) rfl hM.2.2.2.2.2.2.2.1 pg rfl (by omega) (by decide) dX3_place_12 ?_
    refine nc_ge (tgt := 44) hx hb dX3_place_13 (by decide) (by omega) (by omega) (fun c1 => ?_) (fun c1 => ?_)
    · refine lv_iload_n hx hb dX3_place_44 rfl (lv_at hl 1 rfl) ?_
      exact kr_i F hr hlk hE hW hS (Nat.le_of_ble_eq_true rfl) (Nat.le_of_ble_eq_true rfl) dX3_place_45 (⟨rfl, by rw [hy, show i = sz pg by omega]⟩)
    · exact absurd c1 (by omega)
  | succ d ih =>
    intro i H locs ls y hi hy hW hS hl
    refine lv_iload hx hb dX3_place_5 (lv_at hl 0 rfl) ?_
    refine lv_aload_n hx hb dX3_place_7 rfl (lv_at hl 2 rfl) ?_
    refine kg F hE hW (10, 0) (hM.1 0 (by decide)) rfl hM.2.1 rfl inA_X3 6 (by decide) kw_612 (v := .ref (ad (10, 6))) rfl dX3_place_8 ?_
    refine lv_iload_n hx hb dX3_place_11 rfl (lv_at hl 3 rfl) ?_
    refine kl_i F hE hW (10, 6) (hM.1 6 (by decide)) rfl hM.2.2.2.2.2.2.2.1 pg rfl (by omega) (by decide) dX3_place_12 ?_
    refine nc_ge (tgt := 44) hx hb dX3_place_13 (by decide) (by omega) (by omega) (fun c1 => ?_) (fun c1 => ?_)
    · exact absurd c1 (by omega)
    · refine lv_aload_n hx hb dX3_place_16 rfl (lv_at hl 2 rfl) ?_
      refine kg F hE hW (10, 0) (hM.1 0 (by decide)) rfl hM.2.1 rfl inA_X3 7 (by decide) kw_613 (v := .ref (ad (10, 7))) rfl dX3_place_17 ?_
      refine lv_iconst (v := nI 5) hx hb dX3_place_20 (by decide) ?_
      refine lv_iload_n hx hb dX3_place_21 rfl (lv_at hl 3 rfl) ?_
      refine lv_imul hx hb dX3_place_22 ?_
      refine ktop (pk_mul _ _) ?_
      refine lv_iload hx hb dX3_place_23 (lv_at hl 0 rfl) ?_
      refine lv_iadd hx hb dX3_place_25 ?_
      refine ktop (nI_add _ _) ?_
      refine kl_i F hE hW (10, 7) (hM.1 7 (by decide)) rfl hM.2.2.2.2.2.2.2.2.1 ((5 * pg) + i) rfl (by omega) (by decide) dX3_place_26 ?_
      refine lv_iload_n hx hb dX3_place_27 rfl (lv_at hl 4 rfl) ?_
      refine lv_icmp_gt (tgt := 36) hx hb dX3_place_28 (by decide) (fun c2 => ?_) (fun c2 => ?_)
      · rw [hx0] at c2
        refine lv_iload_n hx hb dX3_place_36 rfl (lv_at hl 1 rfl) ?_
        refine lv_istore_n (lv' := [(3, .int y), (4, .int (nI i)), (0, .ref (ad (10, 0))), (1, .int (nI pg)), (2, .int x)]) hx hb dX3_place_37 rfl hl (by decide) rfl (fun ls hl => ?_)
        refine lv_iinc (v := nI (i + 1)) (lv' := [(4, .int (nI (i + 1))), (3, .int y), (0, .ref (ad (10, 0))), (1, .int (nI pg)), (2, .int x)]) hx hb dX3_place_38 hl (k := 1) rfl (ki1 _) (by decide) rfl (fun ls hl => ?_)
        refine lv_goto (tgt := 5) hx hb dX3_place_41 (by decide) ?_
        exact ih (i + 1) _ _ _ _ (by omega) (by rw [hy, cnt_s0 (f := pk ky pg) (fun qz => absurd c2 (by rw [Int32.not_lt]; exact (lI_nI_le (by have := hky i (by omega); omega) (by omega)).mpr qz))]) hW hS hl
      · rw [hx0] at c2
        refine lv_iload hx hb dX3_place_31 (lv_at hl 0 rfl) ?_
        refine lv_goto (tgt := 37) hx hb dX3_place_33 (by decide) ?_
        refine lv_istore_n (lv' := [(3, .int (nI i)), (4, .int (nI i)), (0, .ref (ad (10, 0))), (1, .int (nI pg)), (2, .int x)]) hx hb dX3_place_37 rfl hl (by decide) rfl (fun ls hl => ?_)
        refine lv_iinc (v := nI (i + 1)) (lv' := [(4, .int (nI (i + 1))), (3, .int (nI i)), (0, .ref (ad (10, 0))), (1, .int (nI pg)), (2, .int x)]) hx hb dX3_place_38 hl (k := 1) rfl (ki1 _) (by decide) rfl (fun ls hl => ?_)
        refine lv_goto (tgt := 5) hx hb dX3_place_41 (by decide) ?_
        exact ih (i + 1) _ _ _ _ (by omega) (by rw [cnt_s1 (f := pk ky pg) (show ky (5 * pg + i) < c0 from (lI_nI_le (by have := hky i (by omega); omega) (by omega)).mp (Int32.not_lt.mp c2)), lI_s]) hW hS hl
set_option maxRecDepth 100000 in
set_option maxHeartbeats 4000000 in
theorem c_X3_hasKey (l : Launch) (G : GG) (A : Nat → Prop) (ad : Lb → Nat) (dm : Lb → Prop) (ct0 : Lb → va_E) (lv : Nat → Bool) (lev : Nat → Nat) (lo : Nat → Nat) (hi : Nat → Nat) (ri : Nat → Option Nat) (sz : Nat → Nat) (ky : Nat → Nat) (vl : Nat → Nat) (go : Nat → Option Nat) (rt : Nat) (ep : Nat) (wq : Nat → Nat) (wn : Nat) (cn : Nat) (op : Nat → Bool) (cl : Nat → Nat) (ca : Nat → Nat) (ce : Nat → Nat) (kc : Nat) (nb : Nat) (th fo : Nat) (hM : MDF G ad dm ct0 lv lev lo hi ri sz ky vl go rt ep wq wn cn op cl ca ce kc nb th fo) (pg q k : Nat) (hp0 : pg < 800) (hq : q ≤ 5) (hk : k < 2 ^ 30) (hky : ky (5 * pg + (q - 1)) < 2 ^ 30 ∨ q = 0) :
    CT l yX3_hasKey cX3_hasKey 4 (some FieldType.boolean) { frames := 0, cells := 0, slots := 0, locals := 0 } [.ref (ad (10, 0)), .int (nI pg), .int (lI q), .int (nI k)] G A (ad, dm, ct0) (fun v w' => (ad, dm, ct0) = w' ∧ ((0 < q ∧ ky (5 * pg + (q - 1)) = k ∧ v = some (.int (nI 1))) ∨ ((q = 0 ∨ ky (5 * pg + (q - 1)) ≠ k) ∧ v = some (.int (nI 0))))) (fun _ => False) (0) (0) := by
  refine ct_of (by decide) (Nat.le_of_ble_eq_true rfl) ?_
  intro p e s m below meth c ls F hr hlk hnm hex hE hW hl
  have hx := F.1
  have hb := F.2.1
  have hS : va_S A s.heap s.heap [] := va_S.rf
  have hl : lv_has ls 4 [(0, .ref (ad (10, 0))), (1, .int (nI pg)), (2, .int (lI q)), (3, .int (nI k))] := hl
  have hX : XM ct0 ct0 := XM.rf
  refine lv_iload_n hx hb dX3_hasKey_0 rfl (lv_at hl 2 rfl) ?_
  refine lv_iconst (v := (-1)) hx hb dX3_hasKey_1 (by decide) ?_
  refine lv_icmp_eq (tgt := 23) hx hb dX3_hasKey_2 (by decide) (fun c1 => ?_) (fun c1 => ?_)
  · refine lv_iconst (v := nI 0) hx hb dX3_hasKey_23 (by decide) ?_
    exact kr_z F hr hlk hE hW hS (Nat.le_of_ble_eq_true rfl) (Nat.le_of_ble_eq_true rfl) rfl dX3_hasKey_24 (⟨rfl, Or.inr ⟨Or.inl ((lI_eq (b := 0) (by omega) (by decide)).mp c1), rfl⟩⟩)
  · obtain ⟨q, rfl⟩ : ∃ z, q = z + 1 := ⟨q - 1, by rcases Nat.eq_zero_or_pos q with h | h; exact absurd (by rw [h]; rfl) c1; omega⟩
    have hl : lv_has ls 4 [(0, .ref (ad (10, 0))), (1, .int (nI pg)), (2, .int (nI q)), (3, .int (nI k))] := by rw [lI_s] at hl; exact hl
    refine lv_aload_n hx hb dX3_hasKey_5 rfl (lv_at hl 0 rfl) ?_
    refine kg F hE hW (10, 0) (hM.1 0 (by decide)) rfl hM.2.1 rfl inA_X3 7 (by decide) kw_613 (v := .ref (ad (10, 7))) rfl dX3_hasKey_6 ?_
    refine lv_iconst (v := nI 5) hx hb dX3_hasKey_9 (by decide) ?_
    refine lv_iload_n hx hb dX3_hasKey_10 rfl (lv_at hl 1 rfl) ?_
    refine lv_imul hx hb dX3_hasKey_11 ?_
    refine ktop (pk_mul _ _) ?_
    refine lv_iload_n hx hb dX3_hasKey_12 rfl (lv_at hl 2 rfl) ?_
    refine lv_iadd hx hb dX3_hasKey_13 ?_
    refine ktop (nI_add _ _) ?_
    refine kl_i F hE hW (10, 7) (hM.1 7 (by decide)) rfl hM.2.2.2.2.2.2.2.2.1 ((5 * pg) + q) rfl (by omega) (by decide) dX3_hasKey_14 ?_
    refine lv_iload_n hx hb dX3_hasKey_15 rfl (lv_at hl 3 rfl) ?_
    refine nc_ne (tgt := 23) hx hb dX3_hasKey_16 (by decide) (by simp at hky; omega) (by omega) (fun c2 => ?_) (fun c2 => ?_)
    · refine lv_iconst (v := nI 0) hx hb dX3_hasKey_23 (by decide) ?_
      exact kr_z F hr hlk hE hW hS (Nat.le_of_ble_eq_true rfl) (Nat.le_of_ble_eq_true rfl) rfl dX3_hasKey_24 (⟨rfl, Or.inr ⟨Or.inr (by simpa using c2), rfl⟩⟩)
    · refine lv_iconst (v := nI 1) hx hb dX3_hasKey_19 (by decide) ?_
      refine lv_goto (tgt := 24) hx hb dX3_hasKey_20 (by decide) ?_
      exact kr_z F hr hlk hE hW hS (Nat.le_of_ble_eq_true rfl) (Nat.le_of_ble_eq_true rfl) rfl dX3_hasKey_24 (⟨rfl, Or.inl ⟨Nat.succ_pos _, by simpa using c2, rfl⟩⟩)
set_option maxRecDepth 100000 in
set_option maxHeartbeats 4000000 in
theorem c_X3_sets (l : Launch) (G : GG) (A : Nat → Prop) (ad : Lb → Nat) (dm : Lb → Prop) (ct0 : Lb → va_E) (lv : Nat → Bool) (lev : Nat → Nat) (lo : Nat → Nat) (hi : Nat → Nat) (ri : Nat → Option Nat) (sz : Nat → Nat) (ky : Nat → Nat) (vl : Nat → Nat) (go : Nat → Option Nat) (rt : Nat) (ep : Nat) (wq : Nat → Nat) (wn : Nat) (cn : Nat) (op : Nat → Bool) (cl : Nat → Nat) (ca : Nat → Nat) (ce : Nat → Nat) (kc : Nat) (nb : Nat) (th fo : Nat) (hM : MDF G ad dm ct0 lv lev lo hi ri sz ky vl go rt ep wq wn cn op cl ca ce kc nb th fo) (pg k x y : Nat) (hp0 : pg < 800) (hk : k < 5) :
    CT l yX3_sets cX3_sets 5 none { frames := 0, cells := 0, slots := 0, locals := 0 } [.ref (ad (10, 0)), .int (nI pg), .int (nI k), .int (nI x), .int (nI y)] G A (ad, dm, ct0) (fun v w' => ∃ ct', w' = (ad, dm, ct') ∧ MDF G ad dm ct' lv lev lo hi ri sz (va_up ky (5 * pg + k) x) (va_up vl (5 * pg + k) y) go rt ep wq wn cn op cl ca ce kc nb th fo ∧ XM ct0 ct' ∧ v = none) (fun _ => False) (0) (0) := by
  refine ct_of (by decide) (Nat.le_of_ble_eq_true rfl) ?_
  intro p e s m below meth c ls F hr hlk hnm hex hE hW hl
  have hx := F.1
  have hb := F.2.1
  have hS : va_S A s.heap s.heap [] := va_S.rf
  have hl : lv_has ls 5 [(0, .ref (ad (10, 0))), (1, .int (nI pg)), (2, .int (nI k)), (3, .int (nI x)), (4, .int (nI y))] := hl
  have hX : XM ct0 ct0 := XM.rf
  refine lv_aload_n hx hb dX3_sets_0 rfl (lv_at hl 0 rfl) ?_
  refine kg F hE hW (10, 0) (hM.1 0 (by decide)) rfl hM.2.1 rfl inA_X3 7 (by decide) kw_613 (v := .ref (ad (10, 7))) rfl dX3_sets_1 ?_
  refine lv_iconst (v := nI 5) hx hb dX3_sets_4 (by decide) ?_
  refine lv_iload_n hx hb dX3_sets_5 rfl (lv_at hl 1 rfl) ?_
  refine lv_imul hx hb dX3_sets_6 ?_
  refine ktop (pk_mul _ _) ?_
  refine lv_iload_n hx hb dX3_sets_7 rfl (lv_at hl 2 rfl) ?_
  refine lv_iadd hx hb dX3_sets_8 ?_
  refine ktop (nI_add _ _) ?_
  refine lv_iload_n hx hb dX3_sets_9 rfl (lv_at hl 3 rfl) ?_
  refine ms_ky (v := x) F hE hW hS hM ((5 * pg) + k) rfl (by omega) dX3_sets_10 (fun ct H locs hW hM hX0 hS => ?_)
  have hX := hX.tr hX0
  refine lv_aload_n hx hb dX3_sets_11 rfl (lv_at hl 0 rfl) ?_
  refine kg F hE hW (10, 0) (hM.1 0 (by decide)) rfl hM.2.1 rfl inA_X3 8 (by decide) kw_614 (v := .ref (ad (10, 8))) rfl dX3_sets_12 ?_
  refine lv_iconst (v := nI 5) hx hb dX3_sets_15 (by decide) ?_
  refine lv_iload_n hx hb dX3_sets_16 rfl (lv_at hl 1 rfl) ?_
  refine lv_imul hx hb dX3_sets_17 ?_
  refine ktop (pk_mul _ _) ?_
  refine lv_iload_n hx hb dX3_sets_18 rfl (lv_at hl 2 rfl) ?_
  refine lv_iadd hx hb dX3_sets_19 ?_
  refine ktop (nI_add _ _) ?_
  refine lv_iload hx hb dX3_sets_20 (lv_at hl 4 rfl) ?_
  refine ms_vl (v := y) F hE hW hS hM ((5 * pg) + k) rfl (by omega) dX3_sets_22 (fun ct H locs hW hM hX0 hS => ?_)
  have hX := hX.tr hX0
  exact kr_v F hr hlk hE hW hS (Nat.le_of_ble_eq_true rfl) (Nat.le_of_ble_eq_true rfl) dX3_sets_23 (⟨_, rfl, hM, hX, rfl⟩)
set_option maxRecDepth 100000 in
set_option maxHeartbeats 4000000 in
theorem c_X3_made (l : Launch) (G : GG) (A : Nat → Prop) (ad : Lb → Nat) (dm : Lb → Prop) (ct0 : Lb → va_E) (lv : Nat → Bool) (lev : Nat → Nat) (lo : Nat → Nat) (hi : Nat → Nat) (ri : Nat → Option Nat) (sz : Nat → Nat) (ky : Nat → Nat) (vl : Nat → Nat) (go : Nat → Option Nat) (rt : Nat) (ep : Nat) (wq : Nat → Nat) (wn : Nat) (cn : Nat) (op : Nat → Bool) (cl : Nat → Nat) (ca : Nat → Nat) (ce : Nat → Nat) (kc : Nat) (nb : Nat) (th fo : Nat) (hM : MDF G ad dm ct0 lv lev lo hi ri sz ky vl go rt ep wq wn cn op cl ca ce kc nb th fo) (le0 lo0 hi0 : Nat) (x : Int32) (r0 : Option Nat) (hr0 : x = oI r0) (hlv : lv (fr lv) = false) (hlt : ∀ j, j < fr lv → lv j = true) (hf8 : fr lv < 800) :
    CT l yX3_made cX3_made 6 (some FieldType.int) { frames := 0, cells := 0, slots := 0, locals := 0 } [.ref (ad (10, 0)), .int (nI le0), .int (nI lo0), .int (nI hi0), .int x] G A (ad, dm, ct0) (fun v w' => ∃ ct', w' = (ad, dm, ct') ∧ MDF G ad dm ct' (va_up lv (fr lv) true) (va_up lev (fr lv) le0) (va_up lo (fr lv) lo0) (va_up hi (fr lv) hi0) (va_up ri (fr lv) r0) (va_up sz (fr lv) 0) ky vl (va_up go (fr lv) none) rt ep wq wn cn op cl ca ce kc nb th fo ∧ XM ct0 ct' ∧ v = some (.int (nI (fr lv)))) (fun _ => False) (0) (0) := by
  refine ct_of (by decide) (Nat.le_of_ble_eq_true rfl) ?_
  intro p e s m below meth c ls F hr hlk hnm hex hE hW hl
  have hx := F.1
  have hb := F.2.1
  have hS : va_S A s.heap s.heap [] := va_S.rf
  have hl : lv_has ls 6 [(0, .ref (ad (10, 0))), (1, .int (nI le0)), (2, .int (nI lo0)), (3, .int (nI hi0)), (4, .int x)] := hl
  have hX : XM ct0 ct0 := XM.rf
  refine lv_iconst (v := nI 0) hx hb dX3_made_0 (by decide) ?_
  refine lv_istore (lv' := [(5, .int (nI 0)), (0, .ref (ad (10, 0))), (1, .int (nI le0)), (2, .int (nI lo0)), (3, .int (nI hi0)), (4, .int x)]) hx hb dX3_made_1 hl (by decide) rfl (fun ls hl => ?_)
  suffices key : ∀ (d i : Nat) (H : Heap) (locs : List Loc) (ls : Array Slot), i + d = fr lv → wd G A (ad, dm, ct0) H → va_S A s.heap H locs → lv_has ls 6 [(5, .int (nI i)), (0, .ref (ad (10, 0))), (1, .int (nI le0)), (2, .int (nI lo0)), (3, .int (nI hi0)), (4, .int x)] → W _ l e _ s m _ below meth c H locs 0 0 _ (F0 m 3 ls []) from
    key (fr lv) 0 _ _ ls (Nat.zero_add _) hW hS hl
  intro d
  induction d with
  | zero =>
    intro i H locs ls hi2 hW hS hl
    obtain rfl : i = fr lv := by omega
    refine lv_aload_n hx hb dX3_made_3 rfl (lv_at hl 1 rfl) ?_
    refine kg F hE hW (10, 0) (hM.1 0 (by decide)) rfl hM.2.1 rfl inA_X3 1 (by decide) kw_607 (v := .ref (ad (10, 1))) rfl dX3_made_4 ?_
    refine lv_iload hx hb dX3_made_7 (lv_at hl 0 rfl) ?_
    refine kl_z F hE hW (10, 1) (hM.1 1 (by decide)) rfl hM.2.2.1 (fr lv) rfl (by omega) (by decide) dX3_made_9 ?_
    rw [hlv]
    refine nz_eq (tgt := 19) hx hb dX3_made_10 (by decide) (by decide) (fun c1 => ?_) (fun c1 => ?_)
    · subst hr0
      refine lv_aload_n hx hb dX3_made_19 rfl (lv_at hl 1 rfl) ?_
      refine kg F hE hW (10, 0) (hM.1 0 (by decide)) rfl hM.2.1 rfl inA_X3 1 (by decide) kw_607 (v := .ref (ad (10, 1))) rfl dX3_made_20 ?_
      refine lv_iload hx hb dX3_made_23 (lv_at hl 0 rfl) ?_
      refine lv_iconst (v := nI 1) hx hb dX3_made_25 (by decide) ?_
      refine ms_lv (v := true) F hE hW hS hM (fr lv) rfl (by omega) dX3_made_26 (fun ct H locs hW hM hX0 hS => ?_)
      have hX := hX.tr hX0
      refine lv_aload_n hx hb dX3_made_27 rfl (lv_at hl 1 rfl) ?_
      refine kg F hE hW (10, 0) (hM.1 0 (by decide)) rfl hM.2.1 rfl inA_X3 2 (by decide) kw_608 (v := .ref (ad (10, 2))) rfl dX3_made_28 ?_
      refine lv_iload hx hb dX3_made_31 (lv_at hl 0 rfl) ?_
      refine lv_iload_n hx hb dX3_made_33 rfl (lv_at hl 2 rfl) ?_
      refine ms_lev (v := le0) F hE hW hS hM (fr lv) rfl (by omega) dX3_made_34 (fun ct H locs hW hM hX0 hS => ?_)
      have hX := hX.tr hX0
      refine lv_aload_n hx hb dX3_made_35 rfl (lv_at hl 1 rfl) ?_
      refine kg F hE hW (10, 0) (hM.1 0 (by decide)) rfl hM.2.1 rfl inA_X3 3 (by decide) kw_609 (v := .ref (ad (10, 3))) rfl dX3_made_36 ?_
      refine lv_iload hx hb dX3_made_39 (lv_at hl 0 rfl) ?_
      refine lv_iload_n hx hb dX3_made_41 rfl (lv_at hl 3 rfl) ?_
      refine ms_lo (v := lo0) F hE hW hS hM (fr lv) rfl (by omega) dX3_made_42 (fun ct H locs hW hM hX0 hS => ?_)
      have hX := hX.tr hX0
      refine lv_aload_n hx hb dX3_made_43 rfl (lv_at hl 1 rfl) ?_
      refine kg F hE hW (10, 0) (hM.1 0 (by decide)) rfl hM.2.1 rfl inA_X3 4 (by decide) kw_610 (v := .ref (ad (10, 4))) rfl dX3_made_44 ?_
      refine lv_iload hx hb dX3_made_47 (lv_at hl 0 rfl) ?_
      refine lv_iload_n hx hb dX3_made_49 rfl (lv_at hl 4 rfl) ?_
      refine ms_hi (v := hi0) F hE hW hS hM (fr lv) rfl (by omega) dX3_made_50 (fun ct H locs hW hM hX0 hS => ?_)
      have hX := hX.tr hX0
      refine lv_aload_n hx hb dX3_made_51 rfl (lv_at hl 1 rfl) ?_
      refine kg F hE hW (10, 0) (hM.1 0 (by decide)) rfl hM.2.1 rfl inA_X3 5 (by decide) kw_611 (v := .ref (ad (10, 5))) rfl dX3_made_52 ?_
      refine lv_iload hx hb dX3_made_55 (lv_at hl 0 rfl) ?_
      refine lv_iload hx hb dX3_made_57 (lv_at hl 5 rfl) ?_
      refine ms_ri (v := r0) F hE hW hS hM (fr lv) rfl (by omega) dX3_made_59 (fun ct H locs hW hM hX0 hS => ?_)
      have hX := hX.tr hX0
      refine lv_aload_n hx hb dX3_made_60 rfl (lv_at hl 1 rfl) ?_
      refine kg F hE hW (10, 0) (hM.1 0 (by decide)) rfl hM.2.1 rfl inA_X3 6 (by decide) kw_612 (v := .ref (ad (10, 6))) rfl dX3_made_61 ?_
      refine lv_iload hx hb dX3_made_64 (lv_at hl 0 rfl) ?_
      refine lv_iconst (v := nI 0) hx hb dX3_made_66 (by decide) ?_
      refine ms_sz (v := 0) F hE hW hS hM (fr lv) rfl (by omega) dX3_made_67 (fun ct H locs hW hM hX0 hS => ?_)
      have hX := hX.tr hX0
      refine lv_aload_n hx hb dX3_made_68 rfl (lv_at hl 1 rfl) ?_
      refine kg F hE hW (10, 0) (hM.1 0 (by decide)) rfl hM.2.1 rfl inA_X3 9 (by decide) kw_615 (v := .ref (ad (10, 9))) rfl dX3_made_69 ?_
      refine lv_iload hx hb dX3_made_72 (lv_at hl 0 rfl) ?_
      refine lv_iconst (v := (-1)) hx hb dX3_made_74 (by decide) ?_
      refine ms_go (v := none) F hE hW hS hM (fr lv) rfl (by omega) dX3_made_75 (fun ct H locs hW hM hX0 hS => ?_)
      have hX := hX.tr hX0
      refine lv_iload hx hb dX3_made_76 (lv_at hl 0 rfl) ?_
      exact kr_i F hr hlk hE hW hS (Nat.le_of_ble_eq_true rfl) (Nat.le_of_ble_eq_true rfl) dX3_made_78 (⟨_, rfl, hM, hX, rfl⟩)
    · exact absurd rfl c1
  | succ d ih =>
    intro i H locs ls hi2 hW hS hl
    refine lv_aload_n hx hb dX3_made_3 rfl (lv_at hl 1 rfl) ?_
    refine kg F hE hW (10, 0) (hM.1 0 (by decide)) rfl hM.2.1 rfl inA_X3 1 (by decide) kw_607 (v := .ref (ad (10, 1))) rfl dX3_made_4 ?_
    refine lv_iload hx hb dX3_made_7 (lv_at hl 0 rfl) ?_
    refine kl_z F hE hW (10, 1) (hM.1 1 (by decide)) rfl hM.2.2.1 i rfl (by omega) (by decide) dX3_made_9 ?_
    rw [hlt i (by omega)]
    refine nz_eq (tgt := 19) hx hb dX3_made_10 (by decide) (by decide) (fun c1 => ?_) (fun c1 => ?_)
    · exact absurd c1 (by decide)
    · refine lv_iinc (v := nI (i + 1)) (lv' := [(5, .int (nI (i + 1))), (0, .ref (ad (10, 0))), (1, .int (nI le0)), (2, .int (nI lo0)), (3, .int (nI hi0)), (4, .int x)]) hx hb dX3_made_13 hl (k := 0) rfl (ki1 _) (by decide) rfl (fun ls hl => ?_)
      refine lv_goto (tgt := 3) hx hb dX3_made_16 (by decide) ?_
      exact ih (i + 1) _ _ _ (by omega) hW hS hl
