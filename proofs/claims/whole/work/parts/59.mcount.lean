/-! The reference: counting, posting. -/
theorem cntB_s1 {n : Nat} {f : Nat → Bool} (h : f n = true) : cntB (n + 1) f = cntB n f + 1 := by show cntB n f + (if f n = true then 1 else 0) = _; rw [if_pos h]
theorem cntB_s0 {n : Nat} {f : Nat → Bool} (h : f n = false) : cntB (n + 1) f = cntB n f := by show cntB n f + (if f n = true then 1 else 0) = _; rw [h]; rfl
theorem sumN_s {n : Nat} {f : Nat → Nat} : sumN (n + 1) f = sumN n f + f n := rfl
set_option maxRecDepth 100000 in
set_option maxHeartbeats 4000000 in
theorem c_X3_waiting (l : Launch) (G : GG) (A : Nat → Prop) (ad : Lb → Nat) (dm : Lb → Prop) (ct0 : Lb → va_E) (lv : Nat → Bool) (lev : Nat → Nat) (lo : Nat → Nat) (hi : Nat → Nat) (ri : Nat → Option Nat) (sz : Nat → Nat) (ky : Nat → Nat) (vl : Nat → Nat) (go : Nat → Option Nat) (rt : Nat) (ep : Nat) (wq : Nat → Nat) (wn : Nat) (cn : Nat) (op : Nat → Bool) (cl : Nat → Nat) (ca : Nat → Nat) (ce : Nat → Nat) (kc : Nat) (nb : Nat) (th fo : Nat) (hM : MDF G ad dm ct0 lv lev lo hi ri sz ky vl go rt ep wq wn cn op cl ca ce kc nb th fo)  :
    CT l yX3_waiting cX3_waiting 1 (some FieldType.int) { frames := 0, cells := 0, slots := 0, locals := 0 } [.ref (ad (10, 0))] G A (ad, dm, ct0) (fun v w' => ∃ ct', w' = (ad, dm, ct') ∧ MDF G ad dm ct' lv lev lo hi ri sz ky vl go rt ep wq wn cn op cl ca ce kc nb 0 fo ∧ XM ct0 ct' ∧ v = some (.int (nI wn))) (fun _ => False) (0) (0) := by
  refine ct_of (by decide) (Nat.le_of_ble_eq_true rfl) ?_
  intro p e s m below meth c ls F hr hlk hnm hex hE hW hl
  have hx := F.1
  have hb := F.2.1
  have hS : va_S A s.heap s.heap [] := va_S.rf
  have hl : lv_has ls 1 [(0, .ref (ad (10, 0)))] := hl
  have hX : XM ct0 ct0 := XM.rf
  refine lv_aload_n hx hb dX3_waiting_0 rfl (lv_at hl 0 rfl) ?_
  refine lv_iconst (v := nI 0) hx hb dX3_waiting_1 (by decide) ?_
  refine mp_th (v := 0) F hE hW hS hM kw_606 dX3_waiting_2 (fun ct H locs hW hM hX0 hS => ?_)
  have hX := hX.tr hX0
  refine lv_aload_n hx hb dX3_waiting_5 rfl (lv_at hl 0 rfl) ?_
  refine kg F hE hW (10, 0) (hM.1 0 (by decide)) rfl hM.2.1 rfl inA_X3 13 (by decide) kw_619 (v := .int (nI wn)) rfl dX3_waiting_6 ?_
  exact kr_i F hr hlk hE hW hS (Nat.le_of_ble_eq_true rfl) (Nat.le_of_ble_eq_true rfl) dX3_waiting_9 (⟨_, rfl, hM, hX, rfl⟩)
set_option maxRecDepth 100000 in
set_option maxHeartbeats 4000000 in
theorem c_X3_epoch (l : Launch) (G : GG) (A : Nat → Prop) (ad : Lb → Nat) (dm : Lb → Prop) (ct0 : Lb → va_E) (lv : Nat → Bool) (lev : Nat → Nat) (lo : Nat → Nat) (hi : Nat → Nat) (ri : Nat → Option Nat) (sz : Nat → Nat) (ky : Nat → Nat) (vl : Nat → Nat) (go : Nat → Option Nat) (rt : Nat) (ep : Nat) (wq : Nat → Nat) (wn : Nat) (cn : Nat) (op : Nat → Bool) (cl : Nat → Nat) (ca : Nat → Nat) (ce : Nat → Nat) (kc : Nat) (nb : Nat) (th fo : Nat) (hM : MDF G ad dm ct0 lv lev lo hi ri sz ky vl go rt ep wq wn cn op cl ca ce kc nb th fo)  :
    CT l yX3_epoch cX3_epoch 1 (some FieldType.int) { frames := 0, cells := 0, slots := 0, locals := 0 } [.ref (ad (10, 0))] G A (ad, dm, ct0) (fun v w' => ∃ ct', w' = (ad, dm, ct') ∧ MDF G ad dm ct' lv lev lo hi ri sz ky vl go rt ep wq wn cn op cl ca ce kc nb 0 fo ∧ XM ct0 ct' ∧ v = some (.int (nI ep))) (fun _ => False) (0) (0) := by
  refine ct_of (by decide) (Nat.le_of_ble_eq_true rfl) ?_
  intro p e s m below meth c ls F hr hlk hnm hex hE hW hl
  have hx := F.1
  have hb := F.2.1
  have hS : va_S A s.heap s.heap [] := va_S.rf
  have hl : lv_has ls 1 [(0, .ref (ad (10, 0)))] := hl
  have hX : XM ct0 ct0 := XM.rf
  refine lv_aload_n hx hb dX3_epoch_0 rfl (lv_at hl 0 rfl) ?_
  refine lv_iconst (v := nI 0) hx hb dX3_epoch_1 (by decide) ?_
  refine mp_th (v := 0) F hE hW hS hM kw_606 dX3_epoch_2 (fun ct H locs hW hM hX0 hS => ?_)
  have hX := hX.tr hX0
  refine lv_aload_n hx hb dX3_epoch_5 rfl (lv_at hl 0 rfl) ?_
  refine kg F hE hW (10, 0) (hM.1 0 (by decide)) rfl hM.2.1 rfl inA_X3 11 (by decide) kw_617 (v := .int (nI ep)) rfl dX3_epoch_6 ?_
  exact kr_i F hr hlk hE hW hS (Nat.le_of_ble_eq_true rfl) (Nat.le_of_ble_eq_true rfl) dX3_epoch_9 (⟨_, rfl, hM, hX, rfl⟩)
set_option maxRecDepth 100000 in
set_option maxHeartbeats 4000000 in
theorem c_X3_root (l : Launch) (G : GG) (A : Nat → Prop) (ad : Lb → Nat) (dm : Lb → Prop) (ct0 : Lb → va_E) (lv : Nat → Bool) (lev : Nat → Nat) (lo : Nat → Nat) (hi : Nat → Nat) (ri : Nat → Option Nat) (sz : Nat → Nat) (ky : Nat → Nat) (vl : Nat → Nat) (go : Nat → Option Nat) (rt : Nat) (ep : Nat) (wq : Nat → Nat) (wn : Nat) (cn : Nat) (op : Nat → Bool) (cl : Nat → Nat) (ca : Nat → Nat) (ce : Nat → Nat) (kc : Nat) (nb : Nat) (th fo : Nat) (hM : MDF G ad dm ct0 lv lev lo hi ri sz ky vl go rt ep wq wn cn op cl ca ce kc nb th fo)  :
    CT l yX3_root cX3_root 1 (some FieldType.int) { frames := 0, cells := 0, slots := 0, locals := 0 } [.ref (ad (10, 0))] G A (ad, dm, ct0) (fun v w' => ∃ ct', w' = (ad, dm, ct') ∧ MDF G ad dm ct' lv lev lo hi ri sz ky vl go rt ep wq wn cn op cl ca ce kc nb 0 fo ∧ XM ct0 ct' ∧ v = some (.int (nI rt))) (fun _ => False) (0) (0) := by
  refine ct_of (by decide) (Nat.le_of_ble_eq_true rfl) ?_
  intro p e s m below meth c ls F hr hlk hnm hex hE hW hl
  have hx := F.1
  have hb := F.2.1
  have hS : va_S A s.heap s.heap [] := va_S.rf
  have hl : lv_has ls 1 [(0, .ref (ad (10, 0)))] := hl
  have hX : XM ct0 ct0 := XM.rf
  refine lv_aload_n hx hb dX3_root_0 rfl (lv_at hl 0 rfl) ?_
  refine lv_iconst (v := nI 0) hx hb dX3_root_1 (by decide) ?_
  refine mp_th (v := 0) F hE hW hS hM kw_606 dX3_root_2 (fun ct H locs hW hM hX0 hS => ?_)
  have hX := hX.tr hX0
  refine lv_aload_n hx hb dX3_root_5 rfl (lv_at hl 0 rfl) ?_
  refine kg F hE hW (10, 0) (hM.1 0 (by decide)) rfl hM.2.1 rfl inA_X3 10 (by decide) kw_616 (v := .int (nI rt)) rfl dX3_root_6 ?_
  exact kr_i F hr hlk hE hW hS (Nat.le_of_ble_eq_true rfl) (Nat.le_of_ble_eq_true rfl) dX3_root_9 (⟨_, rfl, hM, hX, rfl⟩)
set_option maxRecDepth 100000 in
set_option maxHeartbeats 4000000 in
theorem c_X3_pages (l : Launch) (G : GG) (A : Nat → Prop) (ad : Lb → Nat) (dm : Lb → Prop) (ct0 : Lb → va_E) (lv : Nat → Bool) (lev : Nat → Nat) (lo : Nat → Nat) (hi : Nat → Nat) (ri : Nat → Option Nat) (sz : Nat → Nat) (ky : Nat → Nat) (vl : Nat → Nat) (go : Nat → Option Nat) (rt : Nat) (ep : Nat) (wq : Nat → Nat) (wn : Nat) (cn : Nat) (op : Nat → Bool) (cl : Nat → Nat) (ca : Nat → Nat) (ce : Nat → Nat) (kc : Nat) (nb : Nat) (th fo : Nat) (hM : MDF G ad dm ct0 lv lev lo hi ri sz ky vl go rt ep wq wn cn op cl ca ce kc nb th fo) (t0 : Nat) (hI : InvF lv lev lo hi ri sz ky vl go rt ep wq wn cn op cl ca ce kc nb 800 t0) :
    CT l yX3_pages cX3_pages 3 (some FieldType.int) { frames := 0, cells := 0, slots := 0, locals := 0 } [.ref (ad (10, 0))] G A (ad, dm, ct0) (fun v w' => ∃ ct', w' = (ad, dm, ct') ∧ MDF G ad dm ct' lv lev lo hi ri sz ky vl go rt ep wq wn cn op cl ca ce kc nb 0 fo ∧ XM ct0 ct' ∧ v = some (.int (nI (cntB 800 lv)))) (fun _ => False) (0) (0) := by
  refine ct_of (by decide) (Nat.le_of_ble_eq_true rfl) ?_
  intro p e s m below meth c ls F hr hlk hnm hex hE hW hl
  have hx := F.1
  have hb := F.2.1
  have hS : va_S A s.heap s.heap [] := va_S.rf
  have hl : lv_has ls 3 [(0, .ref (ad (10, 0)))] := hl
  have hX : XM ct0 ct0 := XM.rf
  have hI0 := hI
  obtain ⟨hP, hQ, hCu, hkc, hsum, ht, hep, hkt⟩ := hI
  have hb9 : nb ≤ 513 := by omega
  have hwn9 : wn ≤ 513 := by omega
  obtain ⟨hfr1, hfr2, hfr3⟩ := fr_spec hP hb9
  refine lv_aload_n hx hb dX3_pages_0 rfl (lv_at hl 0 rfl) ?_
  refine lv_iconst (v := nI 0) hx hb dX3_pages_1 (by decide) ?_
  refine mp_th (v := 0) F hE hW hS hM kw_606 dX3_pages_2 (fun ct H locs hW hM hX0 hS => ?_)
  have hX := hX.tr hX0
  refine lv_iconst (v := nI 0) hx hb dX3_pages_5 (by decide) ?_
  refine lv_istore_n (lv' := [(1, .int (nI 0)), (0, .ref (ad (10, 0)))]) hx hb dX3_pages_6 rfl hl (by decide) rfl (fun ls hl => ?_)
  refine lv_iconst (v := nI 0) hx hb dX3_pages_7 (by decide) ?_
  refine lv_istore_n (lv' := [(2, .int (nI 0)), (1, .int (nI 0)), (0, .ref (ad (10, 0)))]) hx hb dX3_pages_8 rfl hl (by decide) rfl (fun ls hl => ?_)
  suffices key : ∀ (d : Nat) (i : Nat) (n : Nat) (ct1 : Lb → va_E) (H : Heap) (locs : List Loc) (ls : Array Slot), i + d = 800 → n = cntB i lv → MDF G ad dm ct1 lv lev lo hi ri sz ky vl go rt ep wq wn cn op cl ca ce kc nb 0 fo → XM ct0 ct1 → wd G A (ad, dm, ct1) H → va_S A s.heap H locs → lv_has ls 3 [(2, .int (nI i)), (1, .int (nI n)), (0, .ref (ad (10, 0)))] → W _ l e _ s m _ below meth c H locs 0 0 _ (F0 m 9 ls []) from
    key 800 0 0 _ _ _ ls (Nat.zero_add _) rfl hM hX hW hS hl
  clear hM hX hW hS hl
  intro d
  induction d with
  | zero =>
    intro i n ct H locs ls hi2 hn hM hX hW hS hl
    refine lv_iload_n hx hb dX3_pages_9 rfl (lv_at hl 0 rfl) ?_
    refine lv_sipush (v := nI 800) hx hb dX3_pages_10 (by decide) ?_
    refine nc_ge (tgt := 39) hx hb dX3_pages_13 (by decide) (by omega) (by omega) (fun c1 => ?_) (fun c1 => ?_)
    · refine lv_iload_n hx hb dX3_pages_39 rfl (lv_at hl 1 rfl) ?_
      have hn9 : n = cntB 800 lv := by rw [hn, show i = 800 by omega]
      exact kr_i F hr hlk hE hW hS (Nat.le_of_ble_eq_true rfl) (Nat.le_of_ble_eq_true rfl) dX3_pages_40 (⟨_, rfl, hM, hX, by rw [hn9]⟩)
    · exact absurd c1 (by omega)
  | succ d ih =>
    intro i n ct H locs ls hi2 hn hM hX hW hS hl
    refine lv_iload_n hx hb dX3_pages_9 rfl (lv_at hl 0 rfl) ?_
    refine lv_sipush (v := nI 800) hx hb dX3_pages_10 (by decide) ?_
    refine nc_ge (tgt := 39) hx hb dX3_pages_13 (by decide) (by omega) (by omega) (fun c1 => ?_) (fun c1 => ?_)
    · exact absurd c1 (by omega)
    · refine lv_iload_n hx hb dX3_pages_16 rfl (lv_at hl 1 rfl) ?_
      refine lv_aload_n hx hb dX3_pages_17 rfl (lv_at hl 2 rfl) ?_
      refine kg F hE hW (10, 0) (hM.1 0 (by decide)) rfl hM.2.1 rfl inA_X3 1 (by decide) kw_607 (v := .ref (ad (10, 1))) rfl dX3_pages_18 ?_
      refine lv_iload_n hx hb dX3_pages_21 rfl (lv_at hl 0 rfl) ?_
      refine kl_z F hE hW (10, 1) (hM.1 1 (by decide)) rfl hM.2.2.1 i rfl (by omega) (by decide) dX3_pages_22 ?_
      cases hv : lv i with
      | false =>
        refine nz_eq (tgt := 30) hx hb dX3_pages_23 (by decide) (by decide) (fun c9 => ?_) (fun c9 => ?_)
        · refine lv_iconst (v := nI 0) hx hb dX3_pages_30 (by decide) ?_
          refine lv_iadd hx hb dX3_pages_31 ?_
          refine ktop (nI_add _ _) ?_
          refine lv_istore_n (lv' := [(1, .int (nI (n + 0))), (2, .int (nI i)), (0, .ref (ad (10, 0)))]) hx hb dX3_pages_32 rfl hl (by decide) rfl (fun ls hl => ?_)
          refine lv_iinc (v := nI (i + 1)) (lv' := [(2, .int (nI (i + 1))), (1, .int (nI (n + 0))), (0, .ref (ad (10, 0)))]) hx hb dX3_pages_33 hl (k := 1) rfl (ki1 _) (by decide) rfl (fun ls hl => ?_)
          refine lv_goto (tgt := 9) hx hb dX3_pages_36 (by decide) ?_
          exact ih (i + 1) (n + 0) _ _ _ _ (by omega) (by rw [cntB_s0 (by simp [hv]), hn]; rfl) hM hX hW hS (lv_sub hl [0, 1, 2] rfl)
        · exact absurd c9 (by decide)
      | true =>
        refine nz_eq (tgt := 30) hx hb dX3_pages_23 (by decide) (by decide) (fun c9 => ?_) (fun c9 => ?_)
        · exact absurd c9 (by decide)
        · refine lv_iconst (v := nI 1) hx hb dX3_pages_26 (by decide) ?_
          refine lv_goto (tgt := 31) hx hb dX3_pages_27 (by decide) ?_
          refine lv_iadd hx hb dX3_pages_31 ?_
          refine ktop (nI_add _ _) ?_
          refine lv_istore_n (lv' := [(1, .int (nI (n + 1))), (2, .int (nI i)), (0, .ref (ad (10, 0)))]) hx hb dX3_pages_32 rfl hl (by decide) rfl (fun ls hl => ?_)
          refine lv_iinc (v := nI (i + 1)) (lv' := [(2, .int (nI (i + 1))), (1, .int (nI (n + 1))), (0, .ref (ad (10, 0)))]) hx hb dX3_pages_33 hl (k := 1) rfl (ki1 _) (by decide) rfl (fun ls hl => ?_)
          refine lv_goto (tgt := 9) hx hb dX3_pages_36 (by decide) ?_
          exact ih (i + 1) (n + 1) _ _ _ _ (by omega) (by rw [cntB_s1 (by simp [hv]), hn]) hM hX hW hS (lv_sub hl [0, 1, 2] rfl)
set_option maxRecDepth 100000 in
set_option maxHeartbeats 4000000 in
theorem c_X3_dead (l : Launch) (G : GG) (A : Nat → Prop) (ad : Lb → Nat) (dm : Lb → Prop) (ct0 : Lb → va_E) (lv : Nat → Bool) (lev : Nat → Nat) (lo : Nat → Nat) (hi : Nat → Nat) (ri : Nat → Option Nat) (sz : Nat → Nat) (ky : Nat → Nat) (vl : Nat → Nat) (go : Nat → Option Nat) (rt : Nat) (ep : Nat) (wq : Nat → Nat) (wn : Nat) (cn : Nat) (op : Nat → Bool) (cl : Nat → Nat) (ca : Nat → Nat) (ce : Nat → Nat) (kc : Nat) (nb : Nat) (th fo : Nat) (hM : MDF G ad dm ct0 lv lev lo hi ri sz ky vl go rt ep wq wn cn op cl ca ce kc nb th fo) (t0 : Nat) (hI : InvF lv lev lo hi ri sz ky vl go rt ep wq wn cn op cl ca ce kc nb 800 t0) :
    CT l yX3_dead cX3_dead 3 (some FieldType.int) { frames := 0, cells := 0, slots := 0, locals := 0 } [.ref (ad (10, 0))] G A (ad, dm, ct0) (fun v w' => ∃ ct', w' = (ad, dm, ct') ∧ MDF G ad dm ct' lv lev lo hi ri sz ky vl go rt ep wq wn cn op cl ca ce kc nb 0 fo ∧ XM ct0 ct' ∧ v = some (.int (nI (cntB 800 fun n => lv n && (go n).isSome)))) (fun _ => False) (0) (0) := by
  refine ct_of (by decide) (Nat.le_of_ble_eq_true rfl) ?_
  intro p e s m below meth c ls F hr hlk hnm hex hE hW hl
  have hx := F.1
  have hb := F.2.1
  have hS : va_S A s.heap s.heap [] := va_S.rf
  have hl : lv_has ls 3 [(0, .ref (ad (10, 0)))] := hl
  have hX : XM ct0 ct0 := XM.rf
  have hI0 := hI
  obtain ⟨hP, hQ, hCu, hkc, hsum, ht, hep, hkt⟩ := hI
  have hb9 : nb ≤ 513 := by omega
  have hwn9 : wn ≤ 513 := by omega
  obtain ⟨hfr1, hfr2, hfr3⟩ := fr_spec hP hb9
  refine lv_aload_n hx hb dX3_dead_0 rfl (lv_at hl 0 rfl) ?_
  refine lv_iconst (v := nI 0) hx hb dX3_dead_1 (by decide) ?_
  refine mp_th (v := 0) F hE hW hS hM kw_606 dX3_dead_2 (fun ct H locs hW hM hX0 hS => ?_)
  have hX := hX.tr hX0
  refine lv_iconst (v := nI 0) hx hb dX3_dead_5 (by decide) ?_
  refine lv_istore_n (lv' := [(1, .int (nI 0)), (0, .ref (ad (10, 0)))]) hx hb dX3_dead_6 rfl hl (by decide) rfl (fun ls hl => ?_)
  refine lv_iconst (v := nI 0) hx hb dX3_dead_7 (by decide) ?_
  refine lv_istore_n (lv' := [(2, .int (nI 0)), (1, .int (nI 0)), (0, .ref (ad (10, 0)))]) hx hb dX3_dead_8 rfl hl (by decide) rfl (fun ls hl => ?_)
  suffices key : ∀ (d : Nat) (i : Nat) (n : Nat) (ct1 : Lb → va_E) (H : Heap) (locs : List Loc) (ls : Array Slot), i + d = 800 → n = cntB i (fun n => lv n && (go n).isSome) → MDF G ad dm ct1 lv lev lo hi ri sz ky vl go rt ep wq wn cn op cl ca ce kc nb 0 fo → XM ct0 ct1 → wd G A (ad, dm, ct1) H → va_S A s.heap H locs → lv_has ls 3 [(2, .int (nI i)), (1, .int (nI n)), (0, .ref (ad (10, 0)))] → W _ l e _ s m _ below meth c H locs 0 0 _ (F0 m 9 ls []) from
    key 800 0 0 _ _ _ ls (Nat.zero_add _) rfl hM hX hW hS hl
  clear hM hX hW hS hl
  intro d
  induction d with
  | zero =>
    intro i n ct H locs ls hi2 hn hM hX hW hS hl
    refine lv_iload_n hx hb dX3_dead_9 rfl (lv_at hl 0 rfl) ?_
    refine lv_sipush (v := nI 800) hx hb dX3_dead_10 (by decide) ?_
    refine nc_ge (tgt := 49) hx hb dX3_dead_13 (by decide) (by omega) (by omega) (fun c1 => ?_) (fun c1 => ?_)
    · refine lv_iload_n hx hb dX3_dead_49 rfl (lv_at hl 1 rfl) ?_
      have hn9 : n = cntB 800 (fun n => lv n && (go n).isSome) := by rw [hn, show i = 800 by omega]
      exact kr_i F hr hlk hE hW hS (Nat.le_of_ble_eq_true rfl) (Nat.le_of_ble_eq_true rfl) dX3_dead_50 (⟨_, rfl, hM, hX, by rw [hn9]⟩)
    · exact absurd c1 (by omega)
  | succ d ih =>
    intro i n ct H locs ls hi2 hn hM hX hW hS hl
    refine lv_iload_n hx hb dX3_dead_9 rfl (lv_at hl 0 rfl) ?_
    refine lv_sipush (v := nI 800) hx hb dX3_dead_10 (by decide) ?_
    refine nc_ge (tgt := 49) hx hb dX3_dead_13 (by decide) (by omega) (by omega) (fun c1 => ?_) (fun c1 => ?_)
    · exact absurd c1 (by omega)
    · refine lv_iload_n hx hb dX3_dead_16 rfl (lv_at hl 1 rfl) ?_
      refine lv_aload_n hx hb dX3_dead_17 rfl (lv_at hl 2 rfl) ?_
      refine kg F hE hW (10, 0) (hM.1 0 (by decide)) rfl hM.2.1 rfl inA_X3 1 (by decide) kw_607 (v := .ref (ad (10, 1))) rfl dX3_dead_18 ?_
      refine lv_iload_n hx hb dX3_dead_21 rfl (lv_at hl 0 rfl) ?_
      refine kl_z F hE hW (10, 1) (hM.1 1 (by decide)) rfl hM.2.2.1 i rfl (by omega) (by decide) dX3_dead_22 ?_
      cases hv : lv i with
      | false =>
        refine nz_eq (tgt := 40) hx hb dX3_dead_23 (by decide) (by decide) (fun c9 => ?_) (fun c9 => ?_)
        · refine lv_iconst (v := nI 0) hx hb dX3_dead_40 (by decide) ?_
          refine lv_iadd hx hb dX3_dead_41 ?_
          refine ktop (nI_add _ _) ?_
          refine lv_istore_n (lv' := [(1, .int (nI (n + 0))), (2, .int (nI i)), (0, .ref (ad (10, 0)))]) hx hb dX3_dead_42 rfl hl (by decide) rfl (fun ls hl => ?_)
          refine lv_iinc (v := nI (i + 1)) (lv' := [(2, .int (nI (i + 1))), (1, .int (nI (n + 0))), (0, .ref (ad (10, 0)))]) hx hb dX3_dead_43 hl (k := 1) rfl (ki1 _) (by decide) rfl (fun ls hl => ?_)
          refine lv_goto (tgt := 9) hx hb dX3_dead_46 (by decide) ?_
          exact ih (i + 1) (n + 0) _ _ _ _ (by omega) (by rw [cntB_s0 (by simp [hv]), hn]; rfl) hM hX hW hS (lv_sub hl [0, 1, 2] rfl)
        · exact absurd c9 (by decide)
      | true =>
        refine nz_eq (tgt := 40) hx hb dX3_dead_23 (by decide) (by decide) (fun c9 => ?_) (fun c9 => ?_)
        · exact absurd c9 (by decide)
        · refine lv_aload_n hx hb dX3_dead_26 rfl (lv_at hl 2 rfl) ?_
          refine kg F hE hW (10, 0) (hM.1 0 (by decide)) rfl hM.2.1 rfl inA_X3 9 (by decide) kw_615 (v := .ref (ad (10, 9))) rfl dX3_dead_27 ?_
          refine lv_iload_n hx hb dX3_dead_30 rfl (lv_at hl 0 rfl) ?_
          refine kl_i F hE hW (10, 9) (hM.1 9 (by decide)) rfl hM.2.2.2.2.2.2.2.2.2.2.1 i rfl (by omega) (by decide) dX3_dead_31 ?_
          refine lv_iconst (v := (-1)) hx hb dX3_dead_32 (by decide) ?_
          cases hg : go i with
          | none =>
            refine lv_icmp_eq (tgt := 40) hx hb dX3_dead_33 (by decide) (fun c2 => ?_) (fun c2 => ?_)
            · refine lv_iconst (v := nI 0) hx hb dX3_dead_40 (by decide) ?_
              refine lv_iadd hx hb dX3_dead_41 ?_
              refine ktop (nI_add _ _) ?_
              refine lv_istore_n (lv' := [(1, .int (nI (n + 0))), (2, .int (nI i)), (0, .ref (ad (10, 0)))]) hx hb dX3_dead_42 rfl hl (by decide) rfl (fun ls hl => ?_)
              refine lv_iinc (v := nI (i + 1)) (lv' := [(2, .int (nI (i + 1))), (1, .int (nI (n + 0))), (0, .ref (ad (10, 0)))]) hx hb dX3_dead_43 hl (k := 1) rfl (ki1 _) (by decide) rfl (fun ls hl => ?_)
              refine lv_goto (tgt := 9) hx hb dX3_dead_46 (by decide) ?_
              exact ih (i + 1) (n + 0) _ _ _ _ (by omega) (by rw [cntB_s0 (by simp [hv, hg]), hn]; rfl) hM hX hW hS (lv_sub hl [0, 1, 2] rfl)
            · exact absurd rfl c2
          | some ez =>
            have hez : ez < 2 ^ 31 := by have := (hP.2.2.2.2.2.2.1 i ez hv hg).2.2; omega
            refine lv_icmp_eq (tgt := 40) hx hb dX3_dead_33 (by decide) (fun c2 => ?_) (fun c2 => ?_)
            · exact absurd c2 (nI_neg hez)
            · refine lv_iconst (v := nI 1) hx hb dX3_dead_36 (by decide) ?_
              refine lv_goto (tgt := 41) hx hb dX3_dead_37 (by decide) ?_
              refine lv_iadd hx hb dX3_dead_41 ?_
              refine ktop (nI_add _ _) ?_
              refine lv_istore_n (lv' := [(1, .int (nI (n + 1))), (2, .int (nI i)), (0, .ref (ad (10, 0)))]) hx hb dX3_dead_42 rfl hl (by decide) rfl (fun ls hl => ?_)
              refine lv_iinc (v := nI (i + 1)) (lv' := [(2, .int (nI (i + 1))), (1, .int (nI (n + 1))), (0, .ref (ad (10, 0)))]) hx hb dX3_dead_43 hl (k := 1) rfl (ki1 _) (by decide) rfl (fun ls hl => ?_)
              refine lv_goto (tgt := 9) hx hb dX3_dead_46 (by decide) ?_
              exact ih (i + 1) (n + 1) _ _ _ _ (by omega) (by rw [cntB_s1 (by simp [hv, hg]), hn]) hM hX hW hS (lv_sub hl [0, 1, 2] rfl)
set_option maxRecDepth 100000 in
set_option maxHeartbeats 4000000 in
theorem c_X3_keys (l : Launch) (G : GG) (A : Nat → Prop) (ad : Lb → Nat) (dm : Lb → Prop) (ct0 : Lb → va_E) (lv : Nat → Bool) (lev : Nat → Nat) (lo : Nat → Nat) (hi : Nat → Nat) (ri : Nat → Option Nat) (sz : Nat → Nat) (ky : Nat → Nat) (vl : Nat → Nat) (go : Nat → Option Nat) (rt : Nat) (ep : Nat) (wq : Nat → Nat) (wn : Nat) (cn : Nat) (op : Nat → Bool) (cl : Nat → Nat) (ca : Nat → Nat) (ce : Nat → Nat) (kc : Nat) (nb : Nat) (th fo : Nat) (hM : MDF G ad dm ct0 lv lev lo hi ri sz ky vl go rt ep wq wn cn op cl ca ce kc nb th fo) (t0 : Nat) (hI : InvF lv lev lo hi ri sz ky vl go rt ep wq wn cn op cl ca ce kc nb 800 t0) :
    CT l yX3_keys cX3_keys 3 (some FieldType.int) { frames := 0, cells := 0, slots := 0, locals := 0 } [.ref (ad (10, 0))] G A (ad, dm, ct0) (fun v w' => ∃ ct', w' = (ad, dm, ct') ∧ MDF G ad dm ct' lv lev lo hi ri sz ky vl go rt ep wq wn cn op cl ca ce kc nb 0 fo ∧ XM ct0 ct' ∧ v = some (.int (nI kc))) (fun _ => False) (0) (0) := by
  refine ct_of (by decide) (Nat.le_of_ble_eq_true rfl) ?_
  intro p e s m below meth c ls F hr hlk hnm hex hE hW hl
  have hx := F.1
  have hb := F.2.1
  have hS : va_S A s.heap s.heap [] := va_S.rf
  have hl : lv_has ls 3 [(0, .ref (ad (10, 0)))] := hl
  have hX : XM ct0 ct0 := XM.rf
  have hI0 := hI
  obtain ⟨hP, hQ, hCu, hkc, hsum, ht, hep, hkt⟩ := hI
  have hb9 : nb ≤ 513 := by omega
  have hwn9 : wn ≤ 513 := by omega
  obtain ⟨hfr1, hfr2, hfr3⟩ := fr_spec hP hb9
  refine lv_aload_n hx hb dX3_keys_0 rfl (lv_at hl 0 rfl) ?_
  refine lv_iconst (v := nI 0) hx hb dX3_keys_1 (by decide) ?_
  refine mp_th (v := 0) F hE hW hS hM kw_606 dX3_keys_2 (fun ct H locs hW hM hX0 hS => ?_)
  have hX := hX.tr hX0
  refine lv_iconst (v := nI 0) hx hb dX3_keys_5 (by decide) ?_
  refine lv_istore_n (lv' := [(1, .int (nI 0)), (0, .ref (ad (10, 0)))]) hx hb dX3_keys_6 rfl hl (by decide) rfl (fun ls hl => ?_)
  refine lv_iconst (v := nI 0) hx hb dX3_keys_7 (by decide) ?_
  refine lv_istore_n (lv' := [(2, .int (nI 0)), (1, .int (nI 0)), (0, .ref (ad (10, 0)))]) hx hb dX3_keys_8 rfl hl (by decide) rfl (fun ls hl => ?_)
  suffices key : ∀ (d : Nat) (i : Nat) (n : Nat) (ct1 : Lb → va_E) (H : Heap) (locs : List Loc) (ls : Array Slot), i + d = 800 → n = sumN i (kcF lv lev sz) → MDF G ad dm ct1 lv lev lo hi ri sz ky vl go rt ep wq wn cn op cl ca ce kc nb 0 fo → XM ct0 ct1 → wd G A (ad, dm, ct1) H → va_S A s.heap H locs → lv_has ls 3 [(2, .int (nI i)), (1, .int (nI n)), (0, .ref (ad (10, 0)))] → W _ l e _ s m _ below meth c H locs 0 0 _ (F0 m 9 ls []) from
    key 800 0 0 _ _ _ ls (Nat.zero_add _) rfl hM hX hW hS hl
  clear hM hX hW hS hl
  intro d
  induction d with
  | zero =>
    intro i n ct H locs ls hi2 hn hM hX hW hS hl
    refine lv_iload_n hx hb dX3_keys_9 rfl (lv_at hl 0 rfl) ?_
    refine lv_sipush (v := nI 800) hx hb dX3_keys_10 (by decide) ?_
    refine nc_ge (tgt := 53) hx hb dX3_keys_13 (by decide) (by omega) (by omega) (fun c1 => ?_) (fun c1 => ?_)
    · refine lv_iload_n hx hb dX3_keys_53 rfl (lv_at hl 1 rfl) ?_
      have hn9 : n = sumN 800 (kcF lv lev sz) := by rw [hn, show i = 800 by omega]
      exact kr_i F hr hlk hE hW hS (Nat.le_of_ble_eq_true rfl) (Nat.le_of_ble_eq_true rfl) dX3_keys_54 (⟨_, rfl, hM, hX, by rw [hn9, ← hkc]⟩)
    · exact absurd c1 (by omega)
  | succ d ih =>
    intro i n ct H locs ls hi2 hn hM hX hW hS hl
    refine lv_iload_n hx hb dX3_keys_9 rfl (lv_at hl 0 rfl) ?_
    refine lv_sipush (v := nI 800) hx hb dX3_keys_10 (by decide) ?_
    refine nc_ge (tgt := 53) hx hb dX3_keys_13 (by decide) (by omega) (by omega) (fun c1 => ?_) (fun c1 => ?_)
    · exact absurd c1 (by omega)
    · refine lv_iload_n hx hb dX3_keys_16 rfl (lv_at hl 1 rfl) ?_
      refine lv_aload_n hx hb dX3_keys_17 rfl (lv_at hl 2 rfl) ?_
      refine kg F hE hW (10, 0) (hM.1 0 (by decide)) rfl hM.2.1 rfl inA_X3 1 (by decide) kw_607 (v := .ref (ad (10, 1))) rfl dX3_keys_18 ?_
      refine lv_iload_n hx hb dX3_keys_21 rfl (lv_at hl 0 rfl) ?_
      refine kl_z F hE hW (10, 1) (hM.1 1 (by decide)) rfl hM.2.2.1 i rfl (by omega) (by decide) dX3_keys_22 ?_
      cases hv : lv i with
      | false =>
        refine nz_eq (tgt := 44) hx hb dX3_keys_23 (by decide) (by decide) (fun c9 => ?_) (fun c9 => ?_)
        · refine lv_iconst (v := nI 0) hx hb dX3_keys_44 (by decide) ?_
          refine lv_iadd hx hb dX3_keys_45 ?_
          refine ktop (nI_add _ _) ?_
          refine lv_istore_n (lv' := [(1, .int (nI (n + 0))), (2, .int (nI i)), (0, .ref (ad (10, 0)))]) hx hb dX3_keys_46 rfl hl (by decide) rfl (fun ls hl => ?_)
          refine lv_iinc (v := nI (i + 1)) (lv' := [(2, .int (nI (i + 1))), (1, .int (nI (n + 0))), (0, .ref (ad (10, 0)))]) hx hb dX3_keys_47 hl (k := 1) rfl (ki1 _) (by decide) rfl (fun ls hl => ?_)
          refine lv_goto (tgt := 9) hx hb dX3_keys_50 (by decide) ?_
          exact ih (i + 1) (n + 0) _ _ _ _ (by omega) (by rw [sumN_s, ← hn, show kcF lv lev sz i = 0 from kc_no hv]) hM hX hW hS (lv_sub hl [0, 1, 2] rfl)
        · exact absurd c9 (by decide)
      | true =>
        refine nz_eq (tgt := 44) hx hb dX3_keys_23 (by decide) (by decide) (fun c9 => ?_) (fun c9 => ?_)
        · exact absurd c9 (by decide)
        · refine lv_aload_n hx hb dX3_keys_26 rfl (lv_at hl 2 rfl) ?_
          refine kg F hE hW (10, 0) (hM.1 0 (by decide)) rfl hM.2.1 rfl inA_X3 2 (by decide) kw_608 (v := .ref (ad (10, 2))) rfl dX3_keys_27 ?_
          refine lv_iload_n hx hb dX3_keys_30 rfl (lv_at hl 0 rfl) ?_
          refine kl_i F hE hW (10, 2) (hM.1 2 (by decide)) rfl hM.2.2.2.1 i rfl (by omega) (by decide) dX3_keys_31 ?_
          obtain ⟨u1, u2, u3, u4, u5, u6⟩ := pg_bd hP hb9 hv
          refine nz_ne (tgt := 44) hx hb dX3_keys_32 (by decide) (by omega) (fun c2 => ?_) (fun c2 => ?_)
          · refine lv_iconst (v := nI 0) hx hb dX3_keys_44 (by decide) ?_
            refine lv_iadd hx hb dX3_keys_45 ?_
            refine ktop (nI_add _ _) ?_
            refine lv_istore_n (lv' := [(1, .int (nI (n + 0))), (2, .int (nI i)), (0, .ref (ad (10, 0)))]) hx hb dX3_keys_46 rfl hl (by decide) rfl (fun ls hl => ?_)
            refine lv_iinc (v := nI (i + 1)) (lv' := [(2, .int (nI (i + 1))), (1, .int (nI (n + 0))), (0, .ref (ad (10, 0)))]) hx hb dX3_keys_47 hl (k := 1) rfl (ki1 _) (by decide) rfl (fun ls hl => ?_)
            refine lv_goto (tgt := 9) hx hb dX3_keys_50 (by decide) ?_
            exact ih (i + 1) (n + 0) _ _ _ _ (by omega) (by rw [sumN_s, ← hn, kc_at hv, if_neg c2]) hM hX hW hS (lv_sub hl [0, 1, 2] rfl)
          · refine lv_aload_n hx hb dX3_keys_35 rfl (lv_at hl 2 rfl) ?_
            refine kg F hE hW (10, 0) (hM.1 0 (by decide)) rfl hM.2.1 rfl inA_X3 6 (by decide) kw_612 (v := .ref (ad (10, 6))) rfl dX3_keys_36 ?_
            refine lv_iload_n hx hb dX3_keys_39 rfl (lv_at hl 0 rfl) ?_
            refine kl_i F hE hW (10, 6) (hM.1 6 (by decide)) rfl hM.2.2.2.2.2.2.2.1 i rfl (by omega) (by decide) dX3_keys_40 ?_
            refine lv_goto (tgt := 45) hx hb dX3_keys_41 (by decide) ?_
            refine lv_iadd hx hb dX3_keys_45 ?_
            refine ktop (nI_add _ _) ?_
            refine lv_istore_n (lv' := [(1, .int (nI (n + (sz i)))), (2, .int (nI i)), (0, .ref (ad (10, 0)))]) hx hb dX3_keys_46 rfl hl (by decide) rfl (fun ls hl => ?_)
            refine lv_iinc (v := nI (i + 1)) (lv' := [(2, .int (nI (i + 1))), (1, .int (nI (n + (sz i)))), (0, .ref (ad (10, 0)))]) hx hb dX3_keys_47 hl (k := 1) rfl (ki1 _) (by decide) rfl (fun ls hl => ?_)
            refine lv_goto (tgt := 9) hx hb dX3_keys_50 (by decide) ?_
            exact ih (i + 1) (n + sz i) _ _ _ _ (by omega) (by rw [sumN_s, ← hn, kc_at hv, if_pos c2]) hM hX hW hS (lv_sub hl [0, 1, 2] rfl)
set_option maxRecDepth 100000 in
set_option maxHeartbeats 4000000 in
theorem c_X3_post (l : Launch) (G : GG) (A : Nat → Prop) (ad : Lb → Nat) (dm : Lb → Prop) (ct0 : Lb → va_E) (lv : Nat → Bool) (lev : Nat → Nat) (lo : Nat → Nat) (hi : Nat → Nat) (ri : Nat → Option Nat) (sz : Nat → Nat) (ky : Nat → Nat) (vl : Nat → Nat) (go : Nat → Option Nat) (rt : Nat) (ep : Nat) (wq : Nat → Nat) (wn : Nat) (cn : Nat) (op : Nat → Bool) (cl : Nat → Nat) (ca : Nat → Nat) (ce : Nat → Nat) (kc : Nat) (nb : Nat) (th fo : Nat) (hM : MDF G ad dm ct0 lv lev lo hi ri sz ky vl go rt ep wq wn cn op cl ca ce kc nb th fo) (t0 : Nat) (hI : InvF lv lev lo hi ri sz ky vl go rt ep wq wn cn op cl ca ce kc nb 800 t0) :
    CT l yX3_post cX3_post 1 (some FieldType.int) { frames := 4, cells := 0, slots := 0, locals := 94 } [.ref (ad (10, 0))] G A (ad, dm, ct0) (fun v w' => ∃ ct' th' fo' s', w' = (ad, dm, ct') ∧ MD G ad dm ct' s' th' fo' ∧ XM ct0 ct' ∧ ((0 < wn ∧ th' = 0 ∧ s' = posS (lv, lev, lo, hi, ri, sz, ky, vl, go, rt, ep, wq, wn, cn, op, cl, ca, ce, kc, nb) ∧ v = some (.int (nI (waits s')))) ∨ (wn = 0 ∧ th' = 1 ∧ s' = (lv, lev, lo, hi, ri, sz, ky, vl, go, rt, ep, wq, wn, cn, op, cl, ca, ce, kc, nb) ∧ v = some (.int (nI 0))))) (fun _ => False) (0) (0) := by
  refine ct_of (by decide) (Nat.le_of_ble_eq_true rfl) ?_
  intro p e s m below meth c ls F hr hlk hnm hex hE hW hl
  have hx := F.1
  have hb := F.2.1
  have hS : va_S A s.heap s.heap [] := va_S.rf
  have hl : lv_has ls 1 [(0, .ref (ad (10, 0)))] := hl
  have hX : XM ct0 ct0 := XM.rf
  have hI0 := hI
  obtain ⟨hP, hQ, hCu, hkc, hsum, ht, hep, hkt⟩ := hI
  have hb9 : nb ≤ 513 := by omega
  have hwn9 : wn ≤ 513 := by omega
  obtain ⟨hfr1, hfr2, hfr3⟩ := fr_spec hP hb9
  refine lv_aload_n hx hb dX3_post_0 rfl (lv_at hl 0 rfl) ?_
  refine lv_aload_n hx hb dX3_post_1 rfl (lv_at hl 0 rfl) ?_
  refine kg F hE hW (10, 0) (hM.1 0 (by decide)) rfl hM.2.1 rfl inA_X3 13 (by decide) kw_619 (v := .int (nI wn)) rfl dX3_post_2 ?_
  refine nz_ne (tgt := 12) hx hb dX3_post_5 (by decide) (by omega) (fun c1 => ?_) (fun c1 => ?_)
  · refine lv_iconst (v := nI 0) hx hb dX3_post_12 (by decide) ?_
    refine kc_V 1 (c_X3_holds l G A ad dm ct0 lv lev lo hi ri sz ky vl go rt ep wq wn cn op cl ca ce kc nb th fo hM 0 (by decide)) F hE hW hS (10, 0) (hM.1 0 (by decide)) hM.2.1 rfl [.int (nI 0)] rfl kw_682 kw_684 kp_16 kw_6 kw_685 (by decide +kernel) rfl ⟨rfl, rfl⟩ ⟨Nat.le_of_ble_eq_true rfl, Nat.le_of_ble_eq_true rfl⟩ hl.1 rfl (Nat.le_of_ble_eq_true rfl) dX3_post_13 ⟨Nat.le_of_ble_eq_true rfl, Nat.le_of_ble_eq_true rfl⟩ (fun _ _ _ _ _ h => h.elim) (fun v w' H locs hp hW hS => ?_)
    obtain ⟨ct2, rfl, hM, hX0, ⟨-, rfl⟩ | ⟨hq9, -⟩⟩ := hp
    · have hX := hX.tr hX0
      refine nz_ne (tgt := 21) hx hb dX3_post_16 (by decide) (by decide) (fun c9 => ?_) (fun c9 => ?_)
      · refine lv_aload_n hx hb dX3_post_21 rfl (lv_at hl 0 rfl) ?_
        refine kc_V 0 (c_X3_posts l G A ad dm ct2 lv lev lo hi ri sz ky vl go rt ep wq wn cn op cl ca ce kc nb 0 fo hM t0 hI0 (Nat.pos_of_ne_zero c1)) F hE hW hS (10, 0) (hM.1 0 (by decide)) hM.2.1 rfl [] rfl kw_742 kw_744 kp_25 kw_6 kw_745 (by decide +kernel) rfl ⟨rfl, rfl⟩ ⟨Nat.le_of_ble_eq_true rfl, Nat.le_of_ble_eq_true rfl⟩ hl.1 rfl (Nat.le_of_ble_eq_true rfl) dX3_post_22 ⟨Nat.le_of_ble_eq_true rfl, Nat.le_of_ble_eq_true rfl⟩ (fun _ _ _ _ _ h => h.elim) (fun v w' H locs hp hW hS => ?_)
        obtain ⟨ct3, fo3, rfl, hM, hX0, rfl⟩ := hp
        have hX := hX.tr hX0
        generalize hs2 : posS (lv, lev, lo, hi, ri, sz, ky, vl, go, rt, ep, wq, wn, cn, op, cl, ca, ce, kc, nb) = s2 at hM
        obtain ⟨lv2, lev2, lo2, hi2, ri2, sz2, ky2, vl2, go2, rt2, ep2, wq2, wn2, cn2, op2, cl2, ca2, ce2, kc2, nb2⟩ := s2
        refine lv_aload_n hx hb dX3_post_25 rfl (lv_at hl 0 rfl) ?_
        refine kg F hE hW (10, 0) (hM.1 0 (by decide)) rfl hM.2.1 rfl inA_X3 13 (by decide) kw_619 (v := .int (nI wn2)) rfl dX3_post_26 ?_
        exact kr_i F hr hlk hE hW hS (Nat.le_of_ble_eq_true rfl) (Nat.le_of_ble_eq_true rfl) dX3_post_29 (⟨_, _, _, _, rfl, hM, hX, Or.inl ⟨Nat.pos_of_ne_zero c1, rfl, rfl, rfl⟩⟩)
      · exact absurd c9 (by decide)
    · exact absurd hq9 (by decide)
  · refine lv_iconst (v := nI 1) hx hb dX3_post_8 (by decide) ?_
    refine lv_goto (tgt := 13) hx hb dX3_post_9 (by decide) ?_
    refine kc_V 1 (c_X3_holds l G A ad dm ct0 lv lev lo hi ri sz ky vl go rt ep wq wn cn op cl ca ce kc nb th fo hM 1 (by decide)) F hE hW hS (10, 0) (hM.1 0 (by decide)) hM.2.1 rfl [.int (nI 1)] rfl kw_682 kw_684 kp_16 kw_6 kw_685 (by decide +kernel) rfl ⟨rfl, rfl⟩ ⟨Nat.le_of_ble_eq_true rfl, Nat.le_of_ble_eq_true rfl⟩ hl.1 rfl (Nat.le_of_ble_eq_true rfl) dX3_post_13 ⟨Nat.le_of_ble_eq_true rfl, Nat.le_of_ble_eq_true rfl⟩ (fun _ _ _ _ _ h => h.elim) (fun v w' H locs hp hW hS => ?_)
    obtain ⟨ct2, rfl, hM, hX0, ⟨hq9, -⟩ | ⟨-, rfl⟩⟩ := hp
    · exact absurd hq9 (by decide)
    · have hX := hX.tr hX0
      refine nz_ne (tgt := 21) hx hb dX3_post_16 (by decide) (by decide) (fun c9 => ?_) (fun c9 => ?_)
      · exact absurd c9 (by decide)
      · refine lv_iconst (v := nI 0) hx hb dX3_post_19 (by decide) ?_
        exact kr_i F hr hlk hE hW hS (Nat.le_of_ble_eq_true rfl) (Nat.le_of_ble_eq_true rfl) dX3_post_20 (⟨_, _, _, (lv, lev, lo, hi, ri, sz, ky, vl, go, rt, ep, wq, wn, cn, op, cl, ca, ce, kc, nb), rfl, hM, hX, Or.inr ⟨c1, rfl, rfl, rfl⟩⟩)
set_option maxRecDepth 100000 in
set_option maxHeartbeats 4000000 in
theorem c_X3_postAll (l : Launch) (G : GG) (A : Nat → Prop) (ad : Lb → Nat) (dm : Lb → Prop) (ct0 : Lb → va_E) (lv : Nat → Bool) (lev : Nat → Nat) (lo : Nat → Nat) (hi : Nat → Nat) (ri : Nat → Option Nat) (sz : Nat → Nat) (ky : Nat → Nat) (vl : Nat → Nat) (go : Nat → Option Nat) (rt : Nat) (ep : Nat) (wq : Nat → Nat) (wn : Nat) (cn : Nat) (op : Nat → Bool) (cl : Nat → Nat) (ca : Nat → Nat) (ce : Nat → Nat) (kc : Nat) (nb : Nat) (th fo : Nat) (hM : MDF G ad dm ct0 lv lev lo hi ri sz ky vl go rt ep wq wn cn op cl ca ce kc nb th fo) (t0 : Nat) (hI : InvF lv lev lo hi ri sz ky vl go rt ep wq wn cn op cl ca ce kc nb 800 t0) :
    CT l yX3_postAll cX3_postAll 2 (some FieldType.int) { frames := 4, cells := 0, slots := 0, locals := 94 } [.ref (ad (10, 0))] G A (ad, dm, ct0) (fun v w' => ∃ ct' th' fo' s', w' = (ad, dm, ct') ∧ MD G ad dm ct' s' th' fo' ∧ XM ct0 ct' ∧ th' = 0 ∧ s' = (paS 1024 (lv, lev, lo, hi, ri, sz, ky, vl, go, rt, ep, wq, wn, cn, op, cl, ca, ce, kc, nb)).1 ∧ v = some (.int (nI (paS 1024 (lv, lev, lo, hi, ri, sz, ky, vl, go, rt, ep, wq, wn, cn, op, cl, ca, ce, kc, nb)).2))) (fun _ => False) (0) (0) := by
  refine ct_of (by decide) (Nat.le_of_ble_eq_true rfl) ?_
  intro p e s m below meth c ls F hr hlk hnm hex hE hW hl
  have hx := F.1
  have hb := F.2.1
  have hS : va_S A s.heap s.heap [] := va_S.rf
  have hl : lv_has ls 2 [(0, .ref (ad (10, 0)))] := hl
  have hX : XM ct0 ct0 := XM.rf
  refine lv_aload_n hx hb dX3_postAll_0 rfl (lv_at hl 0 rfl) ?_
  refine lv_iconst (v := nI 0) hx hb dX3_postAll_1 (by decide) ?_
  refine mp_th (v := 0) F hE hW hS hM kw_606 dX3_postAll_2 (fun ct H locs hW hM hX0 hS => ?_)
  have hX := hX.tr hX0
  refine lv_iconst (v := nI 0) hx hb dX3_postAll_5 (by decide) ?_
  refine lv_istore_n (lv' := [(1, .int (nI 0)), (0, .ref (ad (10, 0)))]) hx hb dX3_postAll_6 rfl hl (by decide) rfl (fun ls hl => ?_)
  have hI1 : Inv (lv, lev, lo, hi, ri, sz, ky, vl, go, rt, ep, wq, wn, cn, op, cl, ca, ce, kc, nb) t0 := hI
  have hmu := inv_room hI1
  suffices key : ∀ (d n fo1 : Nat) (s1 : SG) (ct1 : Lb → va_E) (H : Heap) (locs : List Loc) (ls : Array Slot), Inv s1 t0 → sumE s1 + 2 * waits s1 ≤ d → (paS d s1).1 = (paS 1024 (lv, lev, lo, hi, ri, sz, ky, vl, go, rt, ep, wq, wn, cn, op, cl, ca, ce, kc, nb)).1 → n + (paS d s1).2 = (paS 1024 (lv, lev, lo, hi, ri, sz, ky, vl, go, rt, ep, wq, wn, cn, op, cl, ca, ce, kc, nb)).2 → MD G ad dm ct1 s1 0 fo1 → XM ct0 ct1 → wd G A (ad, dm, ct1) H → va_S A s.heap H locs → lv_has ls 2 [(1, .int (nI n)), (0, .ref (ad (10, 0)))] → W _ l e _ s m _ below meth c H locs 0 0 _ (F0 m 7 ls []) from
   key 1024 0 fo (lv, lev, lo, hi, ri, sz, ky, vl, go, rt, ep, wq, wn, cn, op, cl, ca, ce, kc, nb) _ _ _ ls hI1 hmu rfl (Nat.zero_add _) hM hX hW hS hl
  clear hM hX hW hS hl hI hI1 hmu
  generalize (paS 1024 (lv, lev, lo, hi, ri, sz, ky, vl, go, rt, ep, wq, wn, cn, op, cl, ca, ce, kc, nb)) = RR
  intro d
  induction d with
  | zero =>
    intro n fo1 s1 ct H locs ls hI1 hmu hr1 hr2 hM hX hW hS hl
    obtain ⟨lv2, lev2, lo2, hi2, ri2, sz2, ky2, vl2, go2, rt2, ep2, wq2, wn2, cn2, op2, cl2, ca2, ce2, kc2, nb2⟩ := s1
    have hI0 := hI1
    obtain ⟨hP, hQ, hCu, hkc, hsum, ht, hep, hkt⟩ := hI1
    have hwn9 : wn2 ≤ 513 := by omega
    have hw0 : wn2 = 0 := by have h9 : waits (lv2, lev2, lo2, hi2, ri2, sz2, ky2, vl2, go2, rt2, ep2, wq2, wn2, cn2, op2, cl2, ca2, ce2, kc2, nb2) = wn2 := rfl; omega
    refine lv_aload_n hx hb dX3_postAll_7 rfl (lv_at hl 1 rfl) ?_
    refine kg F hE hW (10, 0) (hM.1 0 (by decide)) rfl hM.2.1 rfl inA_X3 13 (by decide) kw_619 (v := .int (nI wn2)) rfl dX3_postAll_8 ?_
    refine nz_le (tgt := 24) hx hb dX3_postAll_11 (by decide) (by omega) (fun c1 => ?_) (fun c1 => ?_)
    · refine lv_iload_n hx hb dX3_postAll_24 rfl (lv_at hl 0 rfl) ?_
      have h2 : n = RR.2 := hr2
      exact kr_i F hr hlk hE hW hS (Nat.le_of_ble_eq_true rfl) (Nat.le_of_ble_eq_true rfl) dX3_postAll_25 (⟨_, _, _, (lv2, lev2, lo2, hi2, ri2, sz2, ky2, vl2, go2, rt2, ep2, wq2, wn2, cn2, op2, cl2, ca2, ce2, kc2, nb2), rfl, hM, hX, rfl, hr1, by rw [h2]⟩)
    · exact absurd c1 (by omega)
  | succ d ih =>
    intro n fo1 s1 ct H locs ls hI1 hmu hr1 hr2 hM hX hW hS hl
    obtain ⟨lv2, lev2, lo2, hi2, ri2, sz2, ky2, vl2, go2, rt2, ep2, wq2, wn2, cn2, op2, cl2, ca2, ce2, kc2, nb2⟩ := s1
    have hI0 := hI1
    obtain ⟨hP, hQ, hCu, hkc, hsum, ht, hep, hkt⟩ := hI1
    have hwn9 : wn2 ≤ 513 := by omega
    unfold paS at hr1 hr2
    refine lv_aload_n hx hb dX3_postAll_7 rfl (lv_at hl 1 rfl) ?_
    refine kg F hE hW (10, 0) (hM.1 0 (by decide)) rfl hM.2.1 rfl inA_X3 13 (by decide) kw_619 (v := .int (nI wn2)) rfl dX3_postAll_8 ?_
    refine nz_le (tgt := 24) hx hb dX3_postAll_11 (by decide) (by omega) (fun c1 => ?_) (fun c1 => ?_)
    · have hw0 : waits (lv2, lev2, lo2, hi2, ri2, sz2, ky2, vl2, go2, rt2, ep2, wq2, wn2, cn2, op2, cl2, ca2, ce2, kc2, nb2) = 0 := c1
      rw [if_pos hw0] at hr1 hr2
      have h2 : n = RR.2 := hr2
      refine lv_iload_n hx hb dX3_postAll_24 rfl (lv_at hl 0 rfl) ?_
      exact kr_i F hr hlk hE hW hS (Nat.le_of_ble_eq_true rfl) (Nat.le_of_ble_eq_true rfl) dX3_postAll_25 (⟨_, _, _, (lv2, lev2, lo2, hi2, ri2, sz2, ky2, vl2, go2, rt2, ep2, wq2, wn2, cn2, op2, cl2, ca2, ce2, kc2, nb2), rfl, hM, hX, rfl, hr1, by rw [h2]⟩)
    · have hw0 : ¬ waits (lv2, lev2, lo2, hi2, ri2, sz2, ky2, vl2, go2, rt2, ep2, wq2, wn2, cn2, op2, cl2, ca2, ce2, kc2, nb2) = 0 := fun h => absurd (show wn2 = 0 from h) (by omega)
      rw [if_neg hw0] at hr1 hr2
      dsimp only at hr1 hr2
      obtain ⟨i1, i2⟩ := inv_pos hI0 (Nat.pos_of_ne_zero hw0)
      refine lv_aload_n hx hb dX3_postAll_14 rfl (lv_at hl 1 rfl) ?_
      refine kc_V 0 (c_X3_posts l G A ad dm ct lv2 lev2 lo2 hi2 ri2 sz2 ky2 vl2 go2 rt2 ep2 wq2 wn2 cn2 op2 cl2 ca2 ce2 kc2 nb2 0 fo1 hM t0 hI0 c1) F hE hW hS (10, 0) (hM.1 0 (by decide)) hM.2.1 rfl [] rfl kw_742 kw_744 kp_25 kw_6 kw_745 (by decide +kernel) rfl ⟨rfl, rfl⟩ ⟨Nat.le_of_ble_eq_true rfl, Nat.le_of_ble_eq_true rfl⟩ hl.1 rfl (Nat.le_of_ble_eq_true rfl) dX3_postAll_15 ⟨Nat.le_of_ble_eq_true rfl, Nat.le_of_ble_eq_true rfl⟩ (fun _ _ _ _ _ h => h.elim) (fun v w' H locs hp hW hS => ?_)
      obtain ⟨ct3, fo3, rfl, hM, hX0, rfl⟩ := hp
      have hX := hX.tr hX0
      refine lv_iinc (v := nI (n + 1)) (lv' := [(1, .int (nI (n + 1))), (0, .ref (ad (10, 0)))]) hx hb dX3_postAll_18 hl (k := 0) rfl (ki1 _) (by decide) rfl (fun ls hl => ?_)
      refine lv_goto (tgt := 7) hx hb dX3_postAll_21 (by decide) ?_
      exact ih (n + 1) _ _ _ _ _ _ i1 (by omega) hr1 (by omega) hM hX hW hS (lv_sub hl [0, 1] rfl)
