/-! The reference: what it tells of pages; cursors. -/
theorem lI_1 (c : Nat) : lI c + nI 1 = nI c := by unfold lI; rw [Int32.sub_add_cancel]
def kyA (sz ky : Nat → Nat) (j c : Nat) : Option Nat := if c < sz j then some (ky (5 * j + c)) else none
def blA (lev sz vl : Nat → Nat) (j c : Nat) : Option Nat := if c < sz j ∧ 0 < lev j then some (vl (5 * j + c)) else none
set_option maxRecDepth 100000 in
set_option maxHeartbeats 4000000 in
theorem c_X3_isPage (l : Launch) (G : GG) (A : Nat → Prop) (ad : Lb → Nat) (dm : Lb → Prop) (ct0 : Lb → va_E) (lv : Nat → Bool) (lev : Nat → Nat) (lo : Nat → Nat) (hi : Nat → Nat) (ri : Nat → Option Nat) (sz : Nat → Nat) (ky : Nat → Nat) (vl : Nat → Nat) (go : Nat → Option Nat) (rt : Nat) (ep : Nat) (wq : Nat → Nat) (wn : Nat) (cn : Nat) (op : Nat → Bool) (cl : Nat → Nat) (ca : Nat → Nat) (ce : Nat → Nat) (kc : Nat) (nb : Nat) (th fo : Nat) (hM : MDF G ad dm ct0 lv lev lo hi ri sz ky vl go rt ep wq wn cn op cl ca ce kc nb th fo) (hlv : ∀ j, lv j = true → j < 800) (x : Int32) :
    CT l yX3_isPage cX3_isPage 2 (some FieldType.boolean) { frames := 1, cells := 0, slots := 0, locals := 22 } [.ref (ad (10, 0)), .int x] G A (ad, dm, ct0) (fun v w' => (ad, dm, ct0) = w' ∧ ((v = some (.int (nI 1)) ∧ ∃ j, x = nI j ∧ lv j = true) ∨ (v = some (.int (nI 0)) ∧ ∀ j, lv j = true → x ≠ nI j))) (fun _ => False) (0) (0) := by
  refine ct_of (by decide) (Nat.le_of_ble_eq_true rfl) ?_
  intro p e s m below meth c ls F hr hlk hnm hex hE hW hl
  have hx := F.1
  have hb := F.2.1
  have hS : va_S A s.heap s.heap [] := va_S.rf
  have hl : lv_has ls 2 [(0, .ref (ad (10, 0))), (1, .int x)] := hl
  have hX : XM ct0 ct0 := XM.rf
  refine lv_iload_n hx hb dX3_isPage_0 rfl (lv_at hl 1 rfl) ?_
  refine lv_iconst (v := nI 0) hx hb dX3_isPage_1 (by decide) ?_
  refine lv_sipush (v := nI 799) hx hb dX3_isPage_2 (by decide) ?_
  refine ktop (y := lI 800) (by decide) ?_
  refine kc_S 3 (c_X3_in l G A ad dm ct0 x 800 (by omega)) F hE hW hS kw_679 kw_680 kw_6 kw_681 (by decide +kernel) rfl ⟨rfl, rfl⟩ ⟨Nat.le_of_ble_eq_true rfl, Nat.le_of_ble_eq_true rfl⟩ hl.1 rfl (Nat.le_of_ble_eq_true rfl) dX3_isPage_5 ⟨Nat.le_of_ble_eq_true rfl, Nat.le_of_ble_eq_true rfl⟩ (fun _ _ _ _ _ h => h.elim) (fun v w' H locs hp hW hS => ?_)
  obtain ⟨rfl, ⟨rfl, j, hj, rfl⟩ | ⟨rfl, hno⟩⟩ := hp
  · refine nz_eq (tgt := 24) hx hb dX3_isPage_8 (by decide) (by decide) (fun c9 => ?_) (fun c9 => ?_)
    · exact absurd c9 (by decide)
    · refine lv_aload_n hx hb dX3_isPage_11 rfl (lv_at hl 0 rfl) ?_
      refine kg F hE hW (10, 0) (hM.1 0 (by decide)) rfl hM.2.1 rfl inA_X3 1 (by decide) kw_607 (v := .ref (ad (10, 1))) rfl dX3_isPage_12 ?_
      refine lv_iload_n hx hb dX3_isPage_15 rfl (lv_at hl 1 rfl) ?_
      refine kl_z F hE hW (10, 1) (hM.1 1 (by decide)) rfl hM.2.2.1 j rfl (by omega) (by decide) dX3_isPage_16 ?_
      cases hv : lv j with
      | false =>
        refine nz_eq (tgt := 24) hx hb dX3_isPage_17 (by decide) (by decide) (fun c9 => ?_) (fun c9 => ?_)
        · refine lv_iconst (v := nI 0) hx hb dX3_isPage_24 (by decide) ?_
          exact kr_z F hr hlk hE hW hS (Nat.le_of_ble_eq_true rfl) (Nat.le_of_ble_eq_true rfl) rfl dX3_isPage_25 (⟨rfl, Or.inr ⟨rfl, fun i hi9 e => by rw [nI_inj (by omega) (by have := hlv i hi9; omega) e, hi9] at hv; cases hv⟩⟩)
        · exact absurd c9 (by decide)
      | true =>
        refine nz_eq (tgt := 24) hx hb dX3_isPage_17 (by decide) (by decide) (fun c9 => ?_) (fun c9 => ?_)
        · exact absurd c9 (by decide)
        · refine lv_iconst (v := nI 1) hx hb dX3_isPage_20 (by decide) ?_
          refine lv_goto (tgt := 25) hx hb dX3_isPage_21 (by decide) ?_
          exact kr_z F hr hlk hE hW hS (Nat.le_of_ble_eq_true rfl) (Nat.le_of_ble_eq_true rfl) rfl dX3_isPage_25 (⟨rfl, Or.inl ⟨rfl, j, rfl, hv⟩⟩)
  · refine nz_eq (tgt := 24) hx hb dX3_isPage_8 (by decide) (by decide) (fun c9 => ?_) (fun c9 => ?_)
    · refine lv_iconst (v := nI 0) hx hb dX3_isPage_24 (by decide) ?_
      exact kr_z F hr hlk hE hW hS (Nat.le_of_ble_eq_true rfl) (Nat.le_of_ble_eq_true rfl) rfl dX3_isPage_25 (⟨rfl, Or.inr ⟨rfl, fun j hj => hno j (hlv j hj)⟩⟩)
    · exact absurd c9 (by decide)
set_option maxRecDepth 100000 in
set_option maxHeartbeats 4000000 in
theorem c_X3_level (l : Launch) (G : GG) (A : Nat → Prop) (ad : Lb → Nat) (dm : Lb → Prop) (ct0 : Lb → va_E) (lv : Nat → Bool) (lev : Nat → Nat) (lo : Nat → Nat) (hi : Nat → Nat) (ri : Nat → Option Nat) (sz : Nat → Nat) (ky : Nat → Nat) (vl : Nat → Nat) (go : Nat → Option Nat) (rt : Nat) (ep : Nat) (wq : Nat → Nat) (wn : Nat) (cn : Nat) (op : Nat → Bool) (cl : Nat → Nat) (ca : Nat → Nat) (ce : Nat → Nat) (kc : Nat) (nb : Nat) (th fo : Nat) (hM : MDF G ad dm ct0 lv lev lo hi ri sz ky vl go rt ep wq wn cn op cl ca ce kc nb th fo) (t0 : Nat) (hI : InvF lv lev lo hi ri sz ky vl go rt ep wq wn cn op cl ca ce kc nb 800 t0) (x : Int32) :
    CT l yX3_level cX3_level 2 (some FieldType.int) { frames := 2, cells := 0, slots := 0, locals := 43 } [.ref (ad (10, 0)), .int x] G A (ad, dm, ct0) (fun v w' => ∃ ct' th', w' = (ad, dm, ct') ∧ MDF G ad dm ct' lv lev lo hi ri sz ky vl go rt ep wq wn cn op cl ca ce kc nb th' fo ∧ XM ct0 ct' ∧ ((∃ j, x = nI j ∧ lv j = true ∧ th' = 0 ∧ v = some (.int (nI (lev j)))) ∨ ((∀ j, lv j = true → x ≠ nI j) ∧ th' = 1 ∧ v = some (.int (nI 0))))) (fun _ => False) (0) (0) := by
  refine ct_of (by decide) (Nat.le_of_ble_eq_true rfl) ?_
  intro p e s m below meth c ls F hr hlk hnm hex hE hW hl
  have hx := F.1
  have hb := F.2.1
  have hS : va_S A s.heap s.heap [] := va_S.rf
  have hl : lv_has ls 2 [(0, .ref (ad (10, 0))), (1, .int x)] := hl
  have hX : XM ct0 ct0 := XM.rf
  have hI0 := hI
  obtain ⟨hP, hQ, hCu, hkc, hsum, ht, hep, hkt⟩ := hI
  have hb9 : nb ≤ 513 := by omega
  have hwn9 : wn ≤ 513 := by omega
  obtain ⟨hfr1, hfr2, hfr3⟩ := fr_spec hP hb9
  refine lv_aload_n hx hb dX3_level_0 rfl (lv_at hl 0 rfl) ?_
  refine lv_aload_n hx hb dX3_level_1 rfl (lv_at hl 0 rfl) ?_
  refine lv_iload_n hx hb dX3_level_2 rfl (lv_at hl 1 rfl) ?_
  refine kc_V 1 (c_X3_isPage l G A ad dm ct0 lv lev lo hi ri sz ky vl go rt ep wq wn cn op cl ca ce kc nb th fo hM (fun j hj => by have := (hP.1 j hj).1; omega) x) F hE hW hS (10, 0) (hM.1 0 (by decide)) hM.2.1 rfl [.int x] rfl kw_786 kw_788 kp_28 kw_6 kw_789 (by decide +kernel) rfl ⟨rfl, rfl⟩ ⟨Nat.le_of_ble_eq_true rfl, Nat.le_of_ble_eq_true rfl⟩ hl.1 rfl (Nat.le_of_ble_eq_true rfl) dX3_level_3 ⟨Nat.le_of_ble_eq_true rfl, Nat.le_of_ble_eq_true rfl⟩ (fun _ _ _ _ _ h => h.elim) (fun v w' H locs hp hW hS => ?_)
  obtain ⟨rfl, ⟨rfl, j, rfl, hv⟩ | ⟨rfl, hno⟩⟩ := hp
  · obtain ⟨u1, u2, u3, u4, u5, u6⟩ := pg_bd hP hb9 hv
    refine nz_eq (tgt := 13) hx hb dX3_level_6 (by decide) (by decide) (fun c9 => ?_) (fun c9 => ?_)
    · exact absurd c9 (by decide)
    · refine lv_iconst (v := nI 0) hx hb dX3_level_9 (by decide) ?_
      refine lv_goto (tgt := 14) hx hb dX3_level_10 (by decide) ?_
      refine kc_V 1 (c_X3_holds l G A ad dm ct0 lv lev lo hi ri sz ky vl go rt ep wq wn cn op cl ca ce kc nb th fo hM 0 (by decide)) F hE hW hS (10, 0) (hM.1 0 (by decide)) hM.2.1 rfl [.int (nI 0)] rfl kw_682 kw_684 kp_16 kw_6 kw_685 (by decide +kernel) rfl ⟨rfl, rfl⟩ ⟨Nat.le_of_ble_eq_true rfl, Nat.le_of_ble_eq_true rfl⟩ hl.1 rfl (Nat.le_of_ble_eq_true rfl) dX3_level_14 ⟨Nat.le_of_ble_eq_true rfl, Nat.le_of_ble_eq_true rfl⟩ (fun _ _ _ _ _ h => h.elim) (fun v w' H locs hp hW hS => ?_)
      obtain ⟨ct2, rfl, hM, hX0, ⟨-, rfl⟩ | ⟨hq9, -⟩⟩ := hp
      · have hX := hX.tr hX0
        refine nz_eq (tgt := 29) hx hb dX3_level_17 (by decide) (by decide) (fun c9 => ?_) (fun c9 => ?_)
        · exact absurd c9 (by decide)
        · refine lv_aload_n hx hb dX3_level_20 rfl (lv_at hl 0 rfl) ?_
          refine kg F hE hW (10, 0) (hM.1 0 (by decide)) rfl hM.2.1 rfl inA_X3 2 (by decide) kw_608 (v := .ref (ad (10, 2))) rfl dX3_level_21 ?_
          refine lv_iload_n hx hb dX3_level_24 rfl (lv_at hl 1 rfl) ?_
          refine kl_i F hE hW (10, 2) (hM.1 2 (by decide)) rfl hM.2.2.2.1 j rfl (by omega) (by decide) dX3_level_25 ?_
          refine lv_goto (tgt := 30) hx hb dX3_level_26 (by decide) ?_
          exact kr_i F hr hlk hE hW hS (Nat.le_of_ble_eq_true rfl) (Nat.le_of_ble_eq_true rfl) dX3_level_30 (⟨_, _, rfl, hM, hX, Or.inl ⟨j, rfl, hv, rfl, rfl⟩⟩)
      · exact absurd hq9 (by decide)
  · refine nz_eq (tgt := 13) hx hb dX3_level_6 (by decide) (by decide) (fun c9 => ?_) (fun c9 => ?_)
    · refine lv_iconst (v := nI 1) hx hb dX3_level_13 (by decide) ?_
      refine kc_V 1 (c_X3_holds l G A ad dm ct0 lv lev lo hi ri sz ky vl go rt ep wq wn cn op cl ca ce kc nb th fo hM 1 (by decide)) F hE hW hS (10, 0) (hM.1 0 (by decide)) hM.2.1 rfl [.int (nI 1)] rfl kw_682 kw_684 kp_16 kw_6 kw_685 (by decide +kernel) rfl ⟨rfl, rfl⟩ ⟨Nat.le_of_ble_eq_true rfl, Nat.le_of_ble_eq_true rfl⟩ hl.1 rfl (Nat.le_of_ble_eq_true rfl) dX3_level_14 ⟨Nat.le_of_ble_eq_true rfl, Nat.le_of_ble_eq_true rfl⟩ (fun _ _ _ _ _ h => h.elim) (fun v w' H locs hp hW hS => ?_)
      obtain ⟨ct2, rfl, hM, hX0, ⟨hq9, -⟩ | ⟨-, rfl⟩⟩ := hp
      · exact absurd hq9 (by decide)
      · have hX := hX.tr hX0
        refine nz_eq (tgt := 29) hx hb dX3_level_17 (by decide) (by decide) (fun c9 => ?_) (fun c9 => ?_)
        · refine lv_iconst (v := nI 0) hx hb dX3_level_29 (by decide) ?_
          exact kr_i F hr hlk hE hW hS (Nat.le_of_ble_eq_true rfl) (Nat.le_of_ble_eq_true rfl) dX3_level_30 (⟨_, _, rfl, hM, hX, Or.inr ⟨hno, rfl, rfl⟩⟩)
        · exact absurd c9 (by decide)
    · exact absurd c9 (by decide)
set_option maxRecDepth 100000 in
set_option maxHeartbeats 4000000 in
theorem c_X3_size (l : Launch) (G : GG) (A : Nat → Prop) (ad : Lb → Nat) (dm : Lb → Prop) (ct0 : Lb → va_E) (lv : Nat → Bool) (lev : Nat → Nat) (lo : Nat → Nat) (hi : Nat → Nat) (ri : Nat → Option Nat) (sz : Nat → Nat) (ky : Nat → Nat) (vl : Nat → Nat) (go : Nat → Option Nat) (rt : Nat) (ep : Nat) (wq : Nat → Nat) (wn : Nat) (cn : Nat) (op : Nat → Bool) (cl : Nat → Nat) (ca : Nat → Nat) (ce : Nat → Nat) (kc : Nat) (nb : Nat) (th fo : Nat) (hM : MDF G ad dm ct0 lv lev lo hi ri sz ky vl go rt ep wq wn cn op cl ca ce kc nb th fo) (t0 : Nat) (hI : InvF lv lev lo hi ri sz ky vl go rt ep wq wn cn op cl ca ce kc nb 800 t0) (x : Int32) :
    CT l yX3_size cX3_size 2 (some FieldType.int) { frames := 2, cells := 0, slots := 0, locals := 43 } [.ref (ad (10, 0)), .int x] G A (ad, dm, ct0) (fun v w' => ∃ ct' th', w' = (ad, dm, ct') ∧ MDF G ad dm ct' lv lev lo hi ri sz ky vl go rt ep wq wn cn op cl ca ce kc nb th' fo ∧ XM ct0 ct' ∧ ((∃ j, x = nI j ∧ lv j = true ∧ th' = 0 ∧ v = some (.int (nI (sz j)))) ∨ ((∀ j, lv j = true → x ≠ nI j) ∧ th' = 1 ∧ v = some (.int (nI 0))))) (fun _ => False) (0) (0) := by
  refine ct_of (by decide) (Nat.le_of_ble_eq_true rfl) ?_
  intro p e s m below meth c ls F hr hlk hnm hex hE hW hl
  have hx := F.1
  have hb := F.2.1
  have hS : va_S A s.heap s.heap [] := va_S.rf
  have hl : lv_has ls 2 [(0, .ref (ad (10, 0))), (1, .int x)] := hl
  have hX : XM ct0 ct0 := XM.rf
  have hI0 := hI
  obtain ⟨hP, hQ, hCu, hkc, hsum, ht, hep, hkt⟩ := hI
  have hb9 : nb ≤ 513 := by omega
  have hwn9 : wn ≤ 513 := by omega
  obtain ⟨hfr1, hfr2, hfr3⟩ := fr_spec hP hb9
  refine lv_aload_n hx hb dX3_size_0 rfl (lv_at hl 0 rfl) ?_
  refine lv_aload_n hx hb dX3_size_1 rfl (lv_at hl 0 rfl) ?_
  refine lv_iload_n hx hb dX3_size_2 rfl (lv_at hl 1 rfl) ?_
  refine kc_V 1 (c_X3_isPage l G A ad dm ct0 lv lev lo hi ri sz ky vl go rt ep wq wn cn op cl ca ce kc nb th fo hM (fun j hj => by have := (hP.1 j hj).1; omega) x) F hE hW hS (10, 0) (hM.1 0 (by decide)) hM.2.1 rfl [.int x] rfl kw_786 kw_788 kp_28 kw_6 kw_789 (by decide +kernel) rfl ⟨rfl, rfl⟩ ⟨Nat.le_of_ble_eq_true rfl, Nat.le_of_ble_eq_true rfl⟩ hl.1 rfl (Nat.le_of_ble_eq_true rfl) dX3_size_3 ⟨Nat.le_of_ble_eq_true rfl, Nat.le_of_ble_eq_true rfl⟩ (fun _ _ _ _ _ h => h.elim) (fun v w' H locs hp hW hS => ?_)
  obtain ⟨rfl, ⟨rfl, j, rfl, hv⟩ | ⟨rfl, hno⟩⟩ := hp
  · obtain ⟨u1, u2, u3, u4, u5, u6⟩ := pg_bd hP hb9 hv
    refine nz_eq (tgt := 13) hx hb dX3_size_6 (by decide) (by decide) (fun c9 => ?_) (fun c9 => ?_)
    · exact absurd c9 (by decide)
    · refine lv_iconst (v := nI 0) hx hb dX3_size_9 (by decide) ?_
      refine lv_goto (tgt := 14) hx hb dX3_size_10 (by decide) ?_
      refine kc_V 1 (c_X3_holds l G A ad dm ct0 lv lev lo hi ri sz ky vl go rt ep wq wn cn op cl ca ce kc nb th fo hM 0 (by decide)) F hE hW hS (10, 0) (hM.1 0 (by decide)) hM.2.1 rfl [.int (nI 0)] rfl kw_682 kw_684 kp_16 kw_6 kw_685 (by decide +kernel) rfl ⟨rfl, rfl⟩ ⟨Nat.le_of_ble_eq_true rfl, Nat.le_of_ble_eq_true rfl⟩ hl.1 rfl (Nat.le_of_ble_eq_true rfl) dX3_size_14 ⟨Nat.le_of_ble_eq_true rfl, Nat.le_of_ble_eq_true rfl⟩ (fun _ _ _ _ _ h => h.elim) (fun v w' H locs hp hW hS => ?_)
      obtain ⟨ct2, rfl, hM, hX0, ⟨-, rfl⟩ | ⟨hq9, -⟩⟩ := hp
      · have hX := hX.tr hX0
        refine nz_eq (tgt := 29) hx hb dX3_size_17 (by decide) (by decide) (fun c9 => ?_) (fun c9 => ?_)
        · exact absurd c9 (by decide)
        · refine lv_aload_n hx hb dX3_size_20 rfl (lv_at hl 0 rfl) ?_
          refine kg F hE hW (10, 0) (hM.1 0 (by decide)) rfl hM.2.1 rfl inA_X3 6 (by decide) kw_612 (v := .ref (ad (10, 6))) rfl dX3_size_21 ?_
          refine lv_iload_n hx hb dX3_size_24 rfl (lv_at hl 1 rfl) ?_
          refine kl_i F hE hW (10, 6) (hM.1 6 (by decide)) rfl hM.2.2.2.2.2.2.2.1 j rfl (by omega) (by decide) dX3_size_25 ?_
          refine lv_goto (tgt := 30) hx hb dX3_size_26 (by decide) ?_
          exact kr_i F hr hlk hE hW hS (Nat.le_of_ble_eq_true rfl) (Nat.le_of_ble_eq_true rfl) dX3_size_30 (⟨_, _, rfl, hM, hX, Or.inl ⟨j, rfl, hv, rfl, rfl⟩⟩)
      · exact absurd hq9 (by decide)
  · refine nz_eq (tgt := 13) hx hb dX3_size_6 (by decide) (by decide) (fun c9 => ?_) (fun c9 => ?_)
    · refine lv_iconst (v := nI 1) hx hb dX3_size_13 (by decide) ?_
      refine kc_V 1 (c_X3_holds l G A ad dm ct0 lv lev lo hi ri sz ky vl go rt ep wq wn cn op cl ca ce kc nb th fo hM 1 (by decide)) F hE hW hS (10, 0) (hM.1 0 (by decide)) hM.2.1 rfl [.int (nI 1)] rfl kw_682 kw_684 kp_16 kw_6 kw_685 (by decide +kernel) rfl ⟨rfl, rfl⟩ ⟨Nat.le_of_ble_eq_true rfl, Nat.le_of_ble_eq_true rfl⟩ hl.1 rfl (Nat.le_of_ble_eq_true rfl) dX3_size_14 ⟨Nat.le_of_ble_eq_true rfl, Nat.le_of_ble_eq_true rfl⟩ (fun _ _ _ _ _ h => h.elim) (fun v w' H locs hp hW hS => ?_)
      obtain ⟨ct2, rfl, hM, hX0, ⟨hq9, -⟩ | ⟨-, rfl⟩⟩ := hp
      · exact absurd hq9 (by decide)
      · have hX := hX.tr hX0
        refine nz_eq (tgt := 29) hx hb dX3_size_17 (by decide) (by decide) (fun c9 => ?_) (fun c9 => ?_)
        · refine lv_iconst (v := nI 0) hx hb dX3_size_29 (by decide) ?_
          exact kr_i F hr hlk hE hW hS (Nat.le_of_ble_eq_true rfl) (Nat.le_of_ble_eq_true rfl) dX3_size_30 (⟨_, _, rfl, hM, hX, Or.inr ⟨hno, rfl, rfl⟩⟩)
        · exact absurd c9 (by decide)
    · exact absurd c9 (by decide)
set_option maxRecDepth 100000 in
set_option maxHeartbeats 4000000 in
theorem c_X3_high (l : Launch) (G : GG) (A : Nat → Prop) (ad : Lb → Nat) (dm : Lb → Prop) (ct0 : Lb → va_E) (lv : Nat → Bool) (lev : Nat → Nat) (lo : Nat → Nat) (hi : Nat → Nat) (ri : Nat → Option Nat) (sz : Nat → Nat) (ky : Nat → Nat) (vl : Nat → Nat) (go : Nat → Option Nat) (rt : Nat) (ep : Nat) (wq : Nat → Nat) (wn : Nat) (cn : Nat) (op : Nat → Bool) (cl : Nat → Nat) (ca : Nat → Nat) (ce : Nat → Nat) (kc : Nat) (nb : Nat) (th fo : Nat) (hM : MDF G ad dm ct0 lv lev lo hi ri sz ky vl go rt ep wq wn cn op cl ca ce kc nb th fo) (t0 : Nat) (hI : InvF lv lev lo hi ri sz ky vl go rt ep wq wn cn op cl ca ce kc nb 800 t0) (x : Int32) :
    CT l yX3_high cX3_high 2 (some FieldType.int) { frames := 2, cells := 0, slots := 0, locals := 43 } [.ref (ad (10, 0)), .int x] G A (ad, dm, ct0) (fun v w' => ∃ ct' th', w' = (ad, dm, ct') ∧ MDF G ad dm ct' lv lev lo hi ri sz ky vl go rt ep wq wn cn op cl ca ce kc nb th' fo ∧ XM ct0 ct' ∧ ((∃ j, x = nI j ∧ lv j = true ∧ th' = 0 ∧ v = some (.int (nI (hi j)))) ∨ ((∀ j, lv j = true → x ≠ nI j) ∧ th' = 1 ∧ v = some (.int (nI 0))))) (fun _ => False) (0) (0) := by
  refine ct_of (by decide) (Nat.le_of_ble_eq_true rfl) ?_
  intro p e s m below meth c ls F hr hlk hnm hex hE hW hl
  have hx := F.1
  have hb := F.2.1
  have hS : va_S A s.heap s.heap [] := va_S.rf
  have hl : lv_has ls 2 [(0, .ref (ad (10, 0))), (1, .int x)] := hl
  have hX : XM ct0 ct0 := XM.rf
  have hI0 := hI
  obtain ⟨hP, hQ, hCu, hkc, hsum, ht, hep, hkt⟩ := hI
  have hb9 : nb ≤ 513 := by omega
  have hwn9 : wn ≤ 513 := by omega
  obtain ⟨hfr1, hfr2, hfr3⟩ := fr_spec hP hb9
  refine lv_aload_n hx hb dX3_high_0 rfl (lv_at hl 0 rfl) ?_
  refine lv_aload_n hx hb dX3_high_1 rfl (lv_at hl 0 rfl) ?_
  refine lv_iload_n hx hb dX3_high_2 rfl (lv_at hl 1 rfl) ?_
  refine kc_V 1 (c_X3_isPage l G A ad dm ct0 lv lev lo hi ri sz ky vl go rt ep wq wn cn op cl ca ce kc nb th fo hM (fun j hj => by have := (hP.1 j hj).1; omega) x) F hE hW hS (10, 0) (hM.1 0 (by decide)) hM.2.1 rfl [.int x] rfl kw_786 kw_788 kp_28 kw_6 kw_789 (by decide +kernel) rfl ⟨rfl, rfl⟩ ⟨Nat.le_of_ble_eq_true rfl, Nat.le_of_ble_eq_true rfl⟩ hl.1 rfl (Nat.le_of_ble_eq_true rfl) dX3_high_3 ⟨Nat.le_of_ble_eq_true rfl, Nat.le_of_ble_eq_true rfl⟩ (fun _ _ _ _ _ h => h.elim) (fun v w' H locs hp hW hS => ?_)
  obtain ⟨rfl, ⟨rfl, j, rfl, hv⟩ | ⟨rfl, hno⟩⟩ := hp
  · obtain ⟨u1, u2, u3, u4, u5, u6⟩ := pg_bd hP hb9 hv
    refine nz_eq (tgt := 13) hx hb dX3_high_6 (by decide) (by decide) (fun c9 => ?_) (fun c9 => ?_)
    · exact absurd c9 (by decide)
    · refine lv_iconst (v := nI 0) hx hb dX3_high_9 (by decide) ?_
      refine lv_goto (tgt := 14) hx hb dX3_high_10 (by decide) ?_
      refine kc_V 1 (c_X3_holds l G A ad dm ct0 lv lev lo hi ri sz ky vl go rt ep wq wn cn op cl ca ce kc nb th fo hM 0 (by decide)) F hE hW hS (10, 0) (hM.1 0 (by decide)) hM.2.1 rfl [.int (nI 0)] rfl kw_682 kw_684 kp_16 kw_6 kw_685 (by decide +kernel) rfl ⟨rfl, rfl⟩ ⟨Nat.le_of_ble_eq_true rfl, Nat.le_of_ble_eq_true rfl⟩ hl.1 rfl (Nat.le_of_ble_eq_true rfl) dX3_high_14 ⟨Nat.le_of_ble_eq_true rfl, Nat.le_of_ble_eq_true rfl⟩ (fun _ _ _ _ _ h => h.elim) (fun v w' H locs hp hW hS => ?_)
      obtain ⟨ct2, rfl, hM, hX0, ⟨-, rfl⟩ | ⟨hq9, -⟩⟩ := hp
      · have hX := hX.tr hX0
        refine nz_eq (tgt := 29) hx hb dX3_high_17 (by decide) (by decide) (fun c9 => ?_) (fun c9 => ?_)
        · exact absurd c9 (by decide)
        · refine lv_aload_n hx hb dX3_high_20 rfl (lv_at hl 0 rfl) ?_
          refine kg F hE hW (10, 0) (hM.1 0 (by decide)) rfl hM.2.1 rfl inA_X3 4 (by decide) kw_610 (v := .ref (ad (10, 4))) rfl dX3_high_21 ?_
          refine lv_iload_n hx hb dX3_high_24 rfl (lv_at hl 1 rfl) ?_
          refine kl_i F hE hW (10, 4) (hM.1 4 (by decide)) rfl hM.2.2.2.2.2.1 j rfl (by omega) (by decide) dX3_high_25 ?_
          refine lv_goto (tgt := 30) hx hb dX3_high_26 (by decide) ?_
          exact kr_i F hr hlk hE hW hS (Nat.le_of_ble_eq_true rfl) (Nat.le_of_ble_eq_true rfl) dX3_high_30 (⟨_, _, rfl, hM, hX, Or.inl ⟨j, rfl, hv, rfl, rfl⟩⟩)
      · exact absurd hq9 (by decide)
  · refine nz_eq (tgt := 13) hx hb dX3_high_6 (by decide) (by decide) (fun c9 => ?_) (fun c9 => ?_)
    · refine lv_iconst (v := nI 1) hx hb dX3_high_13 (by decide) ?_
      refine kc_V 1 (c_X3_holds l G A ad dm ct0 lv lev lo hi ri sz ky vl go rt ep wq wn cn op cl ca ce kc nb th fo hM 1 (by decide)) F hE hW hS (10, 0) (hM.1 0 (by decide)) hM.2.1 rfl [.int (nI 1)] rfl kw_682 kw_684 kp_16 kw_6 kw_685 (by decide +kernel) rfl ⟨rfl, rfl⟩ ⟨Nat.le_of_ble_eq_true rfl, Nat.le_of_ble_eq_true rfl⟩ hl.1 rfl (Nat.le_of_ble_eq_true rfl) dX3_high_14 ⟨Nat.le_of_ble_eq_true rfl, Nat.le_of_ble_eq_true rfl⟩ (fun _ _ _ _ _ h => h.elim) (fun v w' H locs hp hW hS => ?_)
      obtain ⟨ct2, rfl, hM, hX0, ⟨hq9, -⟩ | ⟨-, rfl⟩⟩ := hp
      · exact absurd hq9 (by decide)
      · have hX := hX.tr hX0
        refine nz_eq (tgt := 29) hx hb dX3_high_17 (by decide) (by decide) (fun c9 => ?_) (fun c9 => ?_)
        · refine lv_iconst (v := nI 0) hx hb dX3_high_29 (by decide) ?_
          exact kr_i F hr hlk hE hW hS (Nat.le_of_ble_eq_true rfl) (Nat.le_of_ble_eq_true rfl) dX3_high_30 (⟨_, _, rfl, hM, hX, Or.inr ⟨hno, rfl, rfl⟩⟩)
        · exact absurd c9 (by decide)
    · exact absurd c9 (by decide)
set_option maxRecDepth 100000 in
set_option maxHeartbeats 4000000 in
theorem c_X3_right (l : Launch) (G : GG) (A : Nat → Prop) (ad : Lb → Nat) (dm : Lb → Prop) (ct0 : Lb → va_E) (lv : Nat → Bool) (lev : Nat → Nat) (lo : Nat → Nat) (hi : Nat → Nat) (ri : Nat → Option Nat) (sz : Nat → Nat) (ky : Nat → Nat) (vl : Nat → Nat) (go : Nat → Option Nat) (rt : Nat) (ep : Nat) (wq : Nat → Nat) (wn : Nat) (cn : Nat) (op : Nat → Bool) (cl : Nat → Nat) (ca : Nat → Nat) (ce : Nat → Nat) (kc : Nat) (nb : Nat) (th fo : Nat) (hM : MDF G ad dm ct0 lv lev lo hi ri sz ky vl go rt ep wq wn cn op cl ca ce kc nb th fo) (t0 : Nat) (hI : InvF lv lev lo hi ri sz ky vl go rt ep wq wn cn op cl ca ce kc nb 800 t0) (x : Int32) :
    CT l yX3_right cX3_right 2 (some FieldType.int) { frames := 2, cells := 0, slots := 0, locals := 43 } [.ref (ad (10, 0)), .int x] G A (ad, dm, ct0) (fun v w' => ∃ ct' th', w' = (ad, dm, ct') ∧ MDF G ad dm ct' lv lev lo hi ri sz ky vl go rt ep wq wn cn op cl ca ce kc nb th' fo ∧ XM ct0 ct' ∧ ((∃ j, x = nI j ∧ lv j = true ∧ th' = 0 ∧ v = some (.int (oI (ri j)))) ∨ ((∀ j, lv j = true → x ≠ nI j) ∧ th' = 1 ∧ v = some (.int (nI 0))))) (fun _ => False) (0) (0) := by
  refine ct_of (by decide) (Nat.le_of_ble_eq_true rfl) ?_
  intro p e s m below meth c ls F hr hlk hnm hex hE hW hl
  have hx := F.1
  have hb := F.2.1
  have hS : va_S A s.heap s.heap [] := va_S.rf
  have hl : lv_has ls 2 [(0, .ref (ad (10, 0))), (1, .int x)] := hl
  have hX : XM ct0 ct0 := XM.rf
  have hI0 := hI
  obtain ⟨hP, hQ, hCu, hkc, hsum, ht, hep, hkt⟩ := hI
  have hb9 : nb ≤ 513 := by omega
  have hwn9 : wn ≤ 513 := by omega
  obtain ⟨hfr1, hfr2, hfr3⟩ := fr_spec hP hb9
  refine lv_aload_n hx hb dX3_right_0 rfl (lv_at hl 0 rfl) ?_
  refine lv_aload_n hx hb dX3_right_1 rfl (lv_at hl 0 rfl) ?_
  refine lv_iload_n hx hb dX3_right_2 rfl (lv_at hl 1 rfl) ?_
  refine kc_V 1 (c_X3_isPage l G A ad dm ct0 lv lev lo hi ri sz ky vl go rt ep wq wn cn op cl ca ce kc nb th fo hM (fun j hj => by have := (hP.1 j hj).1; omega) x) F hE hW hS (10, 0) (hM.1 0 (by decide)) hM.2.1 rfl [.int x] rfl kw_786 kw_788 kp_28 kw_6 kw_789 (by decide +kernel) rfl ⟨rfl, rfl⟩ ⟨Nat.le_of_ble_eq_true rfl, Nat.le_of_ble_eq_true rfl⟩ hl.1 rfl (Nat.le_of_ble_eq_true rfl) dX3_right_3 ⟨Nat.le_of_ble_eq_true rfl, Nat.le_of_ble_eq_true rfl⟩ (fun _ _ _ _ _ h => h.elim) (fun v w' H locs hp hW hS => ?_)
  obtain ⟨rfl, ⟨rfl, j, rfl, hv⟩ | ⟨rfl, hno⟩⟩ := hp
  · obtain ⟨u1, u2, u3, u4, u5, u6⟩ := pg_bd hP hb9 hv
    refine nz_eq (tgt := 13) hx hb dX3_right_6 (by decide) (by decide) (fun c9 => ?_) (fun c9 => ?_)
    · exact absurd c9 (by decide)
    · refine lv_iconst (v := nI 0) hx hb dX3_right_9 (by decide) ?_
      refine lv_goto (tgt := 14) hx hb dX3_right_10 (by decide) ?_
      refine kc_V 1 (c_X3_holds l G A ad dm ct0 lv lev lo hi ri sz ky vl go rt ep wq wn cn op cl ca ce kc nb th fo hM 0 (by decide)) F hE hW hS (10, 0) (hM.1 0 (by decide)) hM.2.1 rfl [.int (nI 0)] rfl kw_682 kw_684 kp_16 kw_6 kw_685 (by decide +kernel) rfl ⟨rfl, rfl⟩ ⟨Nat.le_of_ble_eq_true rfl, Nat.le_of_ble_eq_true rfl⟩ hl.1 rfl (Nat.le_of_ble_eq_true rfl) dX3_right_14 ⟨Nat.le_of_ble_eq_true rfl, Nat.le_of_ble_eq_true rfl⟩ (fun _ _ _ _ _ h => h.elim) (fun v w' H locs hp hW hS => ?_)
      obtain ⟨ct2, rfl, hM, hX0, ⟨-, rfl⟩ | ⟨hq9, -⟩⟩ := hp
      · have hX := hX.tr hX0
        refine nz_eq (tgt := 29) hx hb dX3_right_17 (by decide) (by decide) (fun c9 => ?_) (fun c9 => ?_)
        · exact absurd c9 (by decide)
        · refine lv_aload_n hx hb dX3_right_20 rfl (lv_at hl 0 rfl) ?_
          refine kg F hE hW (10, 0) (hM.1 0 (by decide)) rfl hM.2.1 rfl inA_X3 5 (by decide) kw_611 (v := .ref (ad (10, 5))) rfl dX3_right_21 ?_
          refine lv_iload_n hx hb dX3_right_24 rfl (lv_at hl 1 rfl) ?_
          refine kl_i F hE hW (10, 5) (hM.1 5 (by decide)) rfl hM.2.2.2.2.2.2.1 j rfl (by omega) (by decide) dX3_right_25 ?_
          refine lv_goto (tgt := 30) hx hb dX3_right_26 (by decide) ?_
          exact kr_i F hr hlk hE hW hS (Nat.le_of_ble_eq_true rfl) (Nat.le_of_ble_eq_true rfl) dX3_right_30 (⟨_, _, rfl, hM, hX, Or.inl ⟨j, rfl, hv, rfl, rfl⟩⟩)
      · exact absurd hq9 (by decide)
  · refine nz_eq (tgt := 13) hx hb dX3_right_6 (by decide) (by decide) (fun c9 => ?_) (fun c9 => ?_)
    · refine lv_iconst (v := nI 1) hx hb dX3_right_13 (by decide) ?_
      refine kc_V 1 (c_X3_holds l G A ad dm ct0 lv lev lo hi ri sz ky vl go rt ep wq wn cn op cl ca ce kc nb th fo hM 1 (by decide)) F hE hW hS (10, 0) (hM.1 0 (by decide)) hM.2.1 rfl [.int (nI 1)] rfl kw_682 kw_684 kp_16 kw_6 kw_685 (by decide +kernel) rfl ⟨rfl, rfl⟩ ⟨Nat.le_of_ble_eq_true rfl, Nat.le_of_ble_eq_true rfl⟩ hl.1 rfl (Nat.le_of_ble_eq_true rfl) dX3_right_14 ⟨Nat.le_of_ble_eq_true rfl, Nat.le_of_ble_eq_true rfl⟩ (fun _ _ _ _ _ h => h.elim) (fun v w' H locs hp hW hS => ?_)
      obtain ⟨ct2, rfl, hM, hX0, ⟨hq9, -⟩ | ⟨-, rfl⟩⟩ := hp
      · exact absurd hq9 (by decide)
      · have hX := hX.tr hX0
        refine nz_eq (tgt := 29) hx hb dX3_right_17 (by decide) (by decide) (fun c9 => ?_) (fun c9 => ?_)
        · refine lv_iconst (v := nI 0) hx hb dX3_right_29 (by decide) ?_
          exact kr_i F hr hlk hE hW hS (Nat.le_of_ble_eq_true rfl) (Nat.le_of_ble_eq_true rfl) dX3_right_30 (⟨_, _, rfl, hM, hX, Or.inr ⟨hno, rfl, rfl⟩⟩)
        · exact absurd c9 (by decide)
    · exact absurd c9 (by decide)
set_option maxRecDepth 100000 in
set_option maxHeartbeats 4000000 in
theorem c_X3_keyAt (l : Launch) (G : GG) (A : Nat → Prop) (ad : Lb → Nat) (dm : Lb → Prop) (ct0 : Lb → va_E) (lv : Nat → Bool) (lev : Nat → Nat) (lo : Nat → Nat) (hi : Nat → Nat) (ri : Nat → Option Nat) (sz : Nat → Nat) (ky : Nat → Nat) (vl : Nat → Nat) (go : Nat → Option Nat) (rt : Nat) (ep : Nat) (wq : Nat → Nat) (wn : Nat) (cn : Nat) (op : Nat → Bool) (cl : Nat → Nat) (ca : Nat → Nat) (ce : Nat → Nat) (kc : Nat) (nb : Nat) (th fo : Nat) (hM : MDF G ad dm ct0 lv lev lo hi ri sz ky vl go rt ep wq wn cn op cl ca ce kc nb th fo) (t0 : Nat) (hI : InvF lv lev lo hi ri sz ky vl go rt ep wq wn cn op cl ca ce kc nb 800 t0) (x y : Int32) :
    CT l yX3_keyAt cX3_keyAt 3 (some FieldType.int) { frames := 2, cells := 0, slots := 0, locals := 43 } [.ref (ad (10, 0)), .int x, .int y] G A (ad, dm, ct0) (fun v w' => ∃ ct' th', w' = (ad, dm, ct') ∧ MDF G ad dm ct' lv lev lo hi ri sz ky vl go rt ep wq wn cn op cl ca ce kc nb th' fo ∧ XM ct0 ct' ∧ ((∃ j, x = nI j ∧ lv j = true ∧ ∃ k9, k9 < 2 ^ 31 ∧ y = nI k9 ∧ th' = 0 ∧ v = some (.int (oI (kyA sz ky j k9)))) ∨ (((∀ j, lv j = true → x ≠ nI j) ∨ y < nI 0) ∧ th' = 1 ∧ v = some (.int (nI 0))))) (fun _ => False) (0) (0) := by
  refine ct_of (by decide) (Nat.le_of_ble_eq_true rfl) ?_
  intro p e s m below meth c ls F hr hlk hnm hex hE hW hl
  have hx := F.1
  have hb := F.2.1
  have hS : va_S A s.heap s.heap [] := va_S.rf
  have hl : lv_has ls 3 [(0, .ref (ad (10, 0))), (1, .int x), (2, .int y)] := hl
  have hX : XM ct0 ct0 := XM.rf
  have hI0 := hI
  obtain ⟨hP, hQ, hCu, hkc, hsum, ht, hep, hkt⟩ := hI
  have hb9 : nb ≤ 513 := by omega
  have hwn9 : wn ≤ 513 := by omega
  obtain ⟨hfr1, hfr2, hfr3⟩ := fr_spec hP hb9
  refine lv_aload_n hx hb dX3_keyAt_0 rfl (lv_at hl 0 rfl) ?_
  refine lv_aload_n hx hb dX3_keyAt_1 rfl (lv_at hl 0 rfl) ?_
  refine lv_iload_n hx hb dX3_keyAt_2 rfl (lv_at hl 1 rfl) ?_
  refine kc_V 1 (c_X3_isPage l G A ad dm ct0 lv lev lo hi ri sz ky vl go rt ep wq wn cn op cl ca ce kc nb th fo hM (fun j hj => by have := (hP.1 j hj).1; omega) x) F hE hW hS (10, 0) (hM.1 0 (by decide)) hM.2.1 rfl [.int x] rfl kw_786 kw_788 kp_28 kw_6 kw_789 (by decide +kernel) rfl ⟨rfl, rfl⟩ ⟨Nat.le_of_ble_eq_true rfl, Nat.le_of_ble_eq_true rfl⟩ hl.1 rfl (Nat.le_of_ble_eq_true rfl) dX3_keyAt_3 ⟨Nat.le_of_ble_eq_true rfl, Nat.le_of_ble_eq_true rfl⟩ (fun _ _ _ _ _ h => h.elim) (fun v w' H locs hp hW hS => ?_)
  obtain ⟨rfl, ⟨rfl, j, rfl, hv⟩ | ⟨rfl, hno⟩⟩ := hp
  · obtain ⟨u1, u2, u3, u4, u5, u6⟩ := pg_bd hP hb9 hv
    refine nz_eq (tgt := 17) hx hb dX3_keyAt_6 (by decide) (by decide) (fun c9 => ?_) (fun c9 => ?_)
    · exact absurd c9 (by decide)
    · refine lv_iload_n hx hb dX3_keyAt_9 rfl (lv_at hl 2 rfl) ?_
      refine lv_if_lt (tgt := 17) hx hb dX3_keyAt_10 (by decide) (fun c2 => ?_) (fun c2 => ?_)
      · refine lv_iconst (v := nI 1) hx hb dX3_keyAt_17 (by decide) ?_
        refine kc_V 1 (c_X3_holds l G A ad dm ct0 lv lev lo hi ri sz ky vl go rt ep wq wn cn op cl ca ce kc nb th fo hM 1 (by decide)) F hE hW hS (10, 0) (hM.1 0 (by decide)) hM.2.1 rfl [.int (nI 1)] rfl kw_682 kw_684 kp_16 kw_6 kw_685 (by decide +kernel) rfl ⟨rfl, rfl⟩ ⟨Nat.le_of_ble_eq_true rfl, Nat.le_of_ble_eq_true rfl⟩ hl.1 rfl (Nat.le_of_ble_eq_true rfl) dX3_keyAt_18 ⟨Nat.le_of_ble_eq_true rfl, Nat.le_of_ble_eq_true rfl⟩ (fun _ _ _ _ _ h => h.elim) (fun v w' H locs hp hW hS => ?_)
        obtain ⟨ct2, rfl, hM, hX0, ⟨hq9, -⟩ | ⟨-, rfl⟩⟩ := hp
        · exact absurd hq9 (by decide)
        · have hX := hX.tr hX0
          refine nz_ne (tgt := 28) hx hb dX3_keyAt_21 (by decide) (by decide) (fun c9 => ?_) (fun c9 => ?_)
          · exact absurd c9 (by decide)
          · refine lv_iconst (v := nI 0) hx hb dX3_keyAt_24 (by decide) ?_
            refine lv_goto (tgt := 52) hx hb dX3_keyAt_25 (by decide) ?_
            exact kr_i F hr hlk hE hW hS (Nat.le_of_ble_eq_true rfl) (Nat.le_of_ble_eq_true rfl) dX3_keyAt_52 (⟨_, _, rfl, hM, hX, Or.inr ⟨Or.inr c2, rfl, rfl⟩⟩)
      · obtain ⟨k9, hk9, rfl⟩ := nI_of c2
        refine lv_iconst (v := nI 0) hx hb dX3_keyAt_13 (by decide) ?_
        refine lv_goto (tgt := 18) hx hb dX3_keyAt_14 (by decide) ?_
        refine kc_V 1 (c_X3_holds l G A ad dm ct0 lv lev lo hi ri sz ky vl go rt ep wq wn cn op cl ca ce kc nb th fo hM 0 (by decide)) F hE hW hS (10, 0) (hM.1 0 (by decide)) hM.2.1 rfl [.int (nI 0)] rfl kw_682 kw_684 kp_16 kw_6 kw_685 (by decide +kernel) rfl ⟨rfl, rfl⟩ ⟨Nat.le_of_ble_eq_true rfl, Nat.le_of_ble_eq_true rfl⟩ hl.1 rfl (Nat.le_of_ble_eq_true rfl) dX3_keyAt_18 ⟨Nat.le_of_ble_eq_true rfl, Nat.le_of_ble_eq_true rfl⟩ (fun _ _ _ _ _ h => h.elim) (fun v w' H locs hp hW hS => ?_)
        obtain ⟨ct2, rfl, hM, hX0, ⟨-, rfl⟩ | ⟨hq9, -⟩⟩ := hp
        · have hX := hX.tr hX0
          refine nz_ne (tgt := 28) hx hb dX3_keyAt_21 (by decide) (by decide) (fun c9 => ?_) (fun c9 => ?_)
          · refine lv_iload_n hx hb dX3_keyAt_28 rfl (lv_at hl 2 rfl) ?_
            refine lv_aload_n hx hb dX3_keyAt_29 rfl (lv_at hl 0 rfl) ?_
            refine kg F hE hW (10, 0) (hM.1 0 (by decide)) rfl hM.2.1 rfl inA_X3 6 (by decide) kw_612 (v := .ref (ad (10, 6))) rfl dX3_keyAt_30 ?_
            refine lv_iload_n hx hb dX3_keyAt_33 rfl (lv_at hl 1 rfl) ?_
            refine kl_i F hE hW (10, 6) (hM.1 6 (by decide)) rfl hM.2.2.2.2.2.2.2.1 j rfl (by omega) (by decide) dX3_keyAt_34 ?_
            refine nc_ge (tgt := 51) hx hb dX3_keyAt_35 (by decide) (by omega) (by omega) (fun c3 => ?_) (fun c3 => ?_)
            · refine lv_iconst (v := (-1)) hx hb dX3_keyAt_51 (by decide) ?_
              exact kr_i F hr hlk hE hW hS (Nat.le_of_ble_eq_true rfl) (Nat.le_of_ble_eq_true rfl) dX3_keyAt_52 (⟨_, _, rfl, hM, hX, Or.inl ⟨j, rfl, hv, k9, hk9, rfl, rfl, by unfold kyA; rw [if_neg (by omega)]; rfl⟩⟩)
            · refine lv_aload_n hx hb dX3_keyAt_38 rfl (lv_at hl 0 rfl) ?_
              refine kg F hE hW (10, 0) (hM.1 0 (by decide)) rfl hM.2.1 rfl inA_X3 7 (by decide) kw_613 (v := .ref (ad (10, 7))) rfl dX3_keyAt_39 ?_
              refine lv_iconst (v := nI 5) hx hb dX3_keyAt_42 (by decide) ?_
              refine lv_iload_n hx hb dX3_keyAt_43 rfl (lv_at hl 1 rfl) ?_
              refine lv_imul hx hb dX3_keyAt_44 ?_
              refine ktop (pk_mul _ _) ?_
              refine lv_iload_n hx hb dX3_keyAt_45 rfl (lv_at hl 2 rfl) ?_
              refine lv_iadd hx hb dX3_keyAt_46 ?_
              refine ktop (nI_add _ _) ?_
              refine kl_i F hE hW (10, 7) (hM.1 7 (by decide)) rfl hM.2.2.2.2.2.2.2.2.1 ((5 * j) + k9) rfl (by omega) (by decide) dX3_keyAt_47 ?_
              refine lv_goto (tgt := 52) hx hb dX3_keyAt_48 (by decide) ?_
              exact kr_i F hr hlk hE hW hS (Nat.le_of_ble_eq_true rfl) (Nat.le_of_ble_eq_true rfl) dX3_keyAt_52 (⟨_, _, rfl, hM, hX, Or.inl ⟨j, rfl, hv, k9, hk9, rfl, rfl, by unfold kyA; rw [if_pos (by omega)]; rfl⟩⟩)
          · exact absurd c9 (by decide)
        · exact absurd hq9 (by decide)
  · refine nz_eq (tgt := 17) hx hb dX3_keyAt_6 (by decide) (by decide) (fun c9 => ?_) (fun c9 => ?_)
    · refine lv_iconst (v := nI 1) hx hb dX3_keyAt_17 (by decide) ?_
      refine kc_V 1 (c_X3_holds l G A ad dm ct0 lv lev lo hi ri sz ky vl go rt ep wq wn cn op cl ca ce kc nb th fo hM 1 (by decide)) F hE hW hS (10, 0) (hM.1 0 (by decide)) hM.2.1 rfl [.int (nI 1)] rfl kw_682 kw_684 kp_16 kw_6 kw_685 (by decide +kernel) rfl ⟨rfl, rfl⟩ ⟨Nat.le_of_ble_eq_true rfl, Nat.le_of_ble_eq_true rfl⟩ hl.1 rfl (Nat.le_of_ble_eq_true rfl) dX3_keyAt_18 ⟨Nat.le_of_ble_eq_true rfl, Nat.le_of_ble_eq_true rfl⟩ (fun _ _ _ _ _ h => h.elim) (fun v w' H locs hp hW hS => ?_)
      obtain ⟨ct2, rfl, hM, hX0, ⟨hq9, -⟩ | ⟨-, rfl⟩⟩ := hp
      · exact absurd hq9 (by decide)
      · have hX := hX.tr hX0
        refine nz_ne (tgt := 28) hx hb dX3_keyAt_21 (by decide) (by decide) (fun c9 => ?_) (fun c9 => ?_)
        · exact absurd c9 (by decide)
        · refine lv_iconst (v := nI 0) hx hb dX3_keyAt_24 (by decide) ?_
          refine lv_goto (tgt := 52) hx hb dX3_keyAt_25 (by decide) ?_
          exact kr_i F hr hlk hE hW hS (Nat.le_of_ble_eq_true rfl) (Nat.le_of_ble_eq_true rfl) dX3_keyAt_52 (⟨_, _, rfl, hM, hX, Or.inr ⟨Or.inl hno, rfl, rfl⟩⟩)
    · exact absurd c9 (by decide)
set_option maxRecDepth 100000 in
set_option maxHeartbeats 4000000 in
theorem c_X3_below (l : Launch) (G : GG) (A : Nat → Prop) (ad : Lb → Nat) (dm : Lb → Prop) (ct0 : Lb → va_E) (lv : Nat → Bool) (lev : Nat → Nat) (lo : Nat → Nat) (hi : Nat → Nat) (ri : Nat → Option Nat) (sz : Nat → Nat) (ky : Nat → Nat) (vl : Nat → Nat) (go : Nat → Option Nat) (rt : Nat) (ep : Nat) (wq : Nat → Nat) (wn : Nat) (cn : Nat) (op : Nat → Bool) (cl : Nat → Nat) (ca : Nat → Nat) (ce : Nat → Nat) (kc : Nat) (nb : Nat) (th fo : Nat) (hM : MDF G ad dm ct0 lv lev lo hi ri sz ky vl go rt ep wq wn cn op cl ca ce kc nb th fo) (t0 : Nat) (hI : InvF lv lev lo hi ri sz ky vl go rt ep wq wn cn op cl ca ce kc nb 800 t0) (x y : Int32) :
    CT l yX3_below cX3_below 3 (some FieldType.int) { frames := 2, cells := 0, slots := 0, locals := 43 } [.ref (ad (10, 0)), .int x, .int y] G A (ad, dm, ct0) (fun v w' => ∃ ct' th', w' = (ad, dm, ct') ∧ MDF G ad dm ct' lv lev lo hi ri sz ky vl go rt ep wq wn cn op cl ca ce kc nb th' fo ∧ XM ct0 ct' ∧ ((∃ j, x = nI j ∧ lv j = true ∧ ∃ k9, k9 < 2 ^ 31 ∧ y = nI k9 ∧ th' = 0 ∧ v = some (.int (oI (blA lev sz vl j k9)))) ∨ (((∀ j, lv j = true → x ≠ nI j) ∨ y < nI 0) ∧ th' = 1 ∧ v = some (.int (nI 0))))) (fun _ => False) (0) (0) := by
  refine ct_of (by decide) (Nat.le_of_ble_eq_true rfl) ?_
  intro p e s m below meth c ls F hr hlk hnm hex hE hW hl
  have hx := F.1
  have hb := F.2.1
  have hS : va_S A s.heap s.heap [] := va_S.rf
  have hl : lv_has ls 3 [(0, .ref (ad (10, 0))), (1, .int x), (2, .int y)] := hl
  have hX : XM ct0 ct0 := XM.rf
  have hI0 := hI
  obtain ⟨hP, hQ, hCu, hkc, hsum, ht, hep, hkt⟩ := hI
  have hb9 : nb ≤ 513 := by omega
  have hwn9 : wn ≤ 513 := by omega
  obtain ⟨hfr1, hfr2, hfr3⟩ := fr_spec hP hb9
  refine lv_aload_n hx hb dX3_below_0 rfl (lv_at hl 0 rfl) ?_
  refine lv_aload_n hx hb dX3_below_1 rfl (lv_at hl 0 rfl) ?_
  refine lv_iload_n hx hb dX3_below_2 rfl (lv_at hl 1 rfl) ?_
  refine kc_V 1 (c_X3_isPage l G A ad dm ct0 lv lev lo hi ri sz ky vl go rt ep wq wn cn op cl ca ce kc nb th fo hM (fun j hj => by have := (hP.1 j hj).1; omega) x) F hE hW hS (10, 0) (hM.1 0 (by decide)) hM.2.1 rfl [.int x] rfl kw_786 kw_788 kp_28 kw_6 kw_789 (by decide +kernel) rfl ⟨rfl, rfl⟩ ⟨Nat.le_of_ble_eq_true rfl, Nat.le_of_ble_eq_true rfl⟩ hl.1 rfl (Nat.le_of_ble_eq_true rfl) dX3_below_3 ⟨Nat.le_of_ble_eq_true rfl, Nat.le_of_ble_eq_true rfl⟩ (fun _ _ _ _ _ h => h.elim) (fun v w' H locs hp hW hS => ?_)
  obtain ⟨rfl, ⟨rfl, j, rfl, hv⟩ | ⟨rfl, hno⟩⟩ := hp
  · obtain ⟨u1, u2, u3, u4, u5, u6⟩ := pg_bd hP hb9 hv
    refine nz_eq (tgt := 17) hx hb dX3_below_6 (by decide) (by decide) (fun c9 => ?_) (fun c9 => ?_)
    · exact absurd c9 (by decide)
    · refine lv_iload_n hx hb dX3_below_9 rfl (lv_at hl 2 rfl) ?_
      refine lv_if_lt (tgt := 17) hx hb dX3_below_10 (by decide) (fun c2 => ?_) (fun c2 => ?_)
      · refine lv_iconst (v := nI 1) hx hb dX3_below_17 (by decide) ?_
        refine kc_V 1 (c_X3_holds l G A ad dm ct0 lv lev lo hi ri sz ky vl go rt ep wq wn cn op cl ca ce kc nb th fo hM 1 (by decide)) F hE hW hS (10, 0) (hM.1 0 (by decide)) hM.2.1 rfl [.int (nI 1)] rfl kw_682 kw_684 kp_16 kw_6 kw_685 (by decide +kernel) rfl ⟨rfl, rfl⟩ ⟨Nat.le_of_ble_eq_true rfl, Nat.le_of_ble_eq_true rfl⟩ hl.1 rfl (Nat.le_of_ble_eq_true rfl) dX3_below_18 ⟨Nat.le_of_ble_eq_true rfl, Nat.le_of_ble_eq_true rfl⟩ (fun _ _ _ _ _ h => h.elim) (fun v w' H locs hp hW hS => ?_)
        obtain ⟨ct2, rfl, hM, hX0, ⟨hq9, -⟩ | ⟨-, rfl⟩⟩ := hp
        · exact absurd hq9 (by decide)
        · have hX := hX.tr hX0
          refine nz_ne (tgt := 28) hx hb dX3_below_21 (by decide) (by decide) (fun c9 => ?_) (fun c9 => ?_)
          · exact absurd c9 (by decide)
          · refine lv_iconst (v := nI 0) hx hb dX3_below_24 (by decide) ?_
            refine lv_goto (tgt := 61) hx hb dX3_below_25 (by decide) ?_
            exact kr_i F hr hlk hE hW hS (Nat.le_of_ble_eq_true rfl) (Nat.le_of_ble_eq_true rfl) dX3_below_61 (⟨_, _, rfl, hM, hX, Or.inr ⟨Or.inr c2, rfl, rfl⟩⟩)
      · obtain ⟨k9, hk9, rfl⟩ := nI_of c2
        refine lv_iconst (v := nI 0) hx hb dX3_below_13 (by decide) ?_
        refine lv_goto (tgt := 18) hx hb dX3_below_14 (by decide) ?_
        refine kc_V 1 (c_X3_holds l G A ad dm ct0 lv lev lo hi ri sz ky vl go rt ep wq wn cn op cl ca ce kc nb th fo hM 0 (by decide)) F hE hW hS (10, 0) (hM.1 0 (by decide)) hM.2.1 rfl [.int (nI 0)] rfl kw_682 kw_684 kp_16 kw_6 kw_685 (by decide +kernel) rfl ⟨rfl, rfl⟩ ⟨Nat.le_of_ble_eq_true rfl, Nat.le_of_ble_eq_true rfl⟩ hl.1 rfl (Nat.le_of_ble_eq_true rfl) dX3_below_18 ⟨Nat.le_of_ble_eq_true rfl, Nat.le_of_ble_eq_true rfl⟩ (fun _ _ _ _ _ h => h.elim) (fun v w' H locs hp hW hS => ?_)
        obtain ⟨ct2, rfl, hM, hX0, ⟨-, rfl⟩ | ⟨hq9, -⟩⟩ := hp
        · have hX := hX.tr hX0
          refine nz_ne (tgt := 28) hx hb dX3_below_21 (by decide) (by decide) (fun c9 => ?_) (fun c9 => ?_)
          · refine lv_iload_n hx hb dX3_below_28 rfl (lv_at hl 2 rfl) ?_
            refine lv_aload_n hx hb dX3_below_29 rfl (lv_at hl 0 rfl) ?_
            refine kg F hE hW (10, 0) (hM.1 0 (by decide)) rfl hM.2.1 rfl inA_X3 6 (by decide) kw_612 (v := .ref (ad (10, 6))) rfl dX3_below_30 ?_
            refine lv_iload_n hx hb dX3_below_33 rfl (lv_at hl 1 rfl) ?_
            refine kl_i F hE hW (10, 6) (hM.1 6 (by decide)) rfl hM.2.2.2.2.2.2.2.1 j rfl (by omega) (by decide) dX3_below_34 ?_
            refine nc_ge (tgt := 60) hx hb dX3_below_35 (by decide) (by omega) (by omega) (fun c3 => ?_) (fun c3 => ?_)
            · refine lv_iconst (v := (-1)) hx hb dX3_below_60 (by decide) ?_
              exact kr_i F hr hlk hE hW hS (Nat.le_of_ble_eq_true rfl) (Nat.le_of_ble_eq_true rfl) dX3_below_61 (⟨_, _, rfl, hM, hX, Or.inl ⟨j, rfl, hv, k9, hk9, rfl, rfl, by unfold blA; rw [if_neg (by omega)]; rfl⟩⟩)
            · refine lv_aload_n hx hb dX3_below_38 rfl (lv_at hl 0 rfl) ?_
              refine kg F hE hW (10, 0) (hM.1 0 (by decide)) rfl hM.2.1 rfl inA_X3 2 (by decide) kw_608 (v := .ref (ad (10, 2))) rfl dX3_below_39 ?_
              refine lv_iload_n hx hb dX3_below_42 rfl (lv_at hl 1 rfl) ?_
              refine kl_i F hE hW (10, 2) (hM.1 2 (by decide)) rfl hM.2.2.2.1 j rfl (by omega) (by decide) dX3_below_43 ?_
              refine nz_le (tgt := 60) hx hb dX3_below_44 (by decide) (by omega) (fun c4 => ?_) (fun c4 => ?_)
              · refine lv_iconst (v := (-1)) hx hb dX3_below_60 (by decide) ?_
                exact kr_i F hr hlk hE hW hS (Nat.le_of_ble_eq_true rfl) (Nat.le_of_ble_eq_true rfl) dX3_below_61 (⟨_, _, rfl, hM, hX, Or.inl ⟨j, rfl, hv, k9, hk9, rfl, rfl, by unfold blA; rw [if_neg (by omega)]; rfl⟩⟩)
              · refine lv_aload_n hx hb dX3_below_47 rfl (lv_at hl 0 rfl) ?_
                refine kg F hE hW (10, 0) (hM.1 0 (by decide)) rfl hM.2.1 rfl inA_X3 8 (by decide) kw_614 (v := .ref (ad (10, 8))) rfl dX3_below_48 ?_
                refine lv_iconst (v := nI 5) hx hb dX3_below_51 (by decide) ?_
                refine lv_iload_n hx hb dX3_below_52 rfl (lv_at hl 1 rfl) ?_
                refine lv_imul hx hb dX3_below_53 ?_
                refine ktop (pk_mul _ _) ?_
                refine lv_iload_n hx hb dX3_below_54 rfl (lv_at hl 2 rfl) ?_
                refine lv_iadd hx hb dX3_below_55 ?_
                refine ktop (nI_add _ _) ?_
                refine kl_i F hE hW (10, 8) (hM.1 8 (by decide)) rfl hM.2.2.2.2.2.2.2.2.2.1 ((5 * j) + k9) rfl (by omega) (by decide) dX3_below_56 ?_
                refine lv_goto (tgt := 61) hx hb dX3_below_57 (by decide) ?_
                exact kr_i F hr hlk hE hW hS (Nat.le_of_ble_eq_true rfl) (Nat.le_of_ble_eq_true rfl) dX3_below_61 (⟨_, _, rfl, hM, hX, Or.inl ⟨j, rfl, hv, k9, hk9, rfl, rfl, by unfold blA; rw [if_pos (by omega)]; rfl⟩⟩)
          · exact absurd c9 (by decide)
        · exact absurd hq9 (by decide)
  · refine nz_eq (tgt := 17) hx hb dX3_below_6 (by decide) (by decide) (fun c9 => ?_) (fun c9 => ?_)
    · refine lv_iconst (v := nI 1) hx hb dX3_below_17 (by decide) ?_
      refine kc_V 1 (c_X3_holds l G A ad dm ct0 lv lev lo hi ri sz ky vl go rt ep wq wn cn op cl ca ce kc nb th fo hM 1 (by decide)) F hE hW hS (10, 0) (hM.1 0 (by decide)) hM.2.1 rfl [.int (nI 1)] rfl kw_682 kw_684 kp_16 kw_6 kw_685 (by decide +kernel) rfl ⟨rfl, rfl⟩ ⟨Nat.le_of_ble_eq_true rfl, Nat.le_of_ble_eq_true rfl⟩ hl.1 rfl (Nat.le_of_ble_eq_true rfl) dX3_below_18 ⟨Nat.le_of_ble_eq_true rfl, Nat.le_of_ble_eq_true rfl⟩ (fun _ _ _ _ _ h => h.elim) (fun v w' H locs hp hW hS => ?_)
      obtain ⟨ct2, rfl, hM, hX0, ⟨hq9, -⟩ | ⟨-, rfl⟩⟩ := hp
      · exact absurd hq9 (by decide)
      · have hX := hX.tr hX0
        refine nz_ne (tgt := 28) hx hb dX3_below_21 (by decide) (by decide) (fun c9 => ?_) (fun c9 => ?_)
        · exact absurd c9 (by decide)
        · refine lv_iconst (v := nI 0) hx hb dX3_below_24 (by decide) ?_
          refine lv_goto (tgt := 61) hx hb dX3_below_25 (by decide) ?_
          exact kr_i F hr hlk hE hW hS (Nat.le_of_ble_eq_true rfl) (Nat.le_of_ble_eq_true rfl) dX3_below_61 (⟨_, _, rfl, hM, hX, Or.inr ⟨Or.inl hno, rfl, rfl⟩⟩)
    · exact absurd c9 (by decide)
set_option maxRecDepth 100000 in
set_option maxHeartbeats 4000000 in
theorem c_X3_links (l : Launch) (G : GG) (A : Nat → Prop) (ad : Lb → Nat) (dm : Lb → Prop) (ct0 : Lb → va_E) (lv : Nat → Bool) (lev : Nat → Nat) (lo : Nat → Nat) (hi : Nat → Nat) (ri : Nat → Option Nat) (sz : Nat → Nat) (ky : Nat → Nat) (vl : Nat → Nat) (go : Nat → Option Nat) (rt : Nat) (ep : Nat) (wq : Nat → Nat) (wn : Nat) (cn : Nat) (op : Nat → Bool) (cl : Nat → Nat) (ca : Nat → Nat) (ce : Nat → Nat) (kc : Nat) (nb : Nat) (th fo : Nat) (hM : MDF G ad dm ct0 lv lev lo hi ri sz ky vl go rt ep wq wn cn op cl ca ce kc nb th fo) (t0 : Nat) (hI : InvF lv lev lo hi ri sz ky vl go rt ep wq wn cn op cl ca ce kc nb 800 t0) (x : Int32) :
    CT l yX3_links cX3_links 3 (some FieldType.int) { frames := 2, cells := 0, slots := 0, locals := 48 } [.ref (ad (10, 0)), .int x] G A (ad, dm, ct0) (fun v w' => ∃ ct' th' fo', w' = (ad, dm, ct') ∧ MDF G ad dm ct' lv lev lo hi ri sz ky vl go rt ep wq wn cn op cl ca ce kc nb th' fo' ∧ XM ct0 ct' ∧ ((∃ k, k < 200 ∧ x = nI k ∧ th' = 0 ∧ v = some (.int (nI (dnF lev hi ri sz ky vl k 0 2000 rt).2))) ∨ ((∀ k, k < 200 → x ≠ nI k) ∧ th' = 1 ∧ v = some (.int (nI 0))))) (fun _ => False) (0) (0) := by
  refine ct_of (by decide) (Nat.le_of_ble_eq_true rfl) ?_
  intro p e s m below meth c ls F hr hlk hnm hex hE hW hl
  have hx := F.1
  have hb := F.2.1
  have hS : va_S A s.heap s.heap [] := va_S.rf
  have hl : lv_has ls 3 [(0, .ref (ad (10, 0))), (1, .int x)] := hl
  have hX : XM ct0 ct0 := XM.rf
  refine lv_aload_n hx hb dX3_links_0 rfl (lv_at hl 0 rfl) ?_
  refine lv_iload_n hx hb dX3_links_1 rfl (lv_at hl 1 rfl) ?_
  refine kc_S 1 (c_X3_isKey l G A ad dm ct0 x) F hE hW hS kw_676 kw_677 kw_6 kw_678 (by decide +kernel) rfl ⟨rfl, rfl⟩ ⟨Nat.le_of_ble_eq_true rfl, Nat.le_of_ble_eq_true rfl⟩ hl.1 rfl (Nat.le_of_ble_eq_true rfl) dX3_links_2 ⟨Nat.le_of_ble_eq_true rfl, Nat.le_of_ble_eq_true rfl⟩ (fun _ _ _ _ _ h => h.elim) (fun v w' H locs hp hW hS => ?_)
  obtain ⟨rfl, ⟨rfl, k, hk, rfl⟩ | ⟨rfl, hno⟩⟩ := hp
  · refine nz_eq (tgt := 12) hx hb dX3_links_5 (by decide) (by decide) (fun c9 => ?_) (fun c9 => ?_)
    · exact absurd c9 (by decide)
    · refine lv_iconst (v := nI 0) hx hb dX3_links_8 (by decide) ?_
      refine lv_goto (tgt := 13) hx hb dX3_links_9 (by decide) ?_
      refine kc_V 1 (c_X3_holds l G A ad dm ct0 lv lev lo hi ri sz ky vl go rt ep wq wn cn op cl ca ce kc nb th fo hM 0 (by decide)) F hE hW hS (10, 0) (hM.1 0 (by decide)) hM.2.1 rfl [.int (nI 0)] rfl kw_682 kw_684 kp_16 kw_6 kw_685 (by decide +kernel) rfl ⟨rfl, rfl⟩ ⟨Nat.le_of_ble_eq_true rfl, Nat.le_of_ble_eq_true rfl⟩ hl.1 rfl (Nat.le_of_ble_eq_true rfl) dX3_links_13 ⟨Nat.le_of_ble_eq_true rfl, Nat.le_of_ble_eq_true rfl⟩ (fun _ _ _ _ _ h => h.elim) (fun v w' H locs hp hW hS => ?_)
      obtain ⟨ct2, rfl, hM, hX0, ⟨-, rfl⟩ | ⟨hq9, -⟩⟩ := hp
      · have hX := hX.tr hX0
        refine nz_ne (tgt := 21) hx hb dX3_links_16 (by decide) (by decide) (fun c9 => ?_) (fun c9 => ?_)
        · have hI0 := hI
          obtain ⟨hP, hQ, hCu, hkc, hsum, ht, hep, hkt⟩ := hI
          have hb9 : nb ≤ 513 := by omega
          have hwn9 : wn ≤ 513 := by omega
          obtain ⟨hfr1, hfr2, hfr3⟩ := fr_spec hP hb9
          have hAt := dnF_at hP hk 2000 rt (vp_root (key := k) (lvl := 0) hP (Nat.zero_le _)) (by have := mu_root hP hb9; omega)
          obtain ⟨pz, hpz⟩ : ∃ z, (dnF lev hi ri sz ky vl k 0 2000 rt).1 = z := ⟨_, rfl⟩
          rw [hpz] at hAt
          obtain ⟨u1, u2, u3, u4, u5, u6⟩ := pg_bd hP hb9 hAt.1.1
          refine lv_aload_n hx hb dX3_links_21 rfl (lv_at hl 0 rfl) ?_
          refine lv_iload_n hx hb dX3_links_22 rfl (lv_at hl 1 rfl) ?_
          refine lv_iconst (v := nI 0) hx hb dX3_links_23 (by decide) ?_
          refine kc_V 2 (c_X3_down l G A ad dm ct2 lv lev lo hi ri sz ky vl go rt ep wq wn cn op cl ca ce kc nb 0 fo hM 800 k 0 hP hb9 hk (Nat.zero_le _)) F hE hW hS (10, 0) (hM.1 0 (by decide)) hM.2.1 rfl [.int (nI k), .int (nI 0)] rfl kw_686 kw_688 kp_17 kw_6 kw_689 (by decide +kernel) rfl ⟨rfl, rfl⟩ ⟨Nat.le_of_ble_eq_true rfl, Nat.le_of_ble_eq_true rfl⟩ hl.1 rfl (Nat.le_of_ble_eq_true rfl) dX3_links_24 ⟨Nat.le_of_ble_eq_true rfl, Nat.le_of_ble_eq_true rfl⟩ (fun _ _ _ _ _ h => h.elim) (fun v w' H locs hp hW hS => ?_)
          obtain ⟨ct2, rfl, hM, hX0, rfl⟩ := hp
          have hX := hX.tr hX0
          rw [hpz]
          refine lv_istore_n (lv' := [(2, .int (nI pz)), (0, .ref (ad (10, 0))), (1, .int (nI k))]) hx hb dX3_links_27 rfl hl (by decide) rfl (fun ls hl => ?_)
          refine lv_aload_n hx hb dX3_links_28 rfl (lv_at hl 1 rfl) ?_
          refine kg F hE hW (10, 0) (hM.1 0 (by decide)) rfl hM.2.1 rfl inA_X3 1 (by decide) kw_607 (v := .ref (ad (10, 1))) rfl dX3_links_29 ?_
          refine lv_iload_n hx hb dX3_links_32 rfl (lv_at hl 0 rfl) ?_
          refine kl_z F hE hW (10, 1) (hM.1 1 (by decide)) rfl hM.2.2.1 pz rfl (by omega) (by decide) dX3_links_33 ?_
          rw [hAt.1.1]
          refine nz_eq (tgt := 44) hx hb dX3_links_34 (by decide) (by decide) (fun c9 => ?_) (fun c9 => ?_)
          · exact absurd c9 (by decide)
          · refine lv_aload_n hx hb dX3_links_37 rfl (lv_at hl 1 rfl) ?_
            refine kg F hE hW (10, 0) (hM.1 0 (by decide)) rfl hM.2.1 rfl inA_X3 19 (by decide) kw_625 (v := .int (nI ((dnF lev hi ri sz ky vl k 0 2000 rt).2))) rfl dX3_links_38 ?_
            refine lv_goto (tgt := 45) hx hb dX3_links_41 (by decide) ?_
            exact kr_i F hr hlk hE hW hS (Nat.le_of_ble_eq_true rfl) (Nat.le_of_ble_eq_true rfl) dX3_links_45 (⟨_, _, _, rfl, hM, hX, Or.inl ⟨k, hk, rfl, rfl, rfl⟩⟩)
        · exact absurd c9 (by decide)
      · exact absurd hq9 (by decide)
  · refine nz_eq (tgt := 12) hx hb dX3_links_5 (by decide) (by decide) (fun c9 => ?_) (fun c9 => ?_)
    · refine lv_iconst (v := nI 1) hx hb dX3_links_12 (by decide) ?_
      refine kc_V 1 (c_X3_holds l G A ad dm ct0 lv lev lo hi ri sz ky vl go rt ep wq wn cn op cl ca ce kc nb th fo hM 1 (by decide)) F hE hW hS (10, 0) (hM.1 0 (by decide)) hM.2.1 rfl [.int (nI 1)] rfl kw_682 kw_684 kp_16 kw_6 kw_685 (by decide +kernel) rfl ⟨rfl, rfl⟩ ⟨Nat.le_of_ble_eq_true rfl, Nat.le_of_ble_eq_true rfl⟩ hl.1 rfl (Nat.le_of_ble_eq_true rfl) dX3_links_13 ⟨Nat.le_of_ble_eq_true rfl, Nat.le_of_ble_eq_true rfl⟩ (fun _ _ _ _ _ h => h.elim) (fun v w' H locs hp hW hS => ?_)
      obtain ⟨ct2, rfl, hM, hX0, ⟨hq9, -⟩ | ⟨-, rfl⟩⟩ := hp
      · exact absurd hq9 (by decide)
      · have hX := hX.tr hX0
        refine nz_ne (tgt := 21) hx hb dX3_links_16 (by decide) (by decide) (fun c9 => ?_) (fun c9 => ?_)
        · exact absurd c9 (by decide)
        · refine lv_iconst (v := nI 0) hx hb dX3_links_19 (by decide) ?_
          exact kr_i F hr hlk hE hW hS (Nat.le_of_ble_eq_true rfl) (Nat.le_of_ble_eq_true rfl) dX3_links_20 (⟨_, _, _, rfl, hM, hX, Or.inr ⟨hno, rfl, rfl⟩⟩)
    · exact absurd c9 (by decide)
set_option maxRecDepth 100000 in
set_option maxHeartbeats 4000000 in
theorem c_X3_isCursor (l : Launch) (G : GG) (A : Nat → Prop) (ad : Lb → Nat) (dm : Lb → Prop) (ct0 : Lb → va_E) (lv : Nat → Bool) (lev : Nat → Nat) (lo : Nat → Nat) (hi : Nat → Nat) (ri : Nat → Option Nat) (sz : Nat → Nat) (ky : Nat → Nat) (vl : Nat → Nat) (go : Nat → Option Nat) (rt : Nat) (ep : Nat) (wq : Nat → Nat) (wn : Nat) (cn : Nat) (op : Nat → Bool) (cl : Nat → Nat) (ca : Nat → Nat) (ce : Nat → Nat) (kc : Nat) (nb : Nat) (th fo : Nat) (hM : MDF G ad dm ct0 lv lev lo hi ri sz ky vl go rt ep wq wn cn op cl ca ce kc nb th fo) (hcn : cn ≤ 20) (x : Int32) :
    CT l yX3_isCursor cX3_isCursor 2 (some FieldType.boolean) { frames := 1, cells := 0, slots := 0, locals := 22 } [.ref (ad (10, 0)), .int x] G A (ad, dm, ct0) (fun v w' => (ad, dm, ct0) = w' ∧ ((v = some (.int (nI 1)) ∧ ∃ j, j < cn ∧ x = nI j ∧ op j = true) ∨ (v = some (.int (nI 0)) ∧ ∀ j, j < cn → op j = true → x ≠ nI j))) (fun _ => False) (0) (0) := by
  refine ct_of (by decide) (Nat.le_of_ble_eq_true rfl) ?_
  intro p e s m below meth c ls F hr hlk hnm hex hE hW hl
  have hx := F.1
  have hb := F.2.1
  have hS : va_S A s.heap s.heap [] := va_S.rf
  have hl : lv_has ls 2 [(0, .ref (ad (10, 0))), (1, .int x)] := hl
  have hX : XM ct0 ct0 := XM.rf
  refine lv_iload_n hx hb dX3_isCursor_0 rfl (lv_at hl 1 rfl) ?_
  refine lv_iconst (v := nI 0) hx hb dX3_isCursor_1 (by decide) ?_
  refine lv_aload_n hx hb dX3_isCursor_2 rfl (lv_at hl 0 rfl) ?_
  refine kg F hE hW (10, 0) (hM.1 0 (by decide)) rfl hM.2.1 rfl inA_X3 14 (by decide) kw_620 (v := .int (nI cn)) rfl dX3_isCursor_3 ?_
  refine lv_iconst (v := nI 1) hx hb dX3_isCursor_6 (by decide) ?_
  refine lv_isub hx hb dX3_isCursor_7 ?_
  refine ktop (y := lI cn) rfl ?_
  refine kc_S 3 (c_X3_in l G A ad dm ct0 x cn (by omega)) F hE hW hS kw_679 kw_680 kw_6 kw_681 (by decide +kernel) rfl ⟨rfl, rfl⟩ ⟨Nat.le_of_ble_eq_true rfl, Nat.le_of_ble_eq_true rfl⟩ hl.1 rfl (Nat.le_of_ble_eq_true rfl) dX3_isCursor_8 ⟨Nat.le_of_ble_eq_true rfl, Nat.le_of_ble_eq_true rfl⟩ (fun _ _ _ _ _ h => h.elim) (fun v w' H locs hp hW hS => ?_)
  obtain ⟨rfl, ⟨rfl, j, hj, rfl⟩ | ⟨rfl, hno⟩⟩ := hp
  · refine nz_eq (tgt := 27) hx hb dX3_isCursor_11 (by decide) (by decide) (fun c9 => ?_) (fun c9 => ?_)
    · exact absurd c9 (by decide)
    · refine lv_aload_n hx hb dX3_isCursor_14 rfl (lv_at hl 0 rfl) ?_
      refine kg F hE hW (10, 0) (hM.1 0 (by decide)) rfl hM.2.1 rfl inA_X3 15 (by decide) kw_621 (v := .ref (ad (10, 11))) rfl dX3_isCursor_15 ?_
      refine lv_iload_n hx hb dX3_isCursor_18 rfl (lv_at hl 1 rfl) ?_
      refine kl_z F hE hW (10, 11) (hM.1 11 (by decide)) rfl hM.2.2.2.2.2.2.2.2.2.2.2.2.1 j rfl (by omega) (by decide) dX3_isCursor_19 ?_
      cases hv : op j with
      | false =>
        refine nz_eq (tgt := 27) hx hb dX3_isCursor_20 (by decide) (by decide) (fun c9 => ?_) (fun c9 => ?_)
        · refine lv_iconst (v := nI 0) hx hb dX3_isCursor_27 (by decide) ?_
          exact kr_z F hr hlk hE hW hS (Nat.le_of_ble_eq_true rfl) (Nat.le_of_ble_eq_true rfl) rfl dX3_isCursor_28 (⟨rfl, Or.inr ⟨rfl, fun i hi9 ho e => by rw [nI_inj (by omega) (by omega) e, ho] at hv; cases hv⟩⟩)
        · exact absurd c9 (by decide)
      | true =>
        refine nz_eq (tgt := 27) hx hb dX3_isCursor_20 (by decide) (by decide) (fun c9 => ?_) (fun c9 => ?_)
        · exact absurd c9 (by decide)
        · refine lv_iconst (v := nI 1) hx hb dX3_isCursor_23 (by decide) ?_
          refine lv_goto (tgt := 28) hx hb dX3_isCursor_24 (by decide) ?_
          exact kr_z F hr hlk hE hW hS (Nat.le_of_ble_eq_true rfl) (Nat.le_of_ble_eq_true rfl) rfl dX3_isCursor_28 (⟨rfl, Or.inl ⟨rfl, j, hj, rfl, hv⟩⟩)
  · refine nz_eq (tgt := 27) hx hb dX3_isCursor_11 (by decide) (by decide) (fun c9 => ?_) (fun c9 => ?_)
    · refine lv_iconst (v := nI 0) hx hb dX3_isCursor_27 (by decide) ?_
      exact kr_z F hr hlk hE hW hS (Nat.le_of_ble_eq_true rfl) (Nat.le_of_ble_eq_true rfl) rfl dX3_isCursor_28 (⟨rfl, Or.inr ⟨rfl, fun j hj _ => hno j hj⟩⟩)
    · exact absurd c9 (by decide)
set_option maxRecDepth 100000 in
set_option maxHeartbeats 4000000 in
theorem c_X3_leafOf (l : Launch) (G : GG) (A : Nat → Prop) (ad : Lb → Nat) (dm : Lb → Prop) (ct0 : Lb → va_E) (lv : Nat → Bool) (lev : Nat → Nat) (lo : Nat → Nat) (hi : Nat → Nat) (ri : Nat → Option Nat) (sz : Nat → Nat) (ky : Nat → Nat) (vl : Nat → Nat) (go : Nat → Option Nat) (rt : Nat) (ep : Nat) (wq : Nat → Nat) (wn : Nat) (cn : Nat) (op : Nat → Bool) (cl : Nat → Nat) (ca : Nat → Nat) (ce : Nat → Nat) (kc : Nat) (nb : Nat) (th fo : Nat) (hM : MDF G ad dm ct0 lv lev lo hi ri sz ky vl go rt ep wq wn cn op cl ca ce kc nb th fo) (t0 : Nat) (hI : InvF lv lev lo hi ri sz ky vl go rt ep wq wn cn op cl ca ce kc nb 800 t0) (x : Int32) :
    CT l yX3_leafOf cX3_leafOf 2 (some FieldType.int) { frames := 2, cells := 0, slots := 0, locals := 43 } [.ref (ad (10, 0)), .int x] G A (ad, dm, ct0) (fun v w' => ∃ ct' th' s', w' = (ad, dm, ct') ∧ MD G ad dm ct' s' th' fo ∧ XM ct0 ct' ∧ ((∃ j, j < cn ∧ x = nI j ∧ op j = true ∧ th' = 0 ∧ s' = (lv, lev, lo, hi, ri, sz, ky, vl, go, rt, ep, wq, wn, cn, op, cl, ca, ce, kc, nb) ∧ v = some (.int (nI (cl j)))) ∨ ((∀ j, j < cn → op j = true → x ≠ nI j) ∧ th' = 1 ∧ s' = (lv, lev, lo, hi, ri, sz, ky, vl, go, rt, ep, wq, wn, cn, op, cl, ca, ce, kc, nb) ∧ v = some (.int (nI 0))))) (fun _ => False) (0) (0) := by
  refine ct_of (by decide) (Nat.le_of_ble_eq_true rfl) ?_
  intro p e s m below meth c ls F hr hlk hnm hex hE hW hl
  have hx := F.1
  have hb := F.2.1
  have hS : va_S A s.heap s.heap [] := va_S.rf
  have hl : lv_has ls 2 [(0, .ref (ad (10, 0))), (1, .int x)] := hl
  have hX : XM ct0 ct0 := XM.rf
  have hI0 := hI
  obtain ⟨hP, hQ, hCu, hkc, hsum, ht, hep, hkt⟩ := hI
  have hb9 : nb ≤ 513 := by omega
  have hwn9 : wn ≤ 513 := by omega
  obtain ⟨hfr1, hfr2, hfr3⟩ := fr_spec hP hb9
  refine lv_aload_n hx hb dX3_leafOf_0 rfl (lv_at hl 0 rfl) ?_
  refine lv_aload_n hx hb dX3_leafOf_1 rfl (lv_at hl 0 rfl) ?_
  refine lv_iload_n hx hb dX3_leafOf_2 rfl (lv_at hl 1 rfl) ?_
  refine kc_V 1 (c_X3_isCursor l G A ad dm ct0 lv lev lo hi ri sz ky vl go rt ep wq wn cn op cl ca ce kc nb th fo hM hCu.1 x) F hE hW hS (10, 0) (hM.1 0 (by decide)) hM.2.1 rfl [.int x] rfl kw_822 kw_824 kp_29 kw_6 kw_825 (by decide +kernel) rfl ⟨rfl, rfl⟩ ⟨Nat.le_of_ble_eq_true rfl, Nat.le_of_ble_eq_true rfl⟩ hl.1 rfl (Nat.le_of_ble_eq_true rfl) dX3_leafOf_3 ⟨Nat.le_of_ble_eq_true rfl, Nat.le_of_ble_eq_true rfl⟩ (fun _ _ _ _ _ h => h.elim) (fun v w' H locs hp hW hS => ?_)
  obtain ⟨rfl, ⟨rfl, j, hj, rfl, hv⟩ | ⟨rfl, hno⟩⟩ := hp
  · have hcn9 := hCu.1
    obtain ⟨v1, v2, v3⟩ := hCu.2 j hj
    obtain ⟨v4, v5, v6⟩ := v3 hv
    obtain ⟨u1, u2, u3, u4, u5, u6⟩ := pg_bd hP hb9 v4
    refine nz_eq (tgt := 13) hx hb dX3_leafOf_6 (by decide) (by decide) (fun c9 => ?_) (fun c9 => ?_)
    · exact absurd c9 (by decide)
    · refine lv_iconst (v := nI 0) hx hb dX3_leafOf_9 (by decide) ?_
      refine lv_goto (tgt := 14) hx hb dX3_leafOf_10 (by decide) ?_
      refine kc_V 1 (c_X3_holds l G A ad dm ct0 lv lev lo hi ri sz ky vl go rt ep wq wn cn op cl ca ce kc nb th fo hM 0 (by decide)) F hE hW hS (10, 0) (hM.1 0 (by decide)) hM.2.1 rfl [.int (nI 0)] rfl kw_682 kw_684 kp_16 kw_6 kw_685 (by decide +kernel) rfl ⟨rfl, rfl⟩ ⟨Nat.le_of_ble_eq_true rfl, Nat.le_of_ble_eq_true rfl⟩ hl.1 rfl (Nat.le_of_ble_eq_true rfl) dX3_leafOf_14 ⟨Nat.le_of_ble_eq_true rfl, Nat.le_of_ble_eq_true rfl⟩ (fun _ _ _ _ _ h => h.elim) (fun v w' H locs hp hW hS => ?_)
      obtain ⟨ct2, rfl, hM, hX0, ⟨-, rfl⟩ | ⟨hq9, -⟩⟩ := hp
      · have hX := hX.tr hX0
        refine nz_eq (tgt := 29) hx hb dX3_leafOf_17 (by decide) (by decide) (fun c9 => ?_) (fun c9 => ?_)
        · exact absurd c9 (by decide)
        · refine lv_aload_n hx hb dX3_leafOf_20 rfl (lv_at hl 0 rfl) ?_
          refine kg F hE hW (10, 0) (hM.1 0 (by decide)) rfl hM.2.1 rfl inA_X3 16 (by decide) kw_622 (v := .ref (ad (10, 12))) rfl dX3_leafOf_21 ?_
          refine lv_iload_n hx hb dX3_leafOf_24 rfl (lv_at hl 1 rfl) ?_
          refine kl_i F hE hW (10, 12) (hM.1 12 (by decide)) rfl hM.2.2.2.2.2.2.2.2.2.2.2.2.2.1 j rfl (by omega) (by decide) dX3_leafOf_25 ?_
          refine lv_goto (tgt := 30) hx hb dX3_leafOf_26 (by decide) ?_
          exact kr_i F hr hlk hE hW hS (Nat.le_of_ble_eq_true rfl) (Nat.le_of_ble_eq_true rfl) dX3_leafOf_30 (⟨_, _, (lv, lev, lo, hi, ri, sz, ky, vl, go, rt, ep, wq, wn, cn, op, cl, ca, ce, kc, nb), rfl, hM, hX, Or.inl ⟨j, hj, rfl, hv, rfl, rfl, rfl⟩⟩)
      · exact absurd hq9 (by decide)
  · refine nz_eq (tgt := 13) hx hb dX3_leafOf_6 (by decide) (by decide) (fun c9 => ?_) (fun c9 => ?_)
    · refine lv_iconst (v := nI 1) hx hb dX3_leafOf_13 (by decide) ?_
      refine kc_V 1 (c_X3_holds l G A ad dm ct0 lv lev lo hi ri sz ky vl go rt ep wq wn cn op cl ca ce kc nb th fo hM 1 (by decide)) F hE hW hS (10, 0) (hM.1 0 (by decide)) hM.2.1 rfl [.int (nI 1)] rfl kw_682 kw_684 kp_16 kw_6 kw_685 (by decide +kernel) rfl ⟨rfl, rfl⟩ ⟨Nat.le_of_ble_eq_true rfl, Nat.le_of_ble_eq_true rfl⟩ hl.1 rfl (Nat.le_of_ble_eq_true rfl) dX3_leafOf_14 ⟨Nat.le_of_ble_eq_true rfl, Nat.le_of_ble_eq_true rfl⟩ (fun _ _ _ _ _ h => h.elim) (fun v w' H locs hp hW hS => ?_)
      obtain ⟨ct2, rfl, hM, hX0, ⟨hq9, -⟩ | ⟨-, rfl⟩⟩ := hp
      · exact absurd hq9 (by decide)
      · have hX := hX.tr hX0
        refine nz_eq (tgt := 29) hx hb dX3_leafOf_17 (by decide) (by decide) (fun c9 => ?_) (fun c9 => ?_)
        · refine lv_iconst (v := nI 0) hx hb dX3_leafOf_29 (by decide) ?_
          exact kr_i F hr hlk hE hW hS (Nat.le_of_ble_eq_true rfl) (Nat.le_of_ble_eq_true rfl) dX3_leafOf_30 (⟨_, _, (lv, lev, lo, hi, ri, sz, ky, vl, go, rt, ep, wq, wn, cn, op, cl, ca, ce, kc, nb), rfl, hM, hX, Or.inr ⟨hno, rfl, rfl, rfl⟩⟩)
        · exact absurd c9 (by decide)
    · exact absurd c9 (by decide)
set_option maxRecDepth 100000 in
set_option maxHeartbeats 4000000 in
theorem c_X3_close (l : Launch) (G : GG) (A : Nat → Prop) (ad : Lb → Nat) (dm : Lb → Prop) (ct0 : Lb → va_E) (lv : Nat → Bool) (lev : Nat → Nat) (lo : Nat → Nat) (hi : Nat → Nat) (ri : Nat → Option Nat) (sz : Nat → Nat) (ky : Nat → Nat) (vl : Nat → Nat) (go : Nat → Option Nat) (rt : Nat) (ep : Nat) (wq : Nat → Nat) (wn : Nat) (cn : Nat) (op : Nat → Bool) (cl : Nat → Nat) (ca : Nat → Nat) (ce : Nat → Nat) (kc : Nat) (nb : Nat) (th fo : Nat) (hM : MDF G ad dm ct0 lv lev lo hi ri sz ky vl go rt ep wq wn cn op cl ca ce kc nb th fo) (t0 : Nat) (hI : InvF lv lev lo hi ri sz ky vl go rt ep wq wn cn op cl ca ce kc nb 800 t0) (x : Int32) :
    CT l yX3_close cX3_close 4 (some FieldType.int) { frames := 2, cells := 0, slots := 0, locals := 43 } [.ref (ad (10, 0)), .int x] G A (ad, dm, ct0) (fun v w' => ∃ ct' th' s', w' = (ad, dm, ct') ∧ MD G ad dm ct' s' th' fo ∧ XM ct0 ct' ∧ ((∃ j, j < cn ∧ x = nI j ∧ op j = true ∧ th' = 0 ∧ s' = cloS (lv, lev, lo, hi, ri, sz, ky, vl, go, rt, ep, wq, wn, cn, op, cl, ca, ce, kc, nb) j ∧ v = some (.int (nI (cntB cn (va_up op j false))))) ∨ ((∀ j, j < cn → op j = true → x ≠ nI j) ∧ th' = 1 ∧ s' = (lv, lev, lo, hi, ri, sz, ky, vl, go, rt, ep, wq, wn, cn, op, cl, ca, ce, kc, nb) ∧ v = some (.int (nI 0))))) (fun _ => False) (0) (0) := by
  refine ct_of (by decide) (Nat.le_of_ble_eq_true rfl) ?_
  intro p e s m below meth c ls F hr hlk hnm hex hE hW hl
  have hx := F.1
  have hb := F.2.1
  have hS : va_S A s.heap s.heap [] := va_S.rf
  have hl : lv_has ls 4 [(0, .ref (ad (10, 0))), (1, .int x)] := hl
  have hX : XM ct0 ct0 := XM.rf
  have hI0 := hI
  obtain ⟨hP, hQ, hCu, hkc, hsum, ht, hep, hkt⟩ := hI
  have hb9 : nb ≤ 513 := by omega
  have hwn9 : wn ≤ 513 := by omega
  obtain ⟨hfr1, hfr2, hfr3⟩ := fr_spec hP hb9
  refine lv_aload_n hx hb dX3_close_0 rfl (lv_at hl 0 rfl) ?_
  refine lv_aload_n hx hb dX3_close_1 rfl (lv_at hl 0 rfl) ?_
  refine lv_iload_n hx hb dX3_close_2 rfl (lv_at hl 1 rfl) ?_
  refine kc_V 1 (c_X3_isCursor l G A ad dm ct0 lv lev lo hi ri sz ky vl go rt ep wq wn cn op cl ca ce kc nb th fo hM hCu.1 x) F hE hW hS (10, 0) (hM.1 0 (by decide)) hM.2.1 rfl [.int x] rfl kw_822 kw_824 kp_29 kw_6 kw_825 (by decide +kernel) rfl ⟨rfl, rfl⟩ ⟨Nat.le_of_ble_eq_true rfl, Nat.le_of_ble_eq_true rfl⟩ hl.1 rfl (Nat.le_of_ble_eq_true rfl) dX3_close_3 ⟨Nat.le_of_ble_eq_true rfl, Nat.le_of_ble_eq_true rfl⟩ (fun _ _ _ _ _ h => h.elim) (fun v w' H locs hp hW hS => ?_)
  obtain ⟨rfl, ⟨rfl, j, hj, rfl, hv⟩ | ⟨rfl, hno⟩⟩ := hp
  · have hcn9 := hCu.1
    obtain ⟨v1, v2, v3⟩ := hCu.2 j hj
    obtain ⟨v4, v5, v6⟩ := v3 hv
    obtain ⟨u1, u2, u3, u4, u5, u6⟩ := pg_bd hP hb9 v4
    refine nz_eq (tgt := 13) hx hb dX3_close_6 (by decide) (by decide) (fun c9 => ?_) (fun c9 => ?_)
    · exact absurd c9 (by decide)
    · refine lv_iconst (v := nI 0) hx hb dX3_close_9 (by decide) ?_
      refine lv_goto (tgt := 14) hx hb dX3_close_10 (by decide) ?_
      refine kc_V 1 (c_X3_holds l G A ad dm ct0 lv lev lo hi ri sz ky vl go rt ep wq wn cn op cl ca ce kc nb th fo hM 0 (by decide)) F hE hW hS (10, 0) (hM.1 0 (by decide)) hM.2.1 rfl [.int (nI 0)] rfl kw_682 kw_684 kp_16 kw_6 kw_685 (by decide +kernel) rfl ⟨rfl, rfl⟩ ⟨Nat.le_of_ble_eq_true rfl, Nat.le_of_ble_eq_true rfl⟩ hl.1 rfl (Nat.le_of_ble_eq_true rfl) dX3_close_14 ⟨Nat.le_of_ble_eq_true rfl, Nat.le_of_ble_eq_true rfl⟩ (fun _ _ _ _ _ h => h.elim) (fun v w' H locs hp hW hS => ?_)
      obtain ⟨ct2, rfl, hM, hX0, ⟨-, rfl⟩ | ⟨hq9, -⟩⟩ := hp
      · have hX := hX.tr hX0
        refine nz_ne (tgt := 22) hx hb dX3_close_17 (by decide) (by decide) (fun c9 => ?_) (fun c9 => ?_)
        · refine lv_aload_n hx hb dX3_close_22 rfl (lv_at hl 0 rfl) ?_
          refine kg F hE hW (10, 0) (hM.1 0 (by decide)) rfl hM.2.1 rfl inA_X3 15 (by decide) kw_621 (v := .ref (ad (10, 11))) rfl dX3_close_23 ?_
          refine lv_iload_n hx hb dX3_close_26 rfl (lv_at hl 1 rfl) ?_
          refine lv_iconst (v := nI 0) hx hb dX3_close_27 (by decide) ?_
          refine ms_op (v := false) F hE hW hS hM j rfl (by omega) dX3_close_28 (fun ct H locs hW hM hX0 hS => ?_)
          have hX := hX.tr hX0
          refine lv_iconst (v := nI 0) hx hb dX3_close_29 (by decide) ?_
          refine lv_istore_n (lv' := [(2, .int (nI 0)), (0, .ref (ad (10, 0))), (1, .int (nI j))]) hx hb dX3_close_30 rfl hl (by decide) rfl (fun ls hl => ?_)
          refine lv_iconst (v := nI 0) hx hb dX3_close_31 (by decide) ?_
          refine lv_istore_n (lv' := [(3, .int (nI 0)), (2, .int (nI 0)), (0, .ref (ad (10, 0))), (1, .int (nI j))]) hx hb dX3_close_32 rfl hl (by decide) rfl (fun ls hl => ?_)
          suffices key : ∀ (d : Nat) (i : Nat) (n : Nat) (ct1 : Lb → va_E) (H : Heap) (locs : List Loc) (ls : Array Slot), i + d = cn → n = cntB i (va_up op j false) → MDF G ad dm ct1 lv lev lo hi ri sz ky vl go rt ep wq wn cn (va_up op j false) cl ca ce kc nb 0 fo → XM ct0 ct1 → wd G A (ad, dm, ct1) H → va_S A s.heap H locs → lv_has ls 4 [(3, .int (nI i)), (2, .int (nI n)), (0, .ref (ad (10, 0))), (1, .int (nI j))] → W _ l e _ s m _ below meth c H locs 0 0 _ (F0 m 33 ls []) from
            key cn 0 0 _ _ _ ls (Nat.zero_add _) rfl hM hX hW hS hl
          clear hM hX hW hS hl
          intro d
          induction d with
          | zero =>
            intro i n ct H locs ls hi2 hn hM hX hW hS hl
            refine lv_iload_n hx hb dX3_close_33 rfl (lv_at hl 0 rfl) ?_
            refine lv_aload_n hx hb dX3_close_34 rfl (lv_at hl 2 rfl) ?_
            refine kg F hE hW (10, 0) (hM.1 0 (by decide)) rfl hM.2.1 rfl inA_X3 14 (by decide) kw_620 (v := .int (nI cn)) rfl dX3_close_35 ?_
            refine nc_ge (tgt := 64) hx hb dX3_close_38 (by decide) (by omega) (by omega) (fun c1 => ?_) (fun c1 => ?_)
            · refine lv_iload_n hx hb dX3_close_64 rfl (lv_at hl 1 rfl) ?_
              have hn9 : n = cntB cn (va_up op j false) := by rw [hn, show i = cn by omega]
              exact kr_i F hr hlk hE hW hS (Nat.le_of_ble_eq_true rfl) (Nat.le_of_ble_eq_true rfl) dX3_close_65 (⟨_, _, cloS (lv, lev, lo, hi, ri, sz, ky, vl, go, rt, ep, wq, wn, cn, op, cl, ca, ce, kc, nb) j, rfl, hM, hX, Or.inl ⟨j, hj, rfl, hv, rfl, rfl, by rw [hn9]⟩⟩)
            · exact absurd c1 (by omega)
          | succ d ih =>
            intro i n ct H locs ls hi2 hn hM hX hW hS hl
            refine lv_iload_n hx hb dX3_close_33 rfl (lv_at hl 0 rfl) ?_
            refine lv_aload_n hx hb dX3_close_34 rfl (lv_at hl 2 rfl) ?_
            refine kg F hE hW (10, 0) (hM.1 0 (by decide)) rfl hM.2.1 rfl inA_X3 14 (by decide) kw_620 (v := .int (nI cn)) rfl dX3_close_35 ?_
            refine nc_ge (tgt := 64) hx hb dX3_close_38 (by decide) (by omega) (by omega) (fun c1 => ?_) (fun c1 => ?_)
            · exact absurd c1 (by omega)
            · refine lv_iload_n hx hb dX3_close_41 rfl (lv_at hl 1 rfl) ?_
              refine lv_aload_n hx hb dX3_close_42 rfl (lv_at hl 2 rfl) ?_
              refine kg F hE hW (10, 0) (hM.1 0 (by decide)) rfl hM.2.1 rfl inA_X3 15 (by decide) kw_621 (v := .ref (ad (10, 11))) rfl dX3_close_43 ?_
              refine lv_iload_n hx hb dX3_close_46 rfl (lv_at hl 0 rfl) ?_
              refine kl_z F hE hW (10, 11) (hM.1 11 (by decide)) rfl hM.2.2.2.2.2.2.2.2.2.2.2.2.1 i rfl (by omega) (by decide) dX3_close_47 ?_
              cases hw : va_up op j false i with
              | false =>
                refine nz_eq (tgt := 55) hx hb dX3_close_48 (by decide) (by decide) (fun c9 => ?_) (fun c9 => ?_)
                · refine lv_iconst (v := nI 0) hx hb dX3_close_55 (by decide) ?_
                  refine lv_iadd hx hb dX3_close_56 ?_
                  refine ktop (nI_add _ _) ?_
                  refine lv_istore_n (lv' := [(2, .int (nI (n + 0))), (3, .int (nI i)), (0, .ref (ad (10, 0))), (1, .int (nI j))]) hx hb dX3_close_57 rfl hl (by decide) rfl (fun ls hl => ?_)
                  refine lv_iinc (v := nI (i + 1)) (lv' := [(3, .int (nI (i + 1))), (2, .int (nI (n + 0))), (0, .ref (ad (10, 0))), (1, .int (nI j))]) hx hb dX3_close_58 hl (k := 1) rfl (ki1 _) (by decide) rfl (fun ls hl => ?_)
                  refine lv_goto (tgt := 33) hx hb dX3_close_61 (by decide) ?_
                  exact ih (i + 1) (n + 0) _ _ _ _ (by omega) (by rw [cntB_s0 hw, hn]; rfl) hM hX hW hS (lv_sub hl [0, 1, 2, 3] rfl)
                · exact absurd c9 (by decide)
              | true =>
                refine nz_eq (tgt := 55) hx hb dX3_close_48 (by decide) (by decide) (fun c9 => ?_) (fun c9 => ?_)
                · exact absurd c9 (by decide)
                · refine lv_iconst (v := nI 1) hx hb dX3_close_51 (by decide) ?_
                  refine lv_goto (tgt := 56) hx hb dX3_close_52 (by decide) ?_
                  refine lv_iadd hx hb dX3_close_56 ?_
                  refine ktop (nI_add _ _) ?_
                  refine lv_istore_n (lv' := [(2, .int (nI (n + 1))), (3, .int (nI i)), (0, .ref (ad (10, 0))), (1, .int (nI j))]) hx hb dX3_close_57 rfl hl (by decide) rfl (fun ls hl => ?_)
                  refine lv_iinc (v := nI (i + 1)) (lv' := [(3, .int (nI (i + 1))), (2, .int (nI (n + 1))), (0, .ref (ad (10, 0))), (1, .int (nI j))]) hx hb dX3_close_58 hl (k := 1) rfl (ki1 _) (by decide) rfl (fun ls hl => ?_)
                  refine lv_goto (tgt := 33) hx hb dX3_close_61 (by decide) ?_
                  exact ih (i + 1) (n + 1) _ _ _ _ (by omega) (by rw [cntB_s1 hw, hn]) hM hX hW hS (lv_sub hl [0, 1, 2, 3] rfl)
        · exact absurd c9 (by decide)
      · exact absurd hq9 (by decide)
  · refine nz_eq (tgt := 13) hx hb dX3_close_6 (by decide) (by decide) (fun c9 => ?_) (fun c9 => ?_)
    · refine lv_iconst (v := nI 1) hx hb dX3_close_13 (by decide) ?_
      refine kc_V 1 (c_X3_holds l G A ad dm ct0 lv lev lo hi ri sz ky vl go rt ep wq wn cn op cl ca ce kc nb th fo hM 1 (by decide)) F hE hW hS (10, 0) (hM.1 0 (by decide)) hM.2.1 rfl [.int (nI 1)] rfl kw_682 kw_684 kp_16 kw_6 kw_685 (by decide +kernel) rfl ⟨rfl, rfl⟩ ⟨Nat.le_of_ble_eq_true rfl, Nat.le_of_ble_eq_true rfl⟩ hl.1 rfl (Nat.le_of_ble_eq_true rfl) dX3_close_14 ⟨Nat.le_of_ble_eq_true rfl, Nat.le_of_ble_eq_true rfl⟩ (fun _ _ _ _ _ h => h.elim) (fun v w' H locs hp hW hS => ?_)
      obtain ⟨ct2, rfl, hM, hX0, ⟨hq9, -⟩ | ⟨-, rfl⟩⟩ := hp
      · exact absurd hq9 (by decide)
      · have hX := hX.tr hX0
        refine nz_ne (tgt := 22) hx hb dX3_close_17 (by decide) (by decide) (fun c9 => ?_) (fun c9 => ?_)
        · exact absurd c9 (by decide)
        · refine lv_iconst (v := nI 0) hx hb dX3_close_20 (by decide) ?_
          exact kr_i F hr hlk hE hW hS (Nat.le_of_ble_eq_true rfl) (Nat.le_of_ble_eq_true rfl) dX3_close_21 (⟨_, _, (lv, lev, lo, hi, ri, sz, ky, vl, go, rt, ep, wq, wn, cn, op, cl, ca, ce, kc, nb), rfl, hM, hX, Or.inr ⟨hno, rfl, rfl, rfl⟩⟩)
    · exact absurd c9 (by decide)
set_option maxRecDepth 100000 in
set_option maxHeartbeats 4000000 in
theorem c_X3_open (l : Launch) (G : GG) (A : Nat → Prop) (ad : Lb → Nat) (dm : Lb → Prop) (ct0 : Lb → va_E) (lv : Nat → Bool) (lev : Nat → Nat) (lo : Nat → Nat) (hi : Nat → Nat) (ri : Nat → Option Nat) (sz : Nat → Nat) (ky : Nat → Nat) (vl : Nat → Nat) (go : Nat → Option Nat) (rt : Nat) (ep : Nat) (wq : Nat → Nat) (wn : Nat) (cn : Nat) (op : Nat → Bool) (cl : Nat → Nat) (ca : Nat → Nat) (ce : Nat → Nat) (kc : Nat) (nb : Nat) (th fo : Nat) (hM : MDF G ad dm ct0 lv lev lo hi ri sz ky vl go rt ep wq wn cn op cl ca ce kc nb th fo) (t0 : Nat) (hI : InvF lv lev lo hi ri sz ky vl go rt ep wq wn cn op cl ca ce kc nb 800 t0) (x : Int32) :
    CT l yX3_open cX3_open 2 (some FieldType.int) { frames := 2, cells := 0, slots := 0, locals := 48 } [.ref (ad (10, 0)), .int x] G A (ad, dm, ct0) (fun v w' => ∃ ct' th' fo' s', w' = (ad, dm, ct') ∧ MD G ad dm ct' s' th' fo' ∧ XM ct0 ct' ∧ ((∃ k, k < 200 ∧ x = nI k ∧ cn < 20 ∧ th' = 0 ∧ s' = opnS (lv, lev, lo, hi, ri, sz, ky, vl, go, rt, ep, wq, wn, cn, op, cl, ca, ce, kc, nb) k ∧ v = some (.int (nI cn))) ∨ ((∀ k, k < 200 → x ≠ nI k) ∧ th' = 1 ∧ s' = (lv, lev, lo, hi, ri, sz, ky, vl, go, rt, ep, wq, wn, cn, op, cl, ca, ce, kc, nb) ∧ v = some (.int (nI 0))) ∨ ((∃ k, k < 200 ∧ x = nI k) ∧ cn = 20 ∧ th' = 2 ∧ s' = (lv, lev, lo, hi, ri, sz, ky, vl, go, rt, ep, wq, wn, cn, op, cl, ca, ce, kc, nb) ∧ v = some (.int (nI 0))))) (fun _ => False) (0) (0) := by
  refine ct_of (by decide) (Nat.le_of_ble_eq_true rfl) ?_
  intro p e s m below meth c ls F hr hlk hnm hex hE hW hl
  have hx := F.1
  have hb := F.2.1
  have hS : va_S A s.heap s.heap [] := va_S.rf
  have hl : lv_has ls 2 [(0, .ref (ad (10, 0))), (1, .int x)] := hl
  have hX : XM ct0 ct0 := XM.rf
  have hI0 := hI
  obtain ⟨hP, hQ, hCu, hkc, hsum, ht, hep, hkt⟩ := hI
  have hb9 : nb ≤ 513 := by omega
  have hwn9 : wn ≤ 513 := by omega
  obtain ⟨hfr1, hfr2, hfr3⟩ := fr_spec hP hb9
  refine lv_aload_n hx hb dX3_open_0 rfl (lv_at hl 0 rfl) ?_
  refine lv_iload_n hx hb dX3_open_1 rfl (lv_at hl 1 rfl) ?_
  refine kc_S 1 (c_X3_isKey l G A ad dm ct0 x) F hE hW hS kw_676 kw_677 kw_6 kw_678 (by decide +kernel) rfl ⟨rfl, rfl⟩ ⟨Nat.le_of_ble_eq_true rfl, Nat.le_of_ble_eq_true rfl⟩ hl.1 rfl (Nat.le_of_ble_eq_true rfl) dX3_open_2 ⟨Nat.le_of_ble_eq_true rfl, Nat.le_of_ble_eq_true rfl⟩ (fun _ _ _ _ _ h => h.elim) (fun v w' H locs hp hW hS => ?_)
  obtain ⟨rfl, ⟨rfl, k, hk, rfl⟩ | ⟨rfl, hno⟩⟩ := hp
  · refine nz_ne (tgt := 12) hx hb dX3_open_5 (by decide) (by decide) (fun c9 => ?_) (fun c9 => ?_)
    · have hcn9 := hCu.1
      refine lv_aload_n hx hb dX3_open_12 rfl (lv_at hl 0 rfl) ?_
      refine kg F hE hW (10, 0) (hM.1 0 (by decide)) rfl hM.2.1 rfl inA_X3 14 (by decide) kw_620 (v := .int (nI cn)) rfl dX3_open_13 ?_
      refine lv_bipush (v := nI 20) hx hb dX3_open_16 (by decide) ?_
      refine nc_ne (tgt := 25) hx hb dX3_open_18 (by decide) (by omega) (by omega) (fun c2 => ?_) (fun c2 => ?_)
      · refine lv_iconst (v := nI 0) hx hb dX3_open_25 (by decide) ?_
        refine kc_V 1 (c_X3_holds l G A ad dm ct0 lv lev lo hi ri sz ky vl go rt ep wq wn cn op cl ca ce kc nb th fo hM 0 (by decide)) F hE hW hS (10, 0) (hM.1 0 (by decide)) hM.2.1 rfl [.int (nI 0)] rfl kw_682 kw_684 kp_16 kw_6 kw_685 (by decide +kernel) rfl ⟨rfl, rfl⟩ ⟨Nat.le_of_ble_eq_true rfl, Nat.le_of_ble_eq_true rfl⟩ hl.1 rfl (Nat.le_of_ble_eq_true rfl) dX3_open_26 ⟨Nat.le_of_ble_eq_true rfl, Nat.le_of_ble_eq_true rfl⟩ (fun _ _ _ _ _ h => h.elim) (fun v w' H locs hp hW hS => ?_)
        obtain ⟨ct2, rfl, hM, hX0, ⟨-, rfl⟩ | ⟨hq9, -⟩⟩ := hp
        · have hX := hX.tr hX0
          refine nz_ne (tgt := 34) hx hb dX3_open_29 (by decide) (by decide) (fun c9 => ?_) (fun c9 => ?_)
          · have hAt := dnF_at hP hk 2000 rt (vp_root (key := k) (lvl := 0) hP (Nat.zero_le _)) (by have := mu_root hP hb9; omega)
            obtain ⟨pz, hpz⟩ : ∃ z, (dnF lev hi ri sz ky vl k 0 2000 rt).1 = z := ⟨_, rfl⟩
            rw [hpz] at hAt
            obtain ⟨u1, u2, u3, u4, u5, u6⟩ := pg_bd hP hb9 hAt.1.1
            refine lv_aload_n hx hb dX3_open_34 rfl (lv_at hl 0 rfl) ?_
            refine kg F hE hW (10, 0) (hM.1 0 (by decide)) rfl hM.2.1 rfl inA_X3 15 (by decide) kw_621 (v := .ref (ad (10, 11))) rfl dX3_open_35 ?_
            refine lv_aload_n hx hb dX3_open_38 rfl (lv_at hl 0 rfl) ?_
            refine kg F hE hW (10, 0) (hM.1 0 (by decide)) rfl hM.2.1 rfl inA_X3 14 (by decide) kw_620 (v := .int (nI cn)) rfl dX3_open_39 ?_
            refine lv_iconst (v := nI 1) hx hb dX3_open_42 (by decide) ?_
            refine ms_op (v := true) F hE hW hS hM cn rfl (by omega) dX3_open_43 (fun ct H locs hW hM hX0 hS => ?_)
            have hX := hX.tr hX0
            refine lv_aload_n hx hb dX3_open_44 rfl (lv_at hl 0 rfl) ?_
            refine kg F hE hW (10, 0) (hM.1 0 (by decide)) rfl hM.2.1 rfl inA_X3 16 (by decide) kw_622 (v := .ref (ad (10, 12))) rfl dX3_open_45 ?_
            refine lv_aload_n hx hb dX3_open_48 rfl (lv_at hl 0 rfl) ?_
            refine kg F hE hW (10, 0) (hM.1 0 (by decide)) rfl hM.2.1 rfl inA_X3 14 (by decide) kw_620 (v := .int (nI cn)) rfl dX3_open_49 ?_
            refine lv_aload_n hx hb dX3_open_52 rfl (lv_at hl 0 rfl) ?_
            refine lv_iload_n hx hb dX3_open_53 rfl (lv_at hl 1 rfl) ?_
            refine lv_iconst (v := nI 0) hx hb dX3_open_54 (by decide) ?_
            refine kc_V 2 (c_X3_down l G A ad dm ct lv lev lo hi ri sz ky vl go rt ep wq wn cn (va_up op cn true) cl ca ce kc nb 0 fo hM 800 k 0 hP hb9 hk (Nat.zero_le _)) F hE hW hS (10, 0) (hM.1 0 (by decide)) hM.2.1 rfl [.int (nI k), .int (nI 0)] rfl kw_686 kw_688 kp_17 kw_6 kw_689 (by decide +kernel) rfl ⟨rfl, rfl⟩ ⟨Nat.le_of_ble_eq_true rfl, Nat.le_of_ble_eq_true rfl⟩ hl.1 rfl (Nat.le_of_ble_eq_true rfl) dX3_open_55 ⟨Nat.le_of_ble_eq_true rfl, Nat.le_of_ble_eq_true rfl⟩ (fun _ _ _ _ _ h => h.elim) (fun v w' H locs hp hW hS => ?_)
            obtain ⟨ct2, rfl, hM, hX0, rfl⟩ := hp
            have hX := hX.tr hX0
            rw [hpz]
            refine ms_cl (v := pz) F hE hW hS hM cn rfl (by omega) dX3_open_58 (fun ct H locs hW hM hX0 hS => ?_)
            have hX := hX.tr hX0
            refine lv_aload_n hx hb dX3_open_59 rfl (lv_at hl 0 rfl) ?_
            refine kg F hE hW (10, 0) (hM.1 0 (by decide)) rfl hM.2.1 rfl inA_X3 17 (by decide) kw_623 (v := .ref (ad (10, 13))) rfl dX3_open_60 ?_
            refine lv_aload_n hx hb dX3_open_63 rfl (lv_at hl 0 rfl) ?_
            refine kg F hE hW (10, 0) (hM.1 0 (by decide)) rfl hM.2.1 rfl inA_X3 14 (by decide) kw_620 (v := .int (nI cn)) rfl dX3_open_64 ?_
            refine lv_iload_n hx hb dX3_open_67 rfl (lv_at hl 1 rfl) ?_
            refine lv_iconst (v := nI 1) hx hb dX3_open_68 (by decide) ?_
            refine lv_isub hx hb dX3_open_69 ?_
            refine ms_ca (v := k) F hE hW hS hM cn rfl (by omega) dX3_open_70 (fun ct H locs hW hM hX0 hS => ?_)
            have hX := hX.tr hX0
            refine lv_aload_n hx hb dX3_open_71 rfl (lv_at hl 0 rfl) ?_
            refine kg F hE hW (10, 0) (hM.1 0 (by decide)) rfl hM.2.1 rfl inA_X3 18 (by decide) kw_624 (v := .ref (ad (10, 14))) rfl dX3_open_72 ?_
            refine lv_aload_n hx hb dX3_open_75 rfl (lv_at hl 0 rfl) ?_
            refine kg F hE hW (10, 0) (hM.1 0 (by decide)) rfl hM.2.1 rfl inA_X3 14 (by decide) kw_620 (v := .int (nI cn)) rfl dX3_open_76 ?_
            refine lv_aload_n hx hb dX3_open_79 rfl (lv_at hl 0 rfl) ?_
            refine kg F hE hW (10, 0) (hM.1 0 (by decide)) rfl hM.2.1 rfl inA_X3 11 (by decide) kw_617 (v := .int (nI ep)) rfl dX3_open_80 ?_
            refine ms_ce (v := ep) F hE hW hS hM cn rfl (by omega) dX3_open_83 (fun ct H locs hW hM hX0 hS => ?_)
            have hX := hX.tr hX0
            refine lv_aload_n hx hb dX3_open_84 rfl (lv_at hl 0 rfl) ?_
            refine lv_dup hx hb dX3_open_85 rfl ?_
            refine kg F hE hW (10, 0) (hM.1 0 (by decide)) rfl hM.2.1 rfl inA_X3 14 (by decide) kw_620 (v := .int (nI cn)) rfl dX3_open_86 ?_
            refine lv_iconst (v := nI 1) hx hb dX3_open_89 (by decide) ?_
            refine lv_iadd hx hb dX3_open_90 ?_
            refine ktop (nI_add _ _) ?_
            refine mp_cn (v := cn + 1) F hE hW hS hM kw_620 dX3_open_91 (fun ct H locs hW hM hX0 hS => ?_)
            have hX := hX.tr hX0
            refine lv_aload_n hx hb dX3_open_94 rfl (lv_at hl 0 rfl) ?_
            refine kg F hE hW (10, 0) (hM.1 0 (by decide)) rfl hM.2.1 rfl inA_X3 14 (by decide) kw_620 (v := .int (nI (cn + 1))) rfl dX3_open_95 ?_
            refine lv_iconst (v := nI 1) hx hb dX3_open_98 (by decide) ?_
            refine lv_isub hx hb dX3_open_99 ?_
            refine ktop (y := nI cn) (lI_s cn) ?_
            exact kr_i F hr hlk hE hW hS (Nat.le_of_ble_eq_true rfl) (Nat.le_of_ble_eq_true rfl) dX3_open_100 (⟨_, _, _, opnS (lv, lev, lo, hi, ri, sz, ky, vl, go, rt, ep, wq, wn, cn, op, cl, ca, ce, kc, nb) k, rfl, (by unfold opnS MD; dsimp only; rw [hpz]; exact hM), hX, Or.inl ⟨k, hk, rfl, by omega, rfl, rfl, rfl⟩⟩)
          · exact absurd c9 (by decide)
        · exact absurd hq9 (by decide)
      · refine lv_iconst (v := nI 2) hx hb dX3_open_21 (by decide) ?_
        refine lv_goto (tgt := 26) hx hb dX3_open_22 (by decide) ?_
        refine kc_V 1 (c_X3_holds l G A ad dm ct0 lv lev lo hi ri sz ky vl go rt ep wq wn cn op cl ca ce kc nb th fo hM 2 (by decide)) F hE hW hS (10, 0) (hM.1 0 (by decide)) hM.2.1 rfl [.int (nI 2)] rfl kw_682 kw_684 kp_16 kw_6 kw_685 (by decide +kernel) rfl ⟨rfl, rfl⟩ ⟨Nat.le_of_ble_eq_true rfl, Nat.le_of_ble_eq_true rfl⟩ hl.1 rfl (Nat.le_of_ble_eq_true rfl) dX3_open_26 ⟨Nat.le_of_ble_eq_true rfl, Nat.le_of_ble_eq_true rfl⟩ (fun _ _ _ _ _ h => h.elim) (fun v w' H locs hp hW hS => ?_)
        obtain ⟨ct2, rfl, hM, hX0, ⟨hq9, -⟩ | ⟨-, rfl⟩⟩ := hp
        · exact absurd hq9 (by decide)
        · have hX := hX.tr hX0
          refine nz_ne (tgt := 34) hx hb dX3_open_29 (by decide) (by decide) (fun c9 => ?_) (fun c9 => ?_)
          · exact absurd c9 (by decide)
          · refine lv_iconst (v := nI 0) hx hb dX3_open_32 (by decide) ?_
            exact kr_i F hr hlk hE hW hS (Nat.le_of_ble_eq_true rfl) (Nat.le_of_ble_eq_true rfl) dX3_open_33 (⟨_, _, _, (lv, lev, lo, hi, ri, sz, ky, vl, go, rt, ep, wq, wn, cn, op, cl, ca, ce, kc, nb), rfl, hM, hX, Or.inr (Or.inr ⟨⟨k, hk, rfl⟩, c2, rfl, rfl, rfl⟩)⟩)
    · exact absurd c9 (by decide)
  · refine nz_ne (tgt := 12) hx hb dX3_open_5 (by decide) (by decide) (fun c9 => ?_) (fun c9 => ?_)
    · exact absurd c9 (by decide)
    · refine lv_iconst (v := nI 1) hx hb dX3_open_8 (by decide) ?_
      refine lv_goto (tgt := 26) hx hb dX3_open_9 (by decide) ?_
      refine kc_V 1 (c_X3_holds l G A ad dm ct0 lv lev lo hi ri sz ky vl go rt ep wq wn cn op cl ca ce kc nb th fo hM 1 (by decide)) F hE hW hS (10, 0) (hM.1 0 (by decide)) hM.2.1 rfl [.int (nI 1)] rfl kw_682 kw_684 kp_16 kw_6 kw_685 (by decide +kernel) rfl ⟨rfl, rfl⟩ ⟨Nat.le_of_ble_eq_true rfl, Nat.le_of_ble_eq_true rfl⟩ hl.1 rfl (Nat.le_of_ble_eq_true rfl) dX3_open_26 ⟨Nat.le_of_ble_eq_true rfl, Nat.le_of_ble_eq_true rfl⟩ (fun _ _ _ _ _ h => h.elim) (fun v w' H locs hp hW hS => ?_)
      obtain ⟨ct2, rfl, hM, hX0, ⟨hq9, -⟩ | ⟨-, rfl⟩⟩ := hp
      · exact absurd hq9 (by decide)
      · have hX := hX.tr hX0
        refine nz_ne (tgt := 34) hx hb dX3_open_29 (by decide) (by decide) (fun c9 => ?_) (fun c9 => ?_)
        · exact absurd c9 (by decide)
        · refine lv_iconst (v := nI 0) hx hb dX3_open_32 (by decide) ?_
          exact kr_i F hr hlk hE hW hS (Nat.le_of_ble_eq_true rfl) (Nat.le_of_ble_eq_true rfl) dX3_open_33 (⟨_, _, _, (lv, lev, lo, hi, ri, sz, ky, vl, go, rt, ep, wq, wn, cn, op, cl, ca, ce, kc, nb), rfl, hM, hX, Or.inr (Or.inl ⟨hno, rfl, rfl, rfl⟩)⟩)
set_option maxRecDepth 100000 in
set_option maxHeartbeats 4000000 in
theorem c_X3_next (l : Launch) (G : GG) (A : Nat → Prop) (ad : Lb → Nat) (dm : Lb → Prop) (ct0 : Lb → va_E) (lv : Nat → Bool) (lev : Nat → Nat) (lo : Nat → Nat) (hi : Nat → Nat) (ri : Nat → Option Nat) (sz : Nat → Nat) (ky : Nat → Nat) (vl : Nat → Nat) (go : Nat → Option Nat) (rt : Nat) (ep : Nat) (wq : Nat → Nat) (wn : Nat) (cn : Nat) (op : Nat → Bool) (cl : Nat → Nat) (ca : Nat → Nat) (ce : Nat → Nat) (kc : Nat) (nb : Nat) (th fo : Nat) (hM : MDF G ad dm ct0 lv lev lo hi ri sz ky vl go rt ep wq wn cn op cl ca ce kc nb th fo) (t0 : Nat) (hI : InvF lv lev lo hi ri sz ky vl go rt ep wq wn cn op cl ca ce kc nb 800 t0) (x : Int32) :
    CT l yX3_next cX3_next 4 (some FieldType.int) { frames := 2, cells := 0, slots := 0, locals := 43 } [.ref (ad (10, 0)), .int x] G A (ad, dm, ct0) (fun v w' => ∃ ct' th' s', w' = (ad, dm, ct') ∧ MD G ad dm ct' s' th' fo ∧ XM ct0 ct' ∧ ((∃ j, j < cn ∧ x = nI j ∧ op j = true ∧ th' = 0 ∧ s' = (nxtS (lv, lev, lo, hi, ri, sz, ky, vl, go, rt, ep, wq, wn, cn, op, cl, ca, ce, kc, nb) j).1 ∧ v = some (.int (oI (nxtS (lv, lev, lo, hi, ri, sz, ky, vl, go, rt, ep, wq, wn, cn, op, cl, ca, ce, kc, nb) j).2))) ∨ ((∀ j, j < cn → op j = true → x ≠ nI j) ∧ th' = 1 ∧ s' = (lv, lev, lo, hi, ri, sz, ky, vl, go, rt, ep, wq, wn, cn, op, cl, ca, ce, kc, nb) ∧ v = some (.int (nI 0))))) (fun _ => False) (0) (0) := by
  refine ct_of (by decide) (Nat.le_of_ble_eq_true rfl) ?_
  intro p e s m below meth c ls F hr hlk hnm hex hE hW hl
  have hx := F.1
  have hb := F.2.1
  have hS : va_S A s.heap s.heap [] := va_S.rf
  have hl : lv_has ls 4 [(0, .ref (ad (10, 0))), (1, .int x)] := hl
  have hX : XM ct0 ct0 := XM.rf
  have hI0 := hI
  obtain ⟨hP, hQ, hCu, hkc, hsum, ht, hep, hkt⟩ := hI
  have hb9 : nb ≤ 513 := by omega
  have hwn9 : wn ≤ 513 := by omega
  obtain ⟨hfr1, hfr2, hfr3⟩ := fr_spec hP hb9
  refine lv_aload_n hx hb dX3_next_0 rfl (lv_at hl 0 rfl) ?_
  refine lv_aload_n hx hb dX3_next_1 rfl (lv_at hl 0 rfl) ?_
  refine lv_iload_n hx hb dX3_next_2 rfl (lv_at hl 1 rfl) ?_
  refine kc_V 1 (c_X3_isCursor l G A ad dm ct0 lv lev lo hi ri sz ky vl go rt ep wq wn cn op cl ca ce kc nb th fo hM hCu.1 x) F hE hW hS (10, 0) (hM.1 0 (by decide)) hM.2.1 rfl [.int x] rfl kw_822 kw_824 kp_29 kw_6 kw_825 (by decide +kernel) rfl ⟨rfl, rfl⟩ ⟨Nat.le_of_ble_eq_true rfl, Nat.le_of_ble_eq_true rfl⟩ hl.1 rfl (Nat.le_of_ble_eq_true rfl) dX3_next_3 ⟨Nat.le_of_ble_eq_true rfl, Nat.le_of_ble_eq_true rfl⟩ (fun _ _ _ _ _ h => h.elim) (fun v w' H locs hp hW hS => ?_)
  obtain ⟨rfl, ⟨rfl, j, hj, rfl, hv⟩ | ⟨rfl, hno⟩⟩ := hp
  · have hcn9 := hCu.1
    obtain ⟨v1, v2, v3⟩ := hCu.2 j hj
    obtain ⟨v4, v5, v6⟩ := v3 hv
    obtain ⟨u1, u2, u3, u4, u5, u6⟩ := pg_bd hP hb9 v4
    refine nz_eq (tgt := 13) hx hb dX3_next_6 (by decide) (by decide) (fun c9 => ?_) (fun c9 => ?_)
    · exact absurd c9 (by decide)
    · refine lv_iconst (v := nI 0) hx hb dX3_next_9 (by decide) ?_
      refine lv_goto (tgt := 14) hx hb dX3_next_10 (by decide) ?_
      refine kc_V 1 (c_X3_holds l G A ad dm ct0 lv lev lo hi ri sz ky vl go rt ep wq wn cn op cl ca ce kc nb th fo hM 0 (by decide)) F hE hW hS (10, 0) (hM.1 0 (by decide)) hM.2.1 rfl [.int (nI 0)] rfl kw_682 kw_684 kp_16 kw_6 kw_685 (by decide +kernel) rfl ⟨rfl, rfl⟩ ⟨Nat.le_of_ble_eq_true rfl, Nat.le_of_ble_eq_true rfl⟩ hl.1 rfl (Nat.le_of_ble_eq_true rfl) dX3_next_14 ⟨Nat.le_of_ble_eq_true rfl, Nat.le_of_ble_eq_true rfl⟩ (fun _ _ _ _ _ h => h.elim) (fun v w' H locs hp hW hS => ?_)
      obtain ⟨ct2, rfl, hM, hX0, ⟨-, rfl⟩ | ⟨hq9, -⟩⟩ := hp
      · have hX := hX.tr hX0
        refine nz_ne (tgt := 22) hx hb dX3_next_17 (by decide) (by decide) (fun c9 => ?_) (fun c9 => ?_)
        · refine lv_aload_n hx hb dX3_next_22 rfl (lv_at hl 0 rfl) ?_
          refine kg F hE hW (10, 0) (hM.1 0 (by decide)) rfl hM.2.1 rfl inA_X3 16 (by decide) kw_622 (v := .ref (ad (10, 12))) rfl dX3_next_23 ?_
          refine lv_iload_n hx hb dX3_next_26 rfl (lv_at hl 1 rfl) ?_
          refine kl_i F hE hW (10, 12) (hM.1 12 (by decide)) rfl hM.2.2.2.2.2.2.2.2.2.2.2.2.2.1 j rfl (by omega) (by decide) dX3_next_27 ?_
          refine lv_istore_n (lv' := [(2, .int (nI (cl j))), (0, .ref (ad (10, 0))), (1, .int (nI j))]) hx hb dX3_next_28 rfl hl (by decide) rfl (fun ls hl => ?_)
          refine lv_aload_n hx hb dX3_next_29 rfl (lv_at hl 1 rfl) ?_
          refine lv_iload_n hx hb dX3_next_30 rfl (lv_at hl 0 rfl) ?_
          refine lv_aload_n hx hb dX3_next_31 rfl (lv_at hl 1 rfl) ?_
          refine kg F hE hW (10, 0) (hM.1 0 (by decide)) rfl hM.2.1 rfl inA_X3 17 (by decide) kw_623 (v := .ref (ad (10, 13))) rfl dX3_next_32 ?_
          refine lv_iload_n hx hb dX3_next_35 rfl (lv_at hl 2 rfl) ?_
          refine kl_i F hE hW (10, 13) (hM.1 13 (by decide)) rfl hM.2.2.2.2.2.2.2.2.2.2.2.2.2.2.1 j rfl (by omega) (by decide) dX3_next_36 ?_
          refine kc_V 2 (c_X3_place l G A ad dm ct2 lv lev lo hi ri sz ky vl go rt ep wq wn cn op cl ca ce kc nb 0 fo hM (cl j) (ca j) (lI (ca j)) (by omega) u5 rfl (by omega) (fun i hi9 => by have := (u6 i hi9).1; omega)) F hE hW hS (10, 0) (hM.1 0 (by decide)) hM.2.1 rfl [.int (nI (cl j)), .int (lI (ca j))] rfl kw_690 kw_692 kp_18 kw_6 kw_693 (by decide +kernel) rfl ⟨rfl, rfl⟩ ⟨Nat.le_of_ble_eq_true rfl, Nat.le_of_ble_eq_true rfl⟩ hl.1 rfl (Nat.le_of_ble_eq_true rfl) dX3_next_37 ⟨Nat.le_of_ble_eq_true rfl, Nat.le_of_ble_eq_true rfl⟩ (fun _ _ _ _ _ h => h.elim) (fun v w' H locs hp hW hS => ?_)
          obtain ⟨rfl, rfl⟩ := hp
          refine lv_iconst (v := nI 1) hx hb dX3_next_40 (by decide) ?_
          refine lv_iadd hx hb dX3_next_41 ?_
          refine ktop (lI_1 _) ?_
          refine lv_istore_n (lv' := [(3, .int (nI (cnt (sz (cl j)) (pk ky (cl j)) (ca j)))), (2, .int (nI (cl j))), (0, .ref (ad (10, 0))), (1, .int (nI j))]) hx hb dX3_next_42 rfl hl (by decide) rfl (fun ls hl => ?_)
          clear u1 u2 u3 u4 u5 u6
          suffices key : ∀ (d : Nat) (pz : Nat) (H : Heap) (locs : List Loc) (ls : Array Slot), lv pz = true → 200 - lo pz < d → wkF ri sz ky (ca j) 800 pz = wkF ri sz ky (ca j) 800 (cl j) → wd G A (ad, dm, ct2) H → va_S A s.heap H locs → lv_has ls 4 [(2, .int (nI pz)), (3, .int (nI (cnt (sz pz) (pk ky pz) (ca j)))), (0, .ref (ad (10, 0))), (1, .int (nI j))] → W _ l e _ s m _ below meth c H locs 0 0 _ (F0 m 43 ls []) from
            key 201 (cl j) _ _ ls v4 (by omega) rfl hW hS (lv_sub hl [1, 0, 2, 3] rfl)
          clear hW hS hl
          intro d
          induction d with
          | zero =>
            intro pz H locs ls hp1 hp2 hp3 hW hS hl
            exact absurd hp2 (Nat.not_lt_zero _)
          | succ d ih =>
            intro pz H locs ls hp1 hp2 hp3 hW hS hl
            obtain ⟨u1, u2, u3, u4, u5, u6⟩ := pg_bd hP hb9 hp1
            have hcl := cnt_le (sz pz) (pk ky pz) (ca j)
            have hst := wk_step (b := ca j) hP hp1
            refine lv_iload_n hx hb dX3_next_43 rfl (lv_at hl 1 rfl) ?_
            refine lv_aload_n hx hb dX3_next_44 rfl (lv_at hl 2 rfl) ?_
            refine kg F hE hW (10, 0) (hM.1 0 (by decide)) rfl hM.2.1 rfl inA_X3 6 (by decide) kw_612 (v := .ref (ad (10, 6))) rfl dX3_next_45 ?_
            refine lv_iload_n hx hb dX3_next_48 rfl (lv_at hl 0 rfl) ?_
            refine kl_i F hE hW (10, 6) (hM.1 6 (by decide)) rfl hM.2.2.2.2.2.2.2.1 pz rfl (by omega) (by decide) dX3_next_49 ?_
            refine nc_lt (tgt := 87) hx hb dX3_next_50 (by decide) (by omega) (by omega) (fun c1 => ?_) (fun c1 => ?_)
            · rw [if_neg (by omega)] at hst
              have hfin : wkF ri sz ky (ca j) 800 (cl j) = pz := hp3.symm.trans hst
              refine lv_aload_n hx hb dX3_next_87 rfl (lv_at hl 2 rfl) ?_
              refine kg F hE hW (10, 0) (hM.1 0 (by decide)) rfl hM.2.1 rfl inA_X3 16 (by decide) kw_622 (v := .ref (ad (10, 12))) rfl dX3_next_88 ?_
              refine lv_iload_n hx hb dX3_next_91 rfl (lv_at hl 3 rfl) ?_
              refine lv_iload_n hx hb dX3_next_92 rfl (lv_at hl 0 rfl) ?_
              refine ms_cl (v := pz) F hE hW hS hM j rfl (by omega) dX3_next_93 (fun ct H locs hW hM hX0 hS => ?_)
              have hX := hX.tr hX0
              refine lv_aload_n hx hb dX3_next_94 rfl (lv_at hl 2 rfl) ?_
              refine kg F hE hW (10, 0) (hM.1 0 (by decide)) rfl hM.2.1 rfl inA_X3 17 (by decide) kw_623 (v := .ref (ad (10, 13))) rfl dX3_next_95 ?_
              refine lv_iload_n hx hb dX3_next_98 rfl (lv_at hl 3 rfl) ?_
              refine lv_iload_n hx hb dX3_next_99 rfl (lv_at hl 1 rfl) ?_
              refine lv_aload_n hx hb dX3_next_100 rfl (lv_at hl 2 rfl) ?_
              refine kg F hE hW (10, 0) (hM.1 0 (by decide)) rfl hM.2.1 rfl inA_X3 6 (by decide) kw_612 (v := .ref (ad (10, 6))) rfl dX3_next_101 ?_
              refine lv_iload_n hx hb dX3_next_104 rfl (lv_at hl 0 rfl) ?_
              refine kl_i F hE hW (10, 6) (hM.1 6 (by decide)) rfl hM.2.2.2.2.2.2.2.1 pz rfl (by omega) (by decide) dX3_next_105 ?_
              refine nc_ge (tgt := 122) hx hb dX3_next_106 (by decide) (by omega) (by omega) (fun c7 => ?_) (fun c7 => ?_)
              · exact absurd c7 (by omega)
              · refine lv_aload_n hx hb dX3_next_109 rfl (lv_at hl 2 rfl) ?_
                refine kg F hE hW (10, 0) (hM.1 0 (by decide)) rfl hM.2.1 rfl inA_X3 7 (by decide) kw_613 (v := .ref (ad (10, 7))) rfl dX3_next_110 ?_
                refine lv_iconst (v := nI 5) hx hb dX3_next_113 (by decide) ?_
                refine lv_iload_n hx hb dX3_next_114 rfl (lv_at hl 0 rfl) ?_
                refine lv_imul hx hb dX3_next_115 ?_
                refine ktop (pk_mul _ _) ?_
                refine lv_iload_n hx hb dX3_next_116 rfl (lv_at hl 1 rfl) ?_
                refine lv_iadd hx hb dX3_next_117 ?_
                refine ktop (nI_add _ _) ?_
                refine kl_i F hE hW (10, 7) (hM.1 7 (by decide)) rfl hM.2.2.2.2.2.2.2.2.1 ((5 * pz) + (cnt (sz pz) (pk ky pz) (ca j))) rfl (by omega) (by decide) dX3_next_118 ?_
                refine ktop (y := lI (ky (5 * pz + cnt (sz pz) (pk ky pz) (ca j)) + 1)) (lI_s _).symm ?_
                refine lv_goto (tgt := 128) hx hb dX3_next_119 (by decide) ?_
                refine ms_ca (v := ky (5 * pz + cnt (sz pz) (pk ky pz) (ca j)) + 1) F hE hW hS hM j rfl (by omega) dX3_next_128 (fun ct H locs hW hM hX0 hS => ?_)
                have hX := hX.tr hX0
                refine lv_iload_n hx hb dX3_next_129 rfl (lv_at hl 1 rfl) ?_
                refine lv_aload_n hx hb dX3_next_130 rfl (lv_at hl 2 rfl) ?_
                refine kg F hE hW (10, 0) (hM.1 0 (by decide)) rfl hM.2.1 rfl inA_X3 6 (by decide) kw_612 (v := .ref (ad (10, 6))) rfl dX3_next_131 ?_
                refine lv_iload_n hx hb dX3_next_134 rfl (lv_at hl 0 rfl) ?_
                refine kl_i F hE hW (10, 6) (hM.1 6 (by decide)) rfl hM.2.2.2.2.2.2.2.1 pz rfl (by omega) (by decide) dX3_next_135 ?_
                refine nc_ge (tgt := 148) hx hb dX3_next_136 (by decide) (by omega) (by omega) (fun c8 => ?_) (fun c8 => ?_)
                · exact absurd c8 (by omega)
                · refine lv_aload_n hx hb dX3_next_139 rfl (lv_at hl 2 rfl) ?_
                  refine kg F hE hW (10, 0) (hM.1 0 (by decide)) rfl hM.2.1 rfl inA_X3 17 (by decide) kw_623 (v := .ref (ad (10, 13))) rfl dX3_next_140 ?_
                  refine lv_iload_n hx hb dX3_next_143 rfl (lv_at hl 3 rfl) ?_
                  refine kl_i F hE hW (10, 13) (hM.1 13 (by decide)) rfl hM.2.2.2.2.2.2.2.2.2.2.2.2.2.2.1 j rfl (by omega) (by decide) dX3_next_144 ?_
                  refine ktop (y := nI (ky (5 * pz + cnt (sz pz) (pk ky pz) (ca j)))) (by rw [va_up_self, lI_s]) ?_
                  refine lv_goto (tgt := 149) hx hb dX3_next_145 (by decide) ?_
                  have hE2 : nxtS (lv, lev, lo, hi, ri, sz, ky, vl, go, rt, ep, wq, wn, cn, op, cl, ca, ce, kc, nb) j = ((lv, lev, lo, hi, ri, sz, ky, vl, go, rt, ep, wq, wn, cn, op, va_up cl j pz, va_up ca j (ky (5 * pz + cnt (sz pz) (pk ky pz) (ca j)) + 1), ce, kc, nb), some (ky (5 * pz + cnt (sz pz) (pk ky pz) (ca j)))) := by
                    unfold nxtS nxeS
                    dsimp only
                    rw [hfin, if_pos (by omega)]
                  exact kr_i F hr hlk hE hW hS (Nat.le_of_ble_eq_true rfl) (Nat.le_of_ble_eq_true rfl) dX3_next_149 (⟨_, _, (nxtS (lv, lev, lo, hi, ri, sz, ky, vl, go, rt, ep, wq, wn, cn, op, cl, ca, ce, kc, nb) j).1, rfl, by rw [hE2]; exact hM, hX, Or.inl ⟨j, hj, rfl, hv, rfl, rfl, by rw [hE2]; rfl⟩⟩)
            · rw [if_pos (by omega)] at hst
              refine lv_aload_n hx hb dX3_next_53 rfl (lv_at hl 2 rfl) ?_
              refine kg F hE hW (10, 0) (hM.1 0 (by decide)) rfl hM.2.1 rfl inA_X3 5 (by decide) kw_611 (v := .ref (ad (10, 5))) rfl dX3_next_54 ?_
              refine lv_iload_n hx hb dX3_next_57 rfl (lv_at hl 0 rfl) ?_
              refine kl_i F hE hW (10, 5) (hM.1 5 (by decide)) rfl hM.2.2.2.2.2.2.1 pz rfl (by omega) (by decide) dX3_next_58 ?_
              refine lv_iconst (v := (-1)) hx hb dX3_next_59 (by decide) ?_
              cases hrz : ri pz with
              | none =>
                rw [hrz] at hst
                dsimp only at hst
                have hfin : wkF ri sz ky (ca j) 800 (cl j) = pz := hp3.symm.trans hst
                refine lv_icmp_eq (tgt := 87) hx hb dX3_next_60 (by decide) (fun c2 => ?_) (fun c2 => ?_)
                · refine lv_aload_n hx hb dX3_next_87 rfl (lv_at hl 2 rfl) ?_
                  refine kg F hE hW (10, 0) (hM.1 0 (by decide)) rfl hM.2.1 rfl inA_X3 16 (by decide) kw_622 (v := .ref (ad (10, 12))) rfl dX3_next_88 ?_
                  refine lv_iload_n hx hb dX3_next_91 rfl (lv_at hl 3 rfl) ?_
                  refine lv_iload_n hx hb dX3_next_92 rfl (lv_at hl 0 rfl) ?_
                  refine ms_cl (v := pz) F hE hW hS hM j rfl (by omega) dX3_next_93 (fun ct H locs hW hM hX0 hS => ?_)
                  have hX := hX.tr hX0
                  refine lv_aload_n hx hb dX3_next_94 rfl (lv_at hl 2 rfl) ?_
                  refine kg F hE hW (10, 0) (hM.1 0 (by decide)) rfl hM.2.1 rfl inA_X3 17 (by decide) kw_623 (v := .ref (ad (10, 13))) rfl dX3_next_95 ?_
                  refine lv_iload_n hx hb dX3_next_98 rfl (lv_at hl 3 rfl) ?_
                  refine lv_iload_n hx hb dX3_next_99 rfl (lv_at hl 1 rfl) ?_
                  refine lv_aload_n hx hb dX3_next_100 rfl (lv_at hl 2 rfl) ?_
                  refine kg F hE hW (10, 0) (hM.1 0 (by decide)) rfl hM.2.1 rfl inA_X3 6 (by decide) kw_612 (v := .ref (ad (10, 6))) rfl dX3_next_101 ?_
                  refine lv_iload_n hx hb dX3_next_104 rfl (lv_at hl 0 rfl) ?_
                  refine kl_i F hE hW (10, 6) (hM.1 6 (by decide)) rfl hM.2.2.2.2.2.2.2.1 pz rfl (by omega) (by decide) dX3_next_105 ?_
                  refine nc_ge (tgt := 122) hx hb dX3_next_106 (by decide) (by omega) (by omega) (fun c7 => ?_) (fun c7 => ?_)
                  · refine lv_aload_n hx hb dX3_next_122 rfl (lv_at hl 2 rfl) ?_
                    refine kg F hE hW (10, 0) (hM.1 0 (by decide)) rfl hM.2.1 rfl inA_X3 17 (by decide) kw_623 (v := .ref (ad (10, 13))) rfl dX3_next_123 ?_
                    refine lv_iload_n hx hb dX3_next_126 rfl (lv_at hl 3 rfl) ?_
                    refine kl_i F hE hW (10, 13) (hM.1 13 (by decide)) rfl hM.2.2.2.2.2.2.2.2.2.2.2.2.2.2.1 j rfl (by omega) (by decide) dX3_next_127 ?_
                    refine ms_ca (v := ca j) F hE hW hS hM j rfl (by omega) dX3_next_128 (fun ct H locs hW hM hX0 hS => ?_)
                    have hX := hX.tr hX0
                    have hca : va_up ca j (ca j) = ca := by
                      funext n
                      by_cases e : n = j
                      · subst e; exact va_up_self _ _ _
                      · exact va_up_ne _ _ e
                    rw [hca] at hM
                    refine lv_iload_n hx hb dX3_next_129 rfl (lv_at hl 1 rfl) ?_
                    refine lv_aload_n hx hb dX3_next_130 rfl (lv_at hl 2 rfl) ?_
                    refine kg F hE hW (10, 0) (hM.1 0 (by decide)) rfl hM.2.1 rfl inA_X3 6 (by decide) kw_612 (v := .ref (ad (10, 6))) rfl dX3_next_131 ?_
                    refine lv_iload_n hx hb dX3_next_134 rfl (lv_at hl 0 rfl) ?_
                    refine kl_i F hE hW (10, 6) (hM.1 6 (by decide)) rfl hM.2.2.2.2.2.2.2.1 pz rfl (by omega) (by decide) dX3_next_135 ?_
                    refine nc_ge (tgt := 148) hx hb dX3_next_136 (by decide) (by omega) (by omega) (fun c8 => ?_) (fun c8 => ?_)
                    · refine lv_iconst (v := (-1)) hx hb dX3_next_148 (by decide) ?_
                      have hE2 : nxtS (lv, lev, lo, hi, ri, sz, ky, vl, go, rt, ep, wq, wn, cn, op, cl, ca, ce, kc, nb) j = ((lv, lev, lo, hi, ri, sz, ky, vl, go, rt, ep, wq, wn, cn, op, va_up cl j pz, ca, ce, kc, nb), none) := by
                        unfold nxtS nxeS
                        dsimp only
                        rw [hfin, if_neg (by omega)]
                      exact kr_i F hr hlk hE hW hS (Nat.le_of_ble_eq_true rfl) (Nat.le_of_ble_eq_true rfl) dX3_next_149 (⟨_, _, (nxtS (lv, lev, lo, hi, ri, sz, ky, vl, go, rt, ep, wq, wn, cn, op, cl, ca, ce, kc, nb) j).1, rfl, by rw [hE2]; exact hM, hX, Or.inl ⟨j, hj, rfl, hv, rfl, rfl, by rw [hE2]; rfl⟩⟩)
                    · exact absurd c8 (by omega)
                  · exact absurd c7 (by omega)
                · exact absurd rfl c2
              | some rz =>
                rw [hrz] at hst
                dsimp only at hst
                obtain ⟨b1, b2, b3, b4, b5⟩ := hP.2.2.2.1 pz rz hp1 hrz
                have b6 := pg_bd hP hb9 b1
                refine lv_icmp_eq (tgt := 87) hx hb dX3_next_60 (by decide) (fun c2 => ?_) (fun c2 => ?_)
                · exact absurd c2 (nI_neg (show rz < 2 ^ 31 by omega))
                · refine lv_aload_n hx hb dX3_next_63 rfl (lv_at hl 2 rfl) ?_
                  refine kg F hE hW (10, 0) (hM.1 0 (by decide)) rfl hM.2.1 rfl inA_X3 5 (by decide) kw_611 (v := .ref (ad (10, 5))) rfl dX3_next_64 ?_
                  refine lv_iload_n hx hb dX3_next_67 rfl (lv_at hl 0 rfl) ?_
                  refine kl_i F hE hW (10, 5) (hM.1 5 (by decide)) rfl hM.2.2.2.2.2.2.1 pz rfl (by omega) (by decide) dX3_next_68 ?_
                  refine ktop (y := nI rz) (by rw [hrz]; rfl) ?_
                  refine lv_istore_n (lv' := [(2, .int (nI rz)), (3, .int (nI (cnt (sz pz) (pk ky pz) (ca j)))), (0, .ref (ad (10, 0))), (1, .int (nI j))]) hx hb dX3_next_69 rfl hl (by decide) rfl (fun ls hl => ?_)
                  refine lv_aload_n hx hb dX3_next_70 rfl (lv_at hl 2 rfl) ?_
                  refine lv_iload_n hx hb dX3_next_71 rfl (lv_at hl 0 rfl) ?_
                  refine lv_aload_n hx hb dX3_next_72 rfl (lv_at hl 2 rfl) ?_
                  refine kg F hE hW (10, 0) (hM.1 0 (by decide)) rfl hM.2.1 rfl inA_X3 17 (by decide) kw_623 (v := .ref (ad (10, 13))) rfl dX3_next_73 ?_
                  refine lv_iload_n hx hb dX3_next_76 rfl (lv_at hl 3 rfl) ?_
                  refine kl_i F hE hW (10, 13) (hM.1 13 (by decide)) rfl hM.2.2.2.2.2.2.2.2.2.2.2.2.2.2.1 j rfl (by omega) (by decide) dX3_next_77 ?_
                  clear u5 u6
                  obtain ⟨-, -, -, -, u5, u6⟩ := b6
                  have b7 := (pg_bd hP hb9 b1).1
                  refine kc_V 2 (c_X3_place l G A ad dm ct2 lv lev lo hi ri sz ky vl go rt ep wq wn cn op cl ca ce kc nb 0 fo hM rz (ca j) (lI (ca j)) (by omega) u5 rfl (by omega) (fun i hi9 => by have := (u6 i hi9).1; omega)) F hE hW hS (10, 0) (hM.1 0 (by decide)) hM.2.1 rfl [.int (nI rz), .int (lI (ca j))] rfl kw_690 kw_692 kp_18 kw_6 kw_693 (by decide +kernel) rfl ⟨rfl, rfl⟩ ⟨Nat.le_of_ble_eq_true rfl, Nat.le_of_ble_eq_true rfl⟩ hl.1 rfl (Nat.le_of_ble_eq_true rfl) dX3_next_78 ⟨Nat.le_of_ble_eq_true rfl, Nat.le_of_ble_eq_true rfl⟩ (fun _ _ _ _ _ h => h.elim) (fun v w' H locs hp hW hS => ?_)
                  obtain ⟨rfl, rfl⟩ := hp
                  refine lv_iconst (v := nI 1) hx hb dX3_next_81 (by decide) ?_
                  refine lv_iadd hx hb dX3_next_82 ?_
                  refine ktop (lI_1 _) ?_
                  refine lv_istore_n (lv' := [(3, .int (nI (cnt (sz rz) (pk ky rz) (ca j)))), (2, .int (nI rz)), (0, .ref (ad (10, 0))), (1, .int (nI j))]) hx hb dX3_next_83 rfl hl (by decide) rfl (fun ls hl => ?_)
                  refine lv_goto (tgt := 43) hx hb dX3_next_84 (by decide) ?_
                  exact ih rz _ _ _ b1 (by have := (pg_bd hP hb9 b1).2.2; omega) (hst.symm.trans hp3) hW hS (lv_sub hl [1, 0, 2, 3] rfl)
        · exact absurd c9 (by decide)
      · exact absurd hq9 (by decide)
  · refine nz_eq (tgt := 13) hx hb dX3_next_6 (by decide) (by decide) (fun c9 => ?_) (fun c9 => ?_)
    · refine lv_iconst (v := nI 1) hx hb dX3_next_13 (by decide) ?_
      refine kc_V 1 (c_X3_holds l G A ad dm ct0 lv lev lo hi ri sz ky vl go rt ep wq wn cn op cl ca ce kc nb th fo hM 1 (by decide)) F hE hW hS (10, 0) (hM.1 0 (by decide)) hM.2.1 rfl [.int (nI 1)] rfl kw_682 kw_684 kp_16 kw_6 kw_685 (by decide +kernel) rfl ⟨rfl, rfl⟩ ⟨Nat.le_of_ble_eq_true rfl, Nat.le_of_ble_eq_true rfl⟩ hl.1 rfl (Nat.le_of_ble_eq_true rfl) dX3_next_14 ⟨Nat.le_of_ble_eq_true rfl, Nat.le_of_ble_eq_true rfl⟩ (fun _ _ _ _ _ h => h.elim) (fun v w' H locs hp hW hS => ?_)
      obtain ⟨ct2, rfl, hM, hX0, ⟨hq9, -⟩ | ⟨-, rfl⟩⟩ := hp
      · exact absurd hq9 (by decide)
      · have hX := hX.tr hX0
        refine nz_ne (tgt := 22) hx hb dX3_next_17 (by decide) (by decide) (fun c9 => ?_) (fun c9 => ?_)
        · exact absurd c9 (by decide)
        · refine lv_iconst (v := nI 0) hx hb dX3_next_20 (by decide) ?_
          exact kr_i F hr hlk hE hW hS (Nat.le_of_ble_eq_true rfl) (Nat.le_of_ble_eq_true rfl) dX3_next_21 (⟨_, _, (lv, lev, lo, hi, ri, sz, ky, vl, go, rt, ep, wq, wn, cn, op, cl, ca, ce, kc, nb), rfl, hM, hX, Or.inr ⟨hno, rfl, rfl, rfl⟩⟩)
    · exact absurd c9 (by decide)
