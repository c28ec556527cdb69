/-! The class: cursors. -/
section CUR
variable {G : GG} {ad : Lb → Nat} {dm : Lb → Prop} {ct ct1 : Lb → va_E} {lv : Nat → Bool} {lev lo hi : Nat → Nat} {ri : Nat → Option Nat} {sz ky vl : Nat → Nat} {go : Nat → Option Nat} {rt ep : Nat} {wq : Nat → Nat} {wn cn : Nat} {op : Nat → Bool} {cl ca ce : Nat → Nat} {kc nb : Nat}
/-- cursor c changed -/
theorem HKF.cur {op2 : Nat → Bool} {cl2 ca2 : Nat → Nat} {c r : Nat} (hH : HKF G ad dm ct lv lev lo hi ri sz ky vl go rt ep wq wn cn op cl ca ce kc nb) (h0 : ct1 (5, c) = .inr (1, [.int (nI (ce c)), .ref r, .int (lI (ca2 c)), .int (bI (!op2 c))])) (hr : op2 c = true → r = ad (1, cl2 c))
    (hag : ∀ i, i ≠ c → op2 i = op i ∧ cl2 i = cl i ∧ ca2 i = ca i) (hf : ∀ z, z ≠ (5, c) → ct1 z = ct z) : HKF G ad dm ct1 lv lev lo hi ri sz ky vl go rt ep wq wn cn op2 cl2 ca2 ce kc nb := by
  obtain ⟨h1, h2, h3, h4, ⟨mc, cap, f, h5, h5'⟩, ⟨h6, h6'⟩, h7, h8, h9⟩ := hH
  refine ⟨h1, (hf _ (lb_ne (by decide))).trans h2, (hf _ (lb_ne (by decide))).trans h3, (hf _ (lb_ne (by decide))).trans h4, ⟨mc, cap, f, h5.kp (fun z hz => ⟨rfl, hf z (by rintro rfl; simp at hz), Iff.rfl⟩), h5'⟩, ⟨fun i hi9 => ?_, h6'⟩, fun n hn => ?_, h8, h9⟩
  · obtain ⟨a, r2, b, d⟩ := h6 i hi9
    by_cases e : i = c
    · subst e; exact ⟨a, r, h0, hr⟩
    · obtain ⟨g1, g2, g3⟩ := hag i e
      rw [g1, g2, g3]
      exact ⟨a, r2, (hf _ (fun z => e (congrArg Prod.snd z))).trans b, d⟩
  · obtain ⟨kf, vf, cf, ta, a, b, d⟩ := h7 n hn
    exact ⟨kf, vf, cf, ta, a.keep hf (Or.inr (show 4 < 5 by decide)), b, d⟩
end CUR
set_option maxRecDepth 100000 in
set_option maxHeartbeats 4000000 in
theorem c_X2_allOpenedAfter (l : Launch) (G : GG) (A : Nat → Prop) (ad : Lb → Nat) (dm : Lb → Prop) (ct : Lb → va_E) (lv : Nat → Bool) (lev : Nat → Nat) (lo : Nat → Nat) (hi : Nat → Nat) (ri : Nat → Option Nat) (sz : Nat → Nat) (ky : Nat → Nat) (vl : Nat → Nat) (go : Nat → Option Nat) (rt : Nat) (ep : Nat) (wq : Nat → Nat) (wn : Nat) (cn : Nat) (op : Nat → Bool) (cl : Nat → Nat) (ca : Nat → Nat) (ce : Nat → Nat) (kc : Nat) (nb : Nat) (hH : HKF G ad dm ct lv lev lo hi ri sz ky vl go rt ep wq wn cn op cl ca ce kc nb) (hcn : cn ≤ 20) (hce : ∀ c, c < cn → ce c < 2 ^ 31) (e9 : Nat) (he9 : e9 < 2 ^ 31) :
    CT l yX2_allOpenedAfter cX2_allOpenedAfter 6 (some FieldType.boolean) { frames := 0, cells := 0, slots := 0, locals := 0 } [.ref (ad (0, 0)), .int (nI e9)] G A (ad, dm, ct) (fun v w' => (ad, dm, ct) = w' ∧ v = some (.int (bI (allB cn (fun c => !(op c && decide (ce c ≤ e9))))))) (fun _ => False) (0) (0) := by
  refine ct_of (by decide) (Nat.le_of_ble_eq_true rfl) ?_
  intro p e s m below meth c ls F hr hlk hnm hex hE hW hl
  have hx := F.1
  have hb := F.2.1
  have hS : va_S A s.heap s.heap [] := va_S.rf
  have hl : lv_has ls 6 [(0, .ref (ad (0, 0))), (1, .int (nI e9))] := hl
  generalize hBB : allB cn (fun c => !(op c && decide (ce c ≤ e9))) = BB
  refine lv_aload_n hx hb dX2_allOpenedAfter_0 rfl (lv_at hl 0 rfl) ?_
  refine kg F hE hW (0, 0) hH.1.1 rfl hH.2.1 rfl inA_X2 2 (by decide) kw_107 (v := .ref (ad (0, 4))) rfl dX2_allOpenedAfter_1 ?_
  refine lv_astore_n (lv' := [(2, .ref (ad (0, 4))), (0, .ref (ad (0, 0))), (1, .int (nI e9))]) hx hb dX2_allOpenedAfter_4 rfl hl (by decide) rfl (fun ls hl => ?_)
  refine lv_aload_n hx hb dX2_allOpenedAfter_5 rfl (lv_at hl 0 rfl) ?_
  refine kal 3 F hE hW (0, 4) hH.1.2.2 rfl rfl hH.2.2.2.1 dX2_allOpenedAfter_6 ?_
  refine lv_istore_n (lv' := [(3, .int (nI 20)), (2, .ref (ad (0, 4))), (0, .ref (ad (0, 0))), (1, .int (nI e9))]) hx hb dX2_allOpenedAfter_7 rfl hl (by decide) rfl (fun ls hl => ?_)
  refine lv_iconst (v := nI 0) hx hb dX2_allOpenedAfter_8 (by decide) ?_
  refine lv_istore (lv' := [(4, .int (nI 0)), (3, .int (nI 20)), (2, .ref (ad (0, 4))), (0, .ref (ad (0, 0))), (1, .int (nI e9))]) hx hb dX2_allOpenedAfter_9 hl (by decide) rfl (fun ls hl => ?_)
  suffices key9 : ∀ (d : Nat) (i : Nat) (H : Heap) (locs : List Loc) (ls : Array Slot), i + d = 20 → (∀ k8, k8 < i → k8 < cn → (fun c => !(op c && decide (ce c ≤ e9))) k8 = true) → wd G A (ad, dm, ct) H → va_S A s.heap H locs → lv_has ls 6 [(4, .int (nI i)), (3, .int (nI 20)), (2, .ref (ad (0, 4))), (0, .ref (ad (0, 0))), (1, .int (nI e9))] → W _ l e _ s m _ below meth c H locs 0 0 _ (F0 m 11 ls []) from
    key9 20 0 _ _ ls (by decide) (fun k8 h => by omega) hW hS hl
  clear hW hS hl
  intro d
  induction d with
  | zero =>
    intro i H locs ls hi9 hall hW hS hl
    refine lv_iload hx hb dX2_allOpenedAfter_11 (lv_at hl 0 rfl) ?_
    refine lv_iload_n hx hb dX2_allOpenedAfter_13 rfl (lv_at hl 1 rfl) ?_
    refine nc_ge (tgt := 53) hx hb dX2_allOpenedAfter_14 (by decide) (by omega) (by omega) (fun c1 => ?_) (fun c1 => ?_)
    · refine lv_iconst (v := nI 1) hx hb dX2_allOpenedAfter_53 (by decide) ?_
      exact kr_z F hr hlk hE hW hS (Nat.le_of_ble_eq_true rfl) (Nat.le_of_ble_eq_true rfl) rfl dX2_allOpenedAfter_54 (⟨rfl, by rw [← hBB, allB_iff.mpr (fun c hc => hall c (by omega) hc)]; rfl⟩)
    · exact absurd c1 (by omega)
  | succ d ih =>
    intro i H locs ls hi9 hall hW hS hl
    refine lv_iload hx hb dX2_allOpenedAfter_11 (lv_at hl 0 rfl) ?_
    refine lv_iload_n hx hb dX2_allOpenedAfter_13 rfl (lv_at hl 1 rfl) ?_
    refine nc_ge (tgt := 53) hx hb dX2_allOpenedAfter_14 (by decide) (by omega) (by omega) (fun c1 => ?_) (fun c1 => ?_)
    · exact absurd c1 (by omega)
    · refine lv_aload_n hx hb dX2_allOpenedAfter_17 rfl (lv_at hl 2 rfl) ?_
      refine lv_iload hx hb dX2_allOpenedAfter_18 (lv_at hl 0 rfl) ?_
      rcases Nat.lt_or_ge i cn with hlt | hge
      · refine kl_a 3 F hE hW (0, 4) hH.1.2.2 rfl rfl hH.2.2.2.1 i rfl (by omega) (by decide) (v := .ref (ad (5, i))) (by rw [cfA_t hlt]; rfl) dX2_allOpenedAfter_20 ?_
        obtain ⟨hdc, rc, hoc, hlc⟩ := hH.2.2.2.2.2.1.1 i hlt
        refine lv_astore (lv' := [(5, .ref (ad (5, i))), (4, .int (nI i)), (3, .int (nI 20)), (2, .ref (ad (0, 4))), (0, .ref (ad (0, 0))), (1, .int (nI e9))]) hx hb dX2_allOpenedAfter_21 hl (by decide) rfl (fun ls hl => ?_)
        refine lv_aload hx hb dX2_allOpenedAfter_23 (lv_at hl 0 rfl) ?_
        refine lv_ifnull hx hb dX2_allOpenedAfter_25 ?_
        refine lv_aload hx hb dX2_allOpenedAfter_28 (lv_at hl 0 rfl) ?_
        cases ho9 : op i with
        | false =>
          refine kg F hE hW (5, i) hdc rfl hoc rfl inA_X0 3 (by decide) kw_422 (v := .int (nI 1)) (by show some (Value.int (bI (!op i))) = _; rw [ho9]; rfl) dX2_allOpenedAfter_30 ?_
          refine nz_ne (tgt := 47) hx hb dX2_allOpenedAfter_33 (by decide) (by decide) (fun c9 => ?_) (fun c9 => ?_)
          · refine lv_iinc (v := nI (i + 1)) (lv' := [(4, .int (nI (i + 1))), (5, .ref (ad (5, i))), (3, .int (nI 20)), (2, .ref (ad (0, 4))), (0, .ref (ad (0, 0))), (1, .int (nI e9))]) hx hb dX2_allOpenedAfter_47 hl (k := 1) rfl (ki1 _) (by decide) rfl (fun ls hl => ?_)
            refine lv_goto (tgt := 11) hx hb dX2_allOpenedAfter_50 (by decide) ?_
            exact ih (i + 1) _ _ _ (by omega) (fun c h1 h2 => by rcases Nat.lt_or_ge c i with h | h; exact hall c h h2; rw [show c = i by omega]; simp [ho9]) hW hS (lv_sub hl [0, 2, 3, 4, 5] rfl)
          · exact absurd c9 (by decide)
        | true =>
          refine kg F hE hW (5, i) hdc rfl hoc rfl inA_X0 3 (by decide) kw_422 (v := .int (nI 0)) (by show some (Value.int (bI (!op i))) = _; rw [ho9]; rfl) dX2_allOpenedAfter_30 ?_
          refine nz_ne (tgt := 47) hx hb dX2_allOpenedAfter_33 (by decide) (by decide) (fun c9 => ?_) (fun c9 => ?_)
          · exact absurd c9 (by decide)
          · refine lv_aload hx hb dX2_allOpenedAfter_36 (lv_at hl 0 rfl) ?_
            refine kg F hE hW (5, i) hdc rfl hoc rfl inA_X0 0 (by decide) kw_419 (v := .int (nI (ce i))) rfl dX2_allOpenedAfter_38 ?_
            refine lv_iload_n hx hb dX2_allOpenedAfter_41 rfl (lv_at hl 5 rfl) ?_
            have hce9 := hce i hlt
            refine nc_gt (tgt := 47) hx hb dX2_allOpenedAfter_42 (by decide) (by omega) (by omega) (fun c2 => ?_) (fun c2 => ?_)
            · refine lv_iinc (v := nI (i + 1)) (lv' := [(4, .int (nI (i + 1))), (5, .ref (ad (5, i))), (3, .int (nI 20)), (2, .ref (ad (0, 4))), (0, .ref (ad (0, 0))), (1, .int (nI e9))]) hx hb dX2_allOpenedAfter_47 hl (k := 1) rfl (ki1 _) (by decide) rfl (fun ls hl => ?_)
              refine lv_goto (tgt := 11) hx hb dX2_allOpenedAfter_50 (by decide) ?_
              exact ih (i + 1) _ _ _ (by omega) (fun c h1 h2 => by rcases Nat.lt_or_ge c i with h | h; exact hall c h h2; rw [show c = i by omega]; simp [ho9]; omega) hW hS (lv_sub hl [0, 2, 3, 4, 5] rfl)
            · refine lv_iconst (v := nI 0) hx hb dX2_allOpenedAfter_45 (by decide) ?_
              exact kr_z F hr hlk hE hW hS (Nat.le_of_ble_eq_true rfl) (Nat.le_of_ble_eq_true rfl) rfl dX2_allOpenedAfter_46 (⟨rfl, by have hno : ¬ BB = true := fun h => by { rw [← hBB] at h; have := allB_iff.mp h i hlt; simp [ho9] at this; omega }; cases BB with | false => rfl | true => exact absurd rfl hno⟩)
      · refine kl_a 3 F hE hW (0, 4) hH.1.2.2 rfl rfl hH.2.2.2.1 i rfl (by omega) (by decide) (v := .null) (by rw [cfA_f hge]; rfl) dX2_allOpenedAfter_20 ?_
        refine lv_astoreN (lv' := [(5, .null), (4, .int (nI i)), (3, .int (nI 20)), (2, .ref (ad (0, 4))), (0, .ref (ad (0, 0))), (1, .int (nI e9))]) hx hb dX2_allOpenedAfter_21 hl (by decide) rfl (fun ls hl => ?_)
        refine lv_aloadN hx hb dX2_allOpenedAfter_23 (lv_at hl 0 rfl) ?_
        refine lv_ifnullN (tgt := 47) hx hb dX2_allOpenedAfter_25 (by decide) ?_
        refine lv_iinc (v := nI (i + 1)) (lv' := [(4, .int (nI (i + 1))), (5, .null), (3, .int (nI 20)), (2, .ref (ad (0, 4))), (0, .ref (ad (0, 0))), (1, .int (nI e9))]) hx hb dX2_allOpenedAfter_47 hl (k := 1) rfl (ki1 _) (by decide) rfl (fun ls hl => ?_)
        refine lv_goto (tgt := 11) hx hb dX2_allOpenedAfter_50 (by decide) ?_
        exact ih (i + 1) _ _ _ (by omega) (fun c h1 h2 => hall c (by omega) h2) hW hS (lv_sub hl [0, 2, 3, 4, 5] rfl)
set_option maxRecDepth 100000 in
set_option maxHeartbeats 4000000 in
theorem c_X2_cursorOf (l : Launch) (G : GG) (A : Nat → Prop) (ad : Lb → Nat) (dm : Lb → Prop) (ct : Lb → va_E) (lv : Nat → Bool) (lev : Nat → Nat) (lo : Nat → Nat) (hi : Nat → Nat) (ri : Nat → Option Nat) (sz : Nat → Nat) (ky : Nat → Nat) (vl : Nat → Nat) (go : Nat → Option Nat) (rt : Nat) (ep : Nat) (wq : Nat → Nat) (wn : Nat) (cn : Nat) (op : Nat → Bool) (cl : Nat → Nat) (ca : Nat → Nat) (ce : Nat → Nat) (kc : Nat) (nb : Nat) (hst : l.stackTraces = false) (hH : HKF G ad dm ct lv lev lo hi ri sz ky vl go rt ep wq wn cn op cl ca ce kc nb) (hcn : cn ≤ 20) (x : Int32) :
    CT l yX2_cursorOf cX2_cursorOf 3 (some (FieldType.object "Highkey$Cursor")) { frames := 6, cells := 1, slots := 6, locals := 100 } [.ref (ad (0, 0)), .int x] G A (ad, dm, ct) (fun v w' => (ad, dm, ct) = w' ∧ ∃ j, j < cn ∧ x = nI j ∧ op j = true ∧ v = some (.ref (ad (5, j)))) (fun E => E = "java/lang/IndexOutOfBoundsException" ∧ ∀ j, j < cn → op j = true → x ≠ nI j) (1) (6) := by
  refine ct_of (by decide) (Nat.le_of_ble_eq_true rfl) ?_
  intro p e s m below meth c ls F hr hlk hnm hex hE hW hl
  have hx := F.1
  have hb := F.2.1
  have hS : va_S A s.heap s.heap [] := va_S.rf
  have hl : lv_has ls 3 [(0, .ref (ad (0, 0))), (1, .int x)] := hl
  refine lv_iload_n hx hb dX2_cursorOf_0 rfl (lv_at hl 1 rfl) ?_
  refine lv_if_lt (tgt := 22) hx hb dX2_cursorOf_1 (by decide) (fun c1 => ?_) (fun c1 => ?_)
  · refine lv_null hx hb dX2_cursorOf_22 ?_
    refine lv_astore_nN (lv' := [(2, .null), (0, .ref (ad (0, 0))), (1, .int x)]) hx hb dX2_cursorOf_23 rfl hl (by decide) rfl (fun ls hl => ?_)
    refine lv_aload_nN hx hb dX2_cursorOf_24 rfl (lv_at hl 0 rfl) ?_
    refine lv_ifnullN (tgt := 35) hx hb dX2_cursorOf_25 (by decide) ?_
    exact kr_t (cls := "java/lang/IndexOutOfBoundsException") (text := "no such open cursor") (ik := 172) (is := 179) (ic := 176) F hst hlk hex hE hW hS hl.1 (by decide +kernel) kw_440 kw_18 kn_449 tl_176.1 tl_176.2.1 tl_176.2.2 dX2_cursorOf_35 dX2_cursorOf_38 dX2_cursorOf_39 dX2_cursorOf_41 dX2_cursorOf_44 (Nat.le_of_ble_eq_true rfl) (Nat.le_of_ble_eq_true rfl) (Nat.le_of_ble_eq_true rfl) (Nat.le_of_ble_eq_true rfl) (Nat.le_of_ble_eq_true rfl) (Nat.le_of_ble_eq_true rfl) (⟨rfl, fun j hj _ e => absurd c1 (by rw [e]; exact nI_nlt (Nat.zero_le _) (by omega))⟩)
  · obtain ⟨j, hj, rfl⟩ := nI_of c1
    refine lv_iload_n hx hb dX2_cursorOf_4 rfl (lv_at hl 1 rfl) ?_
    refine lv_aload_n hx hb dX2_cursorOf_5 rfl (lv_at hl 0 rfl) ?_
    refine kg F hE hW (0, 0) hH.1.1 rfl hH.2.1 rfl inA_X2 2 (by decide) kw_107 (v := .ref (ad (0, 4))) rfl dX2_cursorOf_6 ?_
    refine kal 3 F hE hW (0, 4) hH.1.2.2 rfl rfl hH.2.2.2.1 dX2_cursorOf_9 ?_
    refine nc_ge (tgt := 22) hx hb dX2_cursorOf_10 (by decide) (by omega) (by omega) (fun c2 => ?_) (fun c2 => ?_)
    · refine lv_null hx hb dX2_cursorOf_22 ?_
      refine lv_astore_nN (lv' := [(2, .null), (0, .ref (ad (0, 0))), (1, .int (nI j))]) hx hb dX2_cursorOf_23 rfl hl (by decide) rfl (fun ls hl => ?_)
      refine lv_aload_nN hx hb dX2_cursorOf_24 rfl (lv_at hl 0 rfl) ?_
      refine lv_ifnullN (tgt := 35) hx hb dX2_cursorOf_25 (by decide) ?_
      exact kr_t (cls := "java/lang/IndexOutOfBoundsException") (text := "no such open cursor") (ik := 172) (is := 179) (ic := 176) F hst hlk hex hE hW hS hl.1 (by decide +kernel) kw_440 kw_18 kn_449 tl_176.1 tl_176.2.1 tl_176.2.2 dX2_cursorOf_35 dX2_cursorOf_38 dX2_cursorOf_39 dX2_cursorOf_41 dX2_cursorOf_44 (Nat.le_of_ble_eq_true rfl) (Nat.le_of_ble_eq_true rfl) (Nat.le_of_ble_eq_true rfl) (Nat.le_of_ble_eq_true rfl) (Nat.le_of_ble_eq_true rfl) (Nat.le_of_ble_eq_true rfl) (⟨rfl, fun i hi9 _ e => by have := nI_inj hj (by omega) e; omega⟩)
    · refine lv_aload_n hx hb dX2_cursorOf_13 rfl (lv_at hl 0 rfl) ?_
      refine kg F hE hW (0, 0) hH.1.1 rfl hH.2.1 rfl inA_X2 2 (by decide) kw_107 (v := .ref (ad (0, 4))) rfl dX2_cursorOf_14 ?_
      refine lv_iload_n hx hb dX2_cursorOf_17 rfl (lv_at hl 1 rfl) ?_
      rcases Nat.lt_or_ge j cn with hlt | hge
      · refine kl_a 3 F hE hW (0, 4) hH.1.2.2 rfl rfl hH.2.2.2.1 j rfl c2 (by decide) (v := .ref (ad (5, j))) (by rw [cfA_t hlt]; rfl) dX2_cursorOf_18 ?_
        obtain ⟨hdc, rc, hoc, hlc⟩ := hH.2.2.2.2.2.1.1 j hlt
        refine lv_goto (tgt := 23) hx hb dX2_cursorOf_19 (by decide) ?_
        refine lv_astore_n (lv' := [(2, .ref (ad (5, j))), (0, .ref (ad (0, 0))), (1, .int (nI j))]) hx hb dX2_cursorOf_23 rfl hl (by decide) rfl (fun ls hl => ?_)
        refine lv_aload_n hx hb dX2_cursorOf_24 rfl (lv_at hl 0 rfl) ?_
        refine lv_ifnull hx hb dX2_cursorOf_25 ?_
        refine lv_aload_n hx hb dX2_cursorOf_28 rfl (lv_at hl 0 rfl) ?_
        cases ho9 : op j with
        | false =>
          refine kg F hE hW (5, j) hdc rfl hoc rfl inA_X0 3 (by decide) kw_422 (v := .int (nI 1)) (by show some (Value.int (bI (!op j))) = _; rw [ho9]; rfl) dX2_cursorOf_29 ?_
          refine nz_eq (tgt := 45) hx hb dX2_cursorOf_32 (by decide) (by decide) (fun c9 => ?_) (fun c9 => ?_)
          · exact absurd c9 (by decide)
          · exact kr_t (cls := "java/lang/IndexOutOfBoundsException") (text := "no such open cursor") (ik := 172) (is := 179) (ic := 176) F hst hlk hex hE hW hS hl.1 (by decide +kernel) kw_440 kw_18 kn_449 tl_176.1 tl_176.2.1 tl_176.2.2 dX2_cursorOf_35 dX2_cursorOf_38 dX2_cursorOf_39 dX2_cursorOf_41 dX2_cursorOf_44 (Nat.le_of_ble_eq_true rfl) (Nat.le_of_ble_eq_true rfl) (Nat.le_of_ble_eq_true rfl) (Nat.le_of_ble_eq_true rfl) (Nat.le_of_ble_eq_true rfl) (Nat.le_of_ble_eq_true rfl) (⟨rfl, fun i hi9 h9 e => by rw [nI_inj (by omega) (by omega) e, h9] at ho9; cases ho9⟩)
        | true =>
          refine kg F hE hW (5, j) hdc rfl hoc rfl inA_X0 3 (by decide) kw_422 (v := .int (nI 0)) (by show some (Value.int (bI (!op j))) = _; rw [ho9]; rfl) dX2_cursorOf_29 ?_
          refine nz_eq (tgt := 45) hx hb dX2_cursorOf_32 (by decide) (by decide) (fun c9 => ?_) (fun c9 => ?_)
          · refine lv_aload_n hx hb dX2_cursorOf_45 rfl (lv_at hl 0 rfl) ?_
            exact kr_a F hr hlk hE hW hS (Nat.le_of_ble_eq_true rfl) (Nat.le_of_ble_eq_true rfl) (Or.inl ⟨_, rfl⟩) (Or.inr ⟨_, rfl⟩) dX2_cursorOf_46 (⟨rfl, j, hlt, rfl, ho9, rfl⟩)
          · exact absurd c9 (by decide)
      · refine kl_a 3 F hE hW (0, 4) hH.1.2.2 rfl rfl hH.2.2.2.1 j rfl c2 (by decide) (v := .null) (by rw [cfA_f hge]; rfl) dX2_cursorOf_18 ?_
        refine lv_goto (tgt := 23) hx hb dX2_cursorOf_19 (by decide) ?_
        refine lv_astore_nN (lv' := [(2, .null), (0, .ref (ad (0, 0))), (1, .int (nI j))]) hx hb dX2_cursorOf_23 rfl hl (by decide) rfl (fun ls hl => ?_)
        refine lv_aload_nN hx hb dX2_cursorOf_24 rfl (lv_at hl 0 rfl) ?_
        refine lv_ifnullN (tgt := 35) hx hb dX2_cursorOf_25 (by decide) ?_
        exact kr_t (cls := "java/lang/IndexOutOfBoundsException") (text := "no such open cursor") (ik := 172) (is := 179) (ic := 176) F hst hlk hex hE hW hS hl.1 (by decide +kernel) kw_440 kw_18 kn_449 tl_176.1 tl_176.2.1 tl_176.2.2 dX2_cursorOf_35 dX2_cursorOf_38 dX2_cursorOf_39 dX2_cursorOf_41 dX2_cursorOf_44 (Nat.le_of_ble_eq_true rfl) (Nat.le_of_ble_eq_true rfl) (Nat.le_of_ble_eq_true rfl) (Nat.le_of_ble_eq_true rfl) (Nat.le_of_ble_eq_true rfl) (Nat.le_of_ble_eq_true rfl) (⟨rfl, fun i hi9 _ e => by have := nI_inj hj (by omega) e; omega⟩)
set_option maxRecDepth 100000 in
set_option maxHeartbeats 4000000 in
theorem c_X0_walk (l : Launch) (G : GG) (A : Nat → Prop) (ad : Lb → Nat) (dm : Lb → Prop) (ct : Lb → va_E) (lv : Nat → Bool) (lev : Nat → Nat) (lo : Nat → Nat) (hi : Nat → Nat) (ri : Nat → Option Nat) (sz : Nat → Nat) (ky : Nat → Nat) (vl : Nat → Nat) (go : Nat → Option Nat) (rt : Nat) (ep : Nat) (wq : Nat → Nat) (wn : Nat) (cn : Nat) (op : Nat → Bool) (cl : Nat → Nat) (ca : Nat → Nat) (ce : Nat → Nat) (kc : Nat) (nb : Nat) (hH : HKF G ad dm ct lv lev lo hi ri sz ky vl go rt ep wq wn cn op cl ca ce kc nb) (t0 : Nat) (hI : InvF lv lev lo hi ri sz ky vl go rt ep wq wn cn op cl ca ce kc nb 800 t0) (j : Nat) (hj : j < cn) (ho : op j = true) :
    CT l yX0_walk cX0_walk 3 (some FieldType.int) { frames := 3, cells := 0, slots := 0, locals := 63 } [.ref (ad (5, j))] G A (ad, dm, ct) (fun v w' => ∃ ct', w' = (ad, dm, ct') ∧ HK G ad dm ct' (nxtS (lv, lev, lo, hi, ri, sz, ky, vl, go, rt, ep, wq, wn, cn, op, cl, ca, ce, kc, nb) j).1 ∧ FH ad dm ct ad dm ct' ∧ v = some (.int (oI (nxtS (lv, lev, lo, hi, ri, sz, ky, vl, go, rt, ep, wq, wn, cn, op, cl, ca, ce, kc, nb) j).2))) (fun _ => False) (0) (0) := by
  refine ct_of (by decide) (Nat.le_of_ble_eq_true rfl) ?_
  intro p e s m below meth c ls F hr hlk hnm hex hE hW hl
  have hx := F.1
  have hb := F.2.1
  have hS : va_S A s.heap s.heap [] := va_S.rf
  have hl : lv_has ls 3 [(0, .ref (ad (5, j)))] := hl
  have hI0 := hI
  obtain ⟨hP, hQ, hCu, hkc, hsum, ht, hep, hkt⟩ := hI
  have hb9 : nb ≤ 513 := by omega
  have hwn9 : wn ≤ 513 := by omega
  obtain ⟨hfr1, hfr2, hfr3⟩ := fr_spec hP hb9
  have hcn9 := hCu.1
  obtain ⟨v1, v2, v3⟩ := hCu.2 j hj
  obtain ⟨v4, v5, v6⟩ := v3 ho
  obtain ⟨hdc, rc, hoc, hlc⟩ := hH.2.2.2.2.2.1.1 j hj
  refine lv_aload_n hx hb dX0_walk_0 rfl (lv_at hl 0 rfl) ?_
  refine kg F hE hW (5, j) hdc rfl hoc rfl inA_X0 1 (by decide) kw_420 (v := .ref (ad (1, cl j))) (by show some (Value.ref rc) = _; rw [hlc ho]) dX0_walk_1 ?_
  refine lv_astore_n (lv' := [(1, .ref (ad (1, cl j))), (0, .ref (ad (5, j)))]) hx hb dX0_walk_4 rfl hl (by decide) rfl (fun ls hl => ?_)
  have hcl0 : va_up cl j (cl j) = cl := by
    funext n
    by_cases e : n = j
    · subst e; exact va_up_self _ _ _
    · exact va_up_ne _ _ e
  suffices key9 : ∀ (d pp pz : Nat) (ct1 : Lb → va_E) (H : Heap) (locs : List Loc) (ls : Array Slot), lv pz = true → 200 - lo pz < d → wkF ri sz ky (ca j) 800 pz = wkF ri sz ky (ca j) 800 (cl j) → HKF G ad dm ct1 lv lev lo hi ri sz ky vl go rt ep wq wn cn op (va_up cl j pp) ca ce kc nb → (∀ z, z ≠ (5, j) → ct1 z = ct z) → wd G A (ad, dm, ct1) H → va_S A s.heap H locs → lv_has ls 3 [(1, .ref (ad (1, pz))), (0, .ref (ad (5, j)))] → W _ l e _ s m _ below meth c H locs 0 0 _ (F0 m 5 ls []) from
    key9 201 (cl j) (cl j) ct _ _ ls v4 (by omega) rfl (by rw [hcl0]; exact hH) (fun _ _ => rfl) hW hS hl
  clear hH hdc hoc hlc hW hS hl
  intro d
  induction d with
  | zero => intro pp pz ct1 H locs ls _ h; omega
  | succ d ih =>
    intro pp pz ctA H locs ls hp1 hp2 hp3 hH hz hW hS hl
    obtain ⟨u1, u2, u3, u4, u5, u6⟩ := pg_bd hP hb9 hp1
    have hst := wk_step (b := ca j) hP hp1
    obtain ⟨hdc, rc, hoc, hlc⟩ := hH.2.2.2.2.2.1.1 j hj
    obtain ⟨kf1, vf1, cf1, ta1, hPp1, hCp1, hTp1⟩ := hH.2.2.2.2.2.2.1 pz hp1
    refine lv_aload_n hx hb dX0_walk_5 rfl (lv_at hl 0 rfl) ?_
    refine lv_ifnull hx hb dX0_walk_6 ?_
    refine lv_aload_n hx hb dX0_walk_9 rfl (lv_at hl 1 rfl) ?_
    refine lv_aload_n hx hb dX0_walk_10 rfl (lv_at hl 0 rfl) ?_
    refine kp F hE hW hS (5, j) hdc rfl hoc rfl inA_X0 tyX0 tyX0_ok nmX0 1 (by decide) kw_420 rfl rfl rfl (Nat.le_of_ble_eq_true rfl) dX0_walk_11 (fun ct51 H locs hW hc51 hf51 hS => ?_)
    have hz := fun z (h : z ≠ (5, j)) => (hf51 z h).trans (hz z h)
    have hH := HKF.cur (op2 := op) (cl2 := va_up cl j pz) (ca2 := ca) (r := ad (1, pz)) hH hc51 (fun _ => by rw [va_up_self]) (fun i hi9 => ⟨rfl, by rw [va_up_ne _ _ hi9, va_up_ne _ _ hi9], rfl⟩) hf51
    obtain ⟨kf2, vf2, cf2, ta2, hPp2, hCp2, hTp2⟩ := hH.2.2.2.2.2.2.1 pz hp1
    refine lv_aload_n hx hb dX0_walk_14 rfl (lv_at hl 0 rfl) ?_
    refine lv_aload_n hx hb dX0_walk_15 rfl (lv_at hl 1 rfl) ?_
    refine kg F hE hW (5, j) hdc rfl hc51 rfl inA_X0 2 (by decide) kw_421 (v := .int (lI (ca j))) rfl dX0_walk_16 ?_
    refine kc_V 1 (c_X1_leastKeyAbove l G A ad dm ct51 pz (lev pz) (lo pz) (sz pz) (hi pz) (rA ad ri pz) (dI go pz) ta2 kf2 vf2 cf2 hPp2 u5 (lI (ca j)) (nI (ca j)) (lI_1 _)) F hE hW hS (1, pz) hPp2.1.1 hPp2.2.1 rfl [.int (lI (ca j))] rfl kw_460 kw_461 kw_462 kw_5 kw_463 (by decide +kernel) rfl ⟨rfl, rfl⟩ ⟨Nat.le_of_ble_eq_true rfl, Nat.le_of_ble_eq_true rfl⟩ hl.1 rfl (Nat.le_of_ble_eq_true rfl) dX0_walk_19 ⟨Nat.le_of_ble_eq_true rfl, Nat.le_of_ble_eq_true rfl⟩ (fun _ _ _ _ _ h => h.elim) (fun v w' H locs hp hW hS => ?_)
    obtain ⟨rfl, qz, hq1, hq2, hq3, hq4⟩ := hp
    have hqc := q_cnt hP hp1 hCp2 (by omega) hq1 hq2 hq3
    rcases hq4 with ⟨hq5, rfl⟩ | ⟨hq5, rfl⟩
    · have hkq := (hCp2 qz hq5).1
      rw [hkq]
      obtain ⟨k1, k2⟩ := u6 qz hq5
      refine lv_istore_n (lv' := [(2, .int (nI (ky (5 * pz + qz)))), (1, .ref (ad (1, pz))), (0, .ref (ad (5, j)))]) hx hb dX0_walk_22 rfl hl (by decide) rfl (fun ls hl => ?_)
      refine lv_iload_n hx hb dX0_walk_23 rfl (lv_at hl 0 rfl) ?_
      refine lv_iconst (v := (-1)) hx hb dX0_walk_24 (by decide) ?_
      refine lv_icmp_eq (tgt := 35) hx hb dX0_walk_25 (by decide) (fun c2 => ?_) (fun c2 => ?_)
      · exact absurd c2 (nI_neg (by omega))
      · refine lv_aload_n hx hb dX0_walk_28 rfl (lv_at hl 2 rfl) ?_
        refine lv_iload_n hx hb dX0_walk_29 rfl (lv_at hl 0 rfl) ?_
        refine kp F hE hW hS (5, j) hdc rfl hc51 rfl inA_X0 tyX0 tyX0_ok nmX0 2 (by decide) kw_421 rfl rfl rfl (Nat.le_of_ble_eq_true rfl) dX0_walk_30 (fun ct52 H locs hW hc52 hf52 hS => ?_)
        have hz := fun z (h : z ≠ (5, j)) => (hf52 z h).trans (hz z h)
        have hH := HKF.cur (op2 := op) (cl2 := va_up cl j pz) (ca2 := va_up ca j (ky (5 * pz + qz) + 1)) (r := ad (1, pz)) hH (by rw [va_up_self, lI_s]; exact hc52) (fun _ => by rw [va_up_self]) (fun i hi9 => ⟨rfl, rfl, va_up_ne _ _ hi9⟩) hf52
        rw [if_neg (by omega)] at hst
        have hfin : wkF ri sz ky (ca j) 800 (cl j) = pz := hp3.symm.trans hst
        have hE2 : nxtS (lv, lev, lo, hi, ri, sz, ky, vl, go, rt, ep, wq, wn, cn, op, cl, ca, ce, kc, nb) j = ((lv, lev, lo, hi, ri, sz, ky, vl, go, rt, ep, wq, wn, cn, op, va_up cl j pz, va_up ca j (ky (5 * pz + qz) + 1), ce, kc, nb), some (ky (5 * pz + qz))) := by unfold nxtS nxeS; dsimp only; rw [hfin, if_pos (by omega), hqc]
        refine lv_iload_n hx hb dX0_walk_33 rfl (lv_at hl 0 rfl) ?_
        exact kr_i F hr hlk hE hW hS (Nat.le_of_ble_eq_true rfl) (Nat.le_of_ble_eq_true rfl) dX0_walk_34 (⟨_, rfl, by rw [hE2]; exact hH, FH.put (x := (5, j)) (by show 5 < 7; decide) hz, by rw [hE2]; rfl⟩)
    · refine lv_istore_n (lv' := [(2, .int (-1)), (1, .ref (ad (1, pz))), (0, .ref (ad (5, j)))]) hx hb dX0_walk_22 rfl hl (by decide) rfl (fun ls hl => ?_)
      refine lv_iload_n hx hb dX0_walk_23 rfl (lv_at hl 0 rfl) ?_
      refine lv_iconst (v := (-1)) hx hb dX0_walk_24 (by decide) ?_
      refine lv_icmp_eq (tgt := 35) hx hb dX0_walk_25 (by decide) (fun c2 => ?_) (fun c2 => ?_)
      · rw [if_pos (by omega)] at hst
        refine lv_aload_n hx hb dX0_walk_35 rfl (lv_at hl 1 rfl) ?_
        cases hrz : ri pz with
        | none =>
          rw [hrz] at hst
          dsimp only at hst
          have hfin : wkF ri sz ky (ca j) 800 (cl j) = pz := hp3.symm.trans hst
          have hE2 : nxtS (lv, lev, lo, hi, ri, sz, ky, vl, go, rt, ep, wq, wn, cn, op, cl, ca, ce, kc, nb) j = ((lv, lev, lo, hi, ri, sz, ky, vl, go, rt, ep, wq, wn, cn, op, va_up cl j pz, ca, ce, kc, nb), none) := by unfold nxtS nxeS; dsimp only; rw [hfin, if_neg (by omega)]
          refine kg F hE hW (1, pz) hPp2.1.1 rfl hPp2.2.1 rfl inA_X1 8 (by decide) kw_76 (v := .null) (by show some (va_rf (rA ad ri pz)) = _; unfold rA; rw [hrz]; rfl) dX0_walk_36 ?_
          refine lv_astore_nN (lv' := [(1, .null), (2, .int (-1)), (0, .ref (ad (5, j)))]) hx hb dX0_walk_39 rfl hl (by decide) rfl (fun ls hl => ?_)
          refine lv_goto (tgt := 5) hx hb dX0_walk_40 (by decide) ?_
          refine lv_aload_nN hx hb dX0_walk_5 rfl (lv_at hl 0 rfl) ?_
          refine lv_ifnullN (tgt := 43) hx hb dX0_walk_6 (by decide) ?_
          refine lv_iconst (v := (-1)) hx hb dX0_walk_43 (by decide) ?_
          exact kr_i F hr hlk hE hW hS (Nat.le_of_ble_eq_true rfl) (Nat.le_of_ble_eq_true rfl) dX0_walk_44 (⟨_, rfl, by rw [hE2]; exact hH, FH.put (x := (5, j)) (by show 5 < 7; decide) hz, by rw [hE2]; rfl⟩)
        | some rz =>
          rw [hrz] at hst
          dsimp only at hst
          obtain ⟨b1, b2, b3, b4, b5⟩ := hP.2.2.2.1 pz rz hp1 hrz
          refine kg F hE hW (1, pz) hPp2.1.1 rfl hPp2.2.1 rfl inA_X1 8 (by decide) kw_76 (v := .ref (ad (1, rz))) (by show some (va_rf (rA ad ri pz)) = _; unfold rA; rw [hrz]; rfl) dX0_walk_36 ?_
          refine lv_astore_n (lv' := [(1, .ref (ad (1, rz))), (2, .int (-1)), (0, .ref (ad (5, j)))]) hx hb dX0_walk_39 rfl hl (by decide) rfl (fun ls hl => ?_)
          refine lv_goto (tgt := 5) hx hb dX0_walk_40 (by decide) ?_
          exact ih pz rz _ _ _ _ b1 (by have := (pg_bd hP hb9 b1).2.2; omega) (hst.symm.trans hp3) hH hz hW hS (lv_sub hl [0, 2] rfl)
      · exact absurd rfl c2
set_option maxRecDepth 100000 in
set_option maxHeartbeats 4000000 in
theorem c_X2_next (l : Launch) (G : GG) (A : Nat → Prop) (ad : Lb → Nat) (dm : Lb → Prop) (ct : Lb → va_E) (lv : Nat → Bool) (lev : Nat → Nat) (lo : Nat → Nat) (hi : Nat → Nat) (ri : Nat → Option Nat) (sz : Nat → Nat) (ky : Nat → Nat) (vl : Nat → Nat) (go : Nat → Option Nat) (rt : Nat) (ep : Nat) (wq : Nat → Nat) (wn : Nat) (cn : Nat) (op : Nat → Bool) (cl : Nat → Nat) (ca : Nat → Nat) (ce : Nat → Nat) (kc : Nat) (nb : Nat) (hst : l.stackTraces = false) (hH : HKF G ad dm ct lv lev lo hi ri sz ky vl go rt ep wq wn cn op cl ca ce kc nb) (t0 : Nat) (hI : InvF lv lev lo hi ri sz ky vl go rt ep wq wn cn op cl ca ce kc nb 800 t0) (x : Int32) :
    CT l yX2_next cX2_next 2 (some FieldType.int) { frames := 7, cells := 1, slots := 6, locals := 122 } [.ref (ad (0, 0)), .int x] G A (ad, dm, ct) (fun v w' => ∃ ct', w' = (ad, dm, ct') ∧ FH ad dm ct ad dm ct' ∧ ∃ j, j < cn ∧ x = nI j ∧ op j = true ∧ HK G ad dm ct' (nxtS (lv, lev, lo, hi, ri, sz, ky, vl, go, rt, ep, wq, wn, cn, op, cl, ca, ce, kc, nb) j).1 ∧ v = some (.int (oI (nxtS (lv, lev, lo, hi, ri, sz, ky, vl, go, rt, ep, wq, wn, cn, op, cl, ca, ce, kc, nb) j).2))) (fun E => E = "java/lang/IndexOutOfBoundsException" ∧ ∀ j, j < cn → op j = true → x ≠ nI j) (1) (6) := by
  refine ct_of (by decide) (Nat.le_of_ble_eq_true rfl) ?_
  intro p e s m below meth c ls F hr hlk hnm hex hE hW hl
  have hx := F.1
  have hb := F.2.1
  have hS : va_S A s.heap s.heap [] := va_S.rf
  have hl : lv_has ls 2 [(0, .ref (ad (0, 0))), (1, .int x)] := hl
  have hI9 := hI
  have hI0 := hI
  obtain ⟨hP, hQ, hCu, hkc, hsum, ht, hep, hkt⟩ := hI
  have hb9 : nb ≤ 513 := by omega
  have hwn9 : wn ≤ 513 := by omega
  obtain ⟨hfr1, hfr2, hfr3⟩ := fr_spec hP hb9
  refine lv_aload_n hx hb dX2_next_0 rfl (lv_at hl 0 rfl) ?_
  refine lv_iload_n hx hb dX2_next_1 rfl (lv_at hl 1 rfl) ?_
  refine kc_V 1 (c_X2_cursorOf l G A ad dm ct lv lev lo hi ri sz ky vl go rt ep wq wn cn op cl ca ce kc nb hst hH hCu.1 x) F hE hW hS (0, 0) hH.1.1 hH.2.1 rfl [.int x] rfl kw_436 kw_438 kp_12 kw_1 kw_439 (by decide +kernel) rfl ⟨rfl, rfl⟩ ⟨Nat.le_of_ble_eq_true rfl, Nat.le_of_ble_eq_true rfl⟩ hl.1 rfl (Nat.le_of_ble_eq_true rfl) dX2_next_2 ⟨Nat.le_of_ble_eq_true rfl, Nat.le_of_ble_eq_true rfl⟩ (fun E q9 ce H locs hpx hW hS hce hcv hcl => kr_x hex hlk hW hS hce hcv hcl (Nat.le_of_ble_eq_true rfl) (Nat.le_of_ble_eq_true rfl) (hpx)) (fun v w' H locs hp hW hS => ?_)
  obtain ⟨rfl, j, hj, rfl, ho, rfl⟩ := hp
  have hcn9 := hCu.1
  obtain ⟨v1, v2, v3⟩ := hCu.2 j hj
  obtain ⟨v4, v5, v6⟩ := v3 ho
  obtain ⟨u1, u2, u3, u4, u5, u6⟩ := pg_bd hP hb9 v4
  obtain ⟨hdc, rc, hoc, hlc⟩ := hH.2.2.2.2.2.1.1 j hj
  refine kc_V 0 (c_X0_walk l G A ad dm ct lv lev lo hi ri sz ky vl go rt ep wq wn cn op cl ca ce kc nb hH t0 hI9 j hj ho) F hE hW hS (5, j) hdc hoc rfl [] rfl kw_456 kw_457 kw_458 kw_17 kw_459 (by decide +kernel) rfl ⟨rfl, rfl⟩ ⟨Nat.le_of_ble_eq_true rfl, Nat.le_of_ble_eq_true rfl⟩ hl.1 rfl (Nat.le_of_ble_eq_true rfl) dX2_next_5 ⟨Nat.le_of_ble_eq_true rfl, Nat.le_of_ble_eq_true rfl⟩ (fun _ _ _ _ _ h => h.elim) (fun v w' H locs hp hW hS => ?_)
  obtain ⟨ct2, rfl, hK, hF, rfl⟩ := hp
  exact kr_i F hr hlk hE hW hS (Nat.le_of_ble_eq_true rfl) (Nat.le_of_ble_eq_true rfl) dX2_next_8 (⟨ct2, rfl, hF, j, hj, rfl, ho, hK, rfl⟩)
set_option maxRecDepth 100000 in
set_option maxHeartbeats 4000000 in
theorem c_X2_close (l : Launch) (G : GG) (A : Nat → Prop) (ad : Lb → Nat) (dm : Lb → Prop) (ct : Lb → va_E) (lv : Nat → Bool) (lev : Nat → Nat) (lo : Nat → Nat) (hi : Nat → Nat) (ri : Nat → Option Nat) (sz : Nat → Nat) (ky : Nat → Nat) (vl : Nat → Nat) (go : Nat → Option Nat) (rt : Nat) (ep : Nat) (wq : Nat → Nat) (wn : Nat) (cn : Nat) (op : Nat → Bool) (cl : Nat → Nat) (ca : Nat → Nat) (ce : Nat → Nat) (kc : Nat) (nb : Nat) (hst : l.stackTraces = false) (hH : HKF G ad dm ct lv lev lo hi ri sz ky vl go rt ep wq wn cn op cl ca ce kc nb) (t0 : Nat) (hI : InvF lv lev lo hi ri sz ky vl go rt ep wq wn cn op cl ca ce kc nb 800 t0) (x : Int32) :
    CT l yX2_close cX2_close 7 (some FieldType.int) { frames := 7, cells := 1, slots := 6, locals := 122 } [.ref (ad (0, 0)), .int x] G A (ad, dm, ct) (fun v w' => ∃ ct', w' = (ad, dm, ct') ∧ FH ad dm ct ad dm ct' ∧ ∃ j, j < cn ∧ x = nI j ∧ op j = true ∧ HK G ad dm ct' (cloS (lv, lev, lo, hi, ri, sz, ky, vl, go, rt, ep, wq, wn, cn, op, cl, ca, ce, kc, nb) j) ∧ v = some (.int (nI (cntB cn (va_up op j false))))) (fun E => E = "java/lang/IndexOutOfBoundsException" ∧ ∀ j, j < cn → op j = true → x ≠ nI j) (1) (6) := by
  refine ct_of (by decide) (Nat.le_of_ble_eq_true rfl) ?_
  intro p e s m below meth c ls F hr hlk hnm hex hE hW hl
  have hx := F.1
  have hb := F.2.1
  have hS : va_S A s.heap s.heap [] := va_S.rf
  have hl : lv_has ls 7 [(0, .ref (ad (0, 0))), (1, .int x)] := hl
  have hI0 := hI
  obtain ⟨hP, hQ, hCu, hkc, hsum, ht, hep, hkt⟩ := hI
  have hb9 : nb ≤ 513 := by omega
  have hwn9 : wn ≤ 513 := by omega
  obtain ⟨hfr1, hfr2, hfr3⟩ := fr_spec hP hb9
  refine lv_aload_n hx hb dX2_close_0 rfl (lv_at hl 0 rfl) ?_
  refine lv_iload_n hx hb dX2_close_1 rfl (lv_at hl 1 rfl) ?_
  refine kc_V 1 (c_X2_cursorOf l G A ad dm ct lv lev lo hi ri sz ky vl go rt ep wq wn cn op cl ca ce kc nb hst hH hCu.1 x) F hE hW hS (0, 0) hH.1.1 hH.2.1 rfl [.int x] rfl kw_436 kw_438 kp_12 kw_1 kw_439 (by decide +kernel) rfl ⟨rfl, rfl⟩ ⟨Nat.le_of_ble_eq_true rfl, Nat.le_of_ble_eq_true rfl⟩ hl.1 rfl (Nat.le_of_ble_eq_true rfl) dX2_close_2 ⟨Nat.le_of_ble_eq_true rfl, Nat.le_of_ble_eq_true rfl⟩ (fun E q9 ce H locs hpx hW hS hce hcv hcl => kr_x hex hlk hW hS hce hcv hcl (Nat.le_of_ble_eq_true rfl) (Nat.le_of_ble_eq_true rfl) (hpx)) (fun v w' H locs hp hW hS => ?_)
  obtain ⟨rfl, j, hj, rfl, ho, rfl⟩ := hp
  have hcn9 := hCu.1
  obtain ⟨v1, v2, v3⟩ := hCu.2 j hj
  obtain ⟨v4, v5, v6⟩ := v3 ho
  obtain ⟨u1, u2, u3, u4, u5, u6⟩ := pg_bd hP hb9 v4
  obtain ⟨hdc, rc, hoc, hlc⟩ := hH.2.2.2.2.2.1.1 j hj
  refine lv_iconst (v := nI 1) hx hb dX2_close_5 (by decide) ?_
  refine kp F hE hW hS (5, j) hdc rfl hoc rfl inA_X0 tyX0 tyX0_ok nmX0 3 (by decide) kw_422 rfl rfl rfl (Nat.le_of_ble_eq_true rfl) dX2_close_6 (fun ct51 H locs hW hc51 hf51 hS => ?_)
  have hH := HKF.cur (op2 := va_up op j false) (cl2 := cl) (ca2 := ca) (r := rc) hH (by rw [va_up_self]; exact hc51) (fun h => by rw [va_up_self] at h; cases h) (fun i hi9 => ⟨va_up_ne _ _ hi9, rfl, rfl⟩) hf51
  clear hdc hoc hlc
  refine lv_iconst (v := nI 0) hx hb dX2_close_9 (by decide) ?_
  refine lv_istore_n (lv' := [(2, .int (nI 0)), (0, .ref (ad (0, 0))), (1, .int (nI j))]) hx hb dX2_close_10 rfl hl (by decide) rfl (fun ls hl => ?_)
  refine lv_aload_n hx hb dX2_close_11 rfl (lv_at hl 1 rfl) ?_
  refine kg F hE hW (0, 0) hH.1.1 rfl hH.2.1 rfl inA_X2 2 (by decide) kw_107 (v := .ref (ad (0, 4))) rfl dX2_close_12 ?_
  refine lv_astore_n (lv' := [(3, .ref (ad (0, 4))), (2, .int (nI 0)), (0, .ref (ad (0, 0))), (1, .int (nI j))]) hx hb dX2_close_15 rfl hl (by decide) rfl (fun ls hl => ?_)
  refine lv_aload_n hx hb dX2_close_16 rfl (lv_at hl 0 rfl) ?_
  refine kal 3 F hE hW (0, 4) hH.1.2.2 rfl rfl hH.2.2.2.1 dX2_close_17 ?_
  refine lv_istore (lv' := [(4, .int (nI 20)), (3, .ref (ad (0, 4))), (2, .int (nI 0)), (0, .ref (ad (0, 0))), (1, .int (nI j))]) hx hb dX2_close_18 hl (by decide) rfl (fun ls hl => ?_)
  refine lv_iconst (v := nI 0) hx hb dX2_close_20 (by decide) ?_
  refine lv_istore (lv' := [(5, .int (nI 0)), (4, .int (nI 20)), (3, .ref (ad (0, 4))), (2, .int (nI 0)), (0, .ref (ad (0, 0))), (1, .int (nI j))]) hx hb dX2_close_21 hl (by decide) rfl (fun ls hl => ?_)
  suffices key9 : ∀ (d : Nat) (i : Nat) (f0 : Nat) (H : Heap) (locs : List Loc) (ls : Array Slot), i + d = 20 → f0 = cntB (min i cn) (va_up op j false) → f0 ≤ i → wd G A (ad, dm, ct51) H → va_S A s.heap H locs → lv_has ls 7 [(5, .int (nI i)), (4, .int (nI 20)), (3, .ref (ad (0, 4))), (2, .int (nI f0)), (0, .ref (ad (0, 0))), (1, .int (nI j))] → W _ l e _ s m _ below meth c H locs (0 + 1) (0 + 6) _ (F0 m 23 ls []) from
    key9 20 0 0 _ _ ls (by decide) (by rw [Nat.zero_min]; rfl) (Nat.le_refl _) hW hS hl
  clear hW hS hl
  intro d
  induction d with
  | zero =>
    intro i f0 H locs ls hi9 hf9 hle hW hS hl
    refine lv_iload hx hb dX2_close_23 (lv_at hl 0 rfl) ?_
    refine lv_iload hx hb dX2_close_25 (lv_at hl 1 rfl) ?_
    refine nc_ge (tgt := 58) hx hb dX2_close_27 (by decide) (by omega) (by omega) (fun c1 => ?_) (fun c1 => ?_)
    · refine lv_iload_n hx hb dX2_close_58 rfl (lv_at hl 3 rfl) ?_
      exact kr_i F hr hlk hE hW hS (Nat.le_of_ble_eq_true rfl) (Nat.le_of_ble_eq_true rfl) dX2_close_59 (⟨_, rfl, FH.put (x := (5, j)) (by show 5 < 7; decide) hf51, j, hj, rfl, ho, hH, by rw [hf9, show min i cn = cn by omega]⟩)
    · exact absurd c1 (by omega)
  | succ d ih =>
    intro i f0 H locs ls hi9 hf9 hle hW hS hl
    refine lv_iload hx hb dX2_close_23 (lv_at hl 0 rfl) ?_
    refine lv_iload hx hb dX2_close_25 (lv_at hl 1 rfl) ?_
    refine nc_ge (tgt := 58) hx hb dX2_close_27 (by decide) (by omega) (by omega) (fun c1 => ?_) (fun c1 => ?_)
    · exact absurd c1 (by omega)
    · refine lv_aload_n hx hb dX2_close_30 rfl (lv_at hl 2 rfl) ?_
      refine lv_iload hx hb dX2_close_31 (lv_at hl 0 rfl) ?_
      rcases Nat.lt_or_ge i cn with hlt | hge
      · refine kl_a 3 F hE hW (0, 4) hH.1.2.2 rfl rfl hH.2.2.2.1 i rfl (by omega) (by decide) (v := .ref (ad (5, i))) (by rw [cfA_t hlt]; rfl) dX2_close_33 ?_
        obtain ⟨hdc, rc, hoc, hlc⟩ := hH.2.2.2.2.2.1.1 i hlt
        refine lv_astore (lv' := [(6, .ref (ad (5, i))), (5, .int (nI i)), (4, .int (nI 20)), (3, .ref (ad (0, 4))), (2, .int (nI f0)), (0, .ref (ad (0, 0))), (1, .int (nI j))]) hx hb dX2_close_34 hl (by decide) rfl (fun ls hl => ?_)
        refine lv_aload hx hb dX2_close_36 (lv_at hl 0 rfl) ?_
        refine lv_ifnull hx hb dX2_close_38 ?_
        refine lv_aload hx hb dX2_close_41 (lv_at hl 0 rfl) ?_
        cases ho9 : va_up op j false i with
        | false =>
          refine kg F hE hW (5, i) hdc rfl hoc rfl inA_X0 3 (by decide) kw_422 (v := .int (nI 1)) (by show some (Value.int (bI (!va_up op j false i))) = _; rw [ho9]; rfl) dX2_close_43 ?_
          refine nz_ne (tgt := 52) hx hb dX2_close_46 (by decide) (by decide) (fun c9 => ?_) (fun c9 => ?_)
          · refine lv_iinc (v := nI (i + 1)) (lv' := [(5, .int (nI (i + 1))), (6, .ref (ad (5, i))), (4, .int (nI 20)), (3, .ref (ad (0, 4))), (2, .int (nI f0)), (0, .ref (ad (0, 0))), (1, .int (nI j))]) hx hb dX2_close_52 hl (k := 1) rfl (ki1 _) (by decide) rfl (fun ls hl => ?_)
            refine lv_goto (tgt := 23) hx hb dX2_close_55 (by decide) ?_
            exact ih (i + 1) f0 _ _ _ (by omega) (by rw [hf9, show min (i + 1) cn = i + 1 by omega, show min i cn = i by omega, cntB_s0 ho9]) (by omega) hW hS (lv_sub hl [0, 2, 3, 4, 5, 6] rfl)
          · exact absurd c9 (by decide)
        | true =>
          refine kg F hE hW (5, i) hdc rfl hoc rfl inA_X0 3 (by decide) kw_422 (v := .int (nI 0)) (by show some (Value.int (bI (!va_up op j false i))) = _; rw [ho9]; rfl) dX2_close_43 ?_
          refine nz_ne (tgt := 52) hx hb dX2_close_46 (by decide) (by decide) (fun c9 => ?_) (fun c9 => ?_)
          · exact absurd c9 (by decide)
          · refine lv_iinc (v := nI (f0 + 1)) (lv' := [(2, .int (nI (f0 + 1))), (6, .ref (ad (5, i))), (5, .int (nI i)), (4, .int (nI 20)), (3, .ref (ad (0, 4))), (0, .ref (ad (0, 0))), (1, .int (nI j))]) hx hb dX2_close_49 hl (k := 4) rfl (ki1 _) (by decide) rfl (fun ls hl => ?_)
            refine lv_iinc (v := nI (i + 1)) (lv' := [(5, .int (nI (i + 1))), (2, .int (nI (f0 + 1))), (6, .ref (ad (5, i))), (4, .int (nI 20)), (3, .ref (ad (0, 4))), (0, .ref (ad (0, 0))), (1, .int (nI j))]) hx hb dX2_close_52 hl (k := 2) rfl (ki1 _) (by decide) rfl (fun ls hl => ?_)
            refine lv_goto (tgt := 23) hx hb dX2_close_55 (by decide) ?_
            exact ih (i + 1) (f0 + 1) _ _ _ (by omega) (by rw [hf9, show min (i + 1) cn = i + 1 by omega, show min i cn = i by omega, cntB_s1 ho9]) (by omega) hW hS (lv_sub hl [0, 3, 4, 1, 5, 6] rfl)
      · refine kl_a 3 F hE hW (0, 4) hH.1.2.2 rfl rfl hH.2.2.2.1 i rfl (by omega) (by decide) (v := .null) (by rw [cfA_f hge]; rfl) dX2_close_33 ?_
        refine lv_astoreN (lv' := [(6, .null), (5, .int (nI i)), (4, .int (nI 20)), (3, .ref (ad (0, 4))), (2, .int (nI f0)), (0, .ref (ad (0, 0))), (1, .int (nI j))]) hx hb dX2_close_34 hl (by decide) rfl (fun ls hl => ?_)
        refine lv_aloadN hx hb dX2_close_36 (lv_at hl 0 rfl) ?_
        refine lv_ifnullN (tgt := 52) hx hb dX2_close_38 (by decide) ?_
        refine lv_iinc (v := nI (i + 1)) (lv' := [(5, .int (nI (i + 1))), (6, .null), (4, .int (nI 20)), (3, .ref (ad (0, 4))), (2, .int (nI f0)), (0, .ref (ad (0, 0))), (1, .int (nI j))]) hx hb dX2_close_52 hl (k := 1) rfl (ki1 _) (by decide) rfl (fun ls hl => ?_)
        refine lv_goto (tgt := 23) hx hb dX2_close_55 (by decide) ?_
        exact ih (i + 1) f0 _ _ _ (by omega) (by rw [hf9, show min (i + 1) cn = cn by omega, show min i cn = cn by omega]) (by omega) hW hS (lv_sub hl [0, 2, 3, 4, 5, 6] rfl)
