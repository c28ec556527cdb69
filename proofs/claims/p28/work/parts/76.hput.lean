/-! The class: adding, putting, taking. -/
theorem addS_lt {lv : Nat → Bool} {lev lo hi : Nat → Nat} {ri : Nat → Option Nat} {sz ky vl : Nat → Nat} {go : Nat → Option Nat} {rt ep : Nat} {wq : Nat → Nat} {wn cn : Nat} {op : Nat → Bool} {cl ca ce : Nat → Nat} {kc nb : Nat} {p x v : Nat} (h : ¬ sz p = 4) : addS (lv, lev, lo, hi, ri, sz, ky, vl, go, rt, ep, wq, wn, cn, op, cl, ca, ce, kc, nb) p x v = insS (lv, lev, lo, hi, ri, sz, ky, vl, go, rt, ep, wq, wn, cn, op, cl, ca, ce, kc, nb) p x v := by
  show (if sz p = 4 then _ else _) = _
  rw [if_neg h]
theorem addS_eq {lv : Nat → Bool} {lev lo hi : Nat → Nat} {ri : Nat → Option Nat} {sz ky vl : Nat → Nat} {go : Nat → Option Nat} {rt ep : Nat} {wq : Nat → Nat} {wn cn : Nat} {op : Nat → Bool} {cl ca ce : Nat → Nat} {kc nb : Nat} {p x v : Nat} (h : sz p = 4) : addS (lv, lev, lo, hi, ri, sz, ky, vl, go, rt, ep, wq, wn, cn, op, cl, ca, ce, kc, nb) p x v = splS (insS (lv, lev, lo, hi, ri, sz, ky, vl, go, rt, ep, wq, wn, cn, op, cl, ca, ce, kc, nb) p x v) p (fr lv) := by
  show (if sz p = 4 then _ else _) = _
  rw [if_pos h]
set_option maxRecDepth 100000 in
set_option maxHeartbeats 4000000 in
theorem c_X2_addToN (l : Launch) (G : GG) (A : Nat → Prop) (ad : Lb → Nat) (dm : Lb → Prop) (ct : Lb → va_E) (lv : Nat → Bool) (lev : Nat → Nat) (lo : Nat → Nat) (hi : Nat → Nat) (ri : Nat → Option Nat) (sz : Nat → Nat) (ky : Nat → Nat) (vl : Nat → Nat) (go : Nat → Option Nat) (rt : Nat) (ep : Nat) (wq : Nat → Nat) (wn : Nat) (cn : Nat) (op : Nat → Bool) (cl : Nat → Nat) (ca : Nat → Nat) (ce : Nat → Nat) (kc : Nat) (nb : Nat) (hH : HKF G ad dm ct lv lev lo hi ri sz ky vl go rt ep wq wn cn op cl ca ce kc nb) (pp x vv t0 : Nat) (hP : PgI lv lev lo hi ri sz ky vl go rt ep nb 800) (hb9 : nb ≤ 513) (hA : Al lv go pp) (hx1 : lo pp ≤ x) (hx2 : x < hi pp) (hx3 : ∀ k, k < sz pp → ky (5 * pp + k) ≠ x) (hv9 : vv < 10000) (hwn : wn ≤ 512) (hwq : ∀ j, j < wn → lv (wq j) = true) (hCu : ∀ c, c < cn → op c = true → lv (cl c) = true) (h0 : lv 0 = true) (hrt : lv rt = true) (hl0 : lev pp = 0) :
    CT l yX2_addTo cX2_addTo 7 (some FieldType.boolean) { frames := 9, cells := 5, slots := 826, locals := 171 } [.ref (ad (0, 0)), .ref (ad (1, pp)), .int (nI x), .int (nI vv), .null] G A (ad, dm, ct) (fun v9 w' => ∃ ad' dm' ct', w' = (ad', dm', ct') ∧ FH ad dm ct ad' dm' ct' ∧ HK G ad' dm' ct' (addS (lv, lev, lo, hi, ri, sz, ky, vl, go, rt, ep, wq, wn, cn, op, cl, ca, ce, kc, nb) pp x vv) ∧ v9 = some (.int (nI 1))) (fun _ => False) (5) (826) := by
  refine ct_of (by decide) (Nat.le_of_ble_eq_true rfl) ?_
  intro p e s m below meth c ls F hr hlk hnm hex hE hW hl
  have hx := F.1
  have hb := F.2.1
  have hS : va_S A s.heap s.heap [] := va_S.rf
  have hl : lv_has ls 7 [(0, .ref (ad (0, 0))), (1, .ref (ad (1, pp))), (2, .int (nI x)), (3, .int (nI vv)), (4, .null)] := hl
  obtain ⟨u1, u2, u3, u4, u5, u6⟩ := pg_bd hP hb9 hA.1
  have h4 := pgi_s4 hP hb9 hA.1
  obtain ⟨hfr1, hfr2, hfr3⟩ := fr_spec hP hb9
  have hx9 : x < 200 := by omega
  have hH0 := hH
  obtain ⟨kf1, vf1, cf1, ta1, hPp1, hCp1, hTp1⟩ := hH.2.2.2.2.2.2.1 pp hA.1
  have hK := keep_ins hP hb9 hA hx1 hx2 hx3 hv9 (fun h => absurd h (by omega))
  refine lv_aload_n hx hb dX2_addTo_0 rfl (lv_at hl 1 rfl) ?_
  refine kg F hE hW (1, pp) hPp1.1.1 rfl hPp1.2.1 rfl inA_X1 6 (by decide) kw_73 (v := .int (nI (sz pp))) rfl dX2_addTo_1 ?_
  refine lv_iconst (v := nI 4) hx hb dX2_addTo_4 (by decide) ?_
  refine nc_ge (tgt := 18) hx hb dX2_addTo_5 (by decide) (by omega) (by omega) (fun c1 => ?_) (fun c1 => ?_)
  · refine lv_aload_n hx hb dX2_addTo_18 rfl (lv_at hl 0 rfl) ?_
    refine kc_V 0 (c_X2_lowestFreeNumber l G A ad dm ct lv lev lo hi ri sz ky vl go rt ep wq wn cn op cl ca ce kc nb hH hfr1 hfr2 (by omega)) F hE hW hS (0, 0) hH.1.1 hH.2.1 rfl [] rfl kw_163 kw_165 kp_3 kw_1 kw_166 (by decide +kernel) rfl ⟨rfl, rfl⟩ ⟨Nat.le_of_ble_eq_true rfl, Nat.le_of_ble_eq_true rfl⟩ hl.1 rfl (Nat.le_of_ble_eq_true rfl) dX2_addTo_19 ⟨Nat.le_of_ble_eq_true rfl, Nat.le_of_ble_eq_true rfl⟩ (fun _ _ _ _ _ h => h.elim) (fun v w' H locs hp hW hS => ?_)
    obtain ⟨rfl, rfl⟩ := hp
    refine lv_istore (lv' := [(5, .int (nI (fr lv))), (0, .ref (ad (0, 0))), (1, .ref (ad (1, pp))), (2, .int (nI x)), (3, .int (nI vv)), (4, .null)]) hx hb dX2_addTo_22 hl (by decide) rfl (fun ls hl => ?_)
    refine lv_iload hx hb dX2_addTo_24 (lv_at hl 0 rfl) ?_
    refine nz_lt (tgt := 39) hx hb dX2_addTo_26 (by decide) (by omega) ?_
    refine lv_iload hx hb dX2_addTo_29 (lv_at hl 0 rfl) ?_
    refine lv_aload_n hx hb dX2_addTo_31 rfl (lv_at hl 1 rfl) ?_
    refine kg F hE hW (0, 0) hH.1.1 rfl hH.2.1 rfl inA_X2 0 (by decide) kw_105 (v := .ref (ad (0, 1))) rfl dX2_addTo_32 ?_
    refine kal 2 F hE hW (0, 1) hH.1.2.1 rfl rfl hH.2.2.1 dX2_addTo_35 ?_
    refine nc_lt (tgt := 41) hx hb dX2_addTo_36 (by decide) (by omega) (by omega) (fun c2 => ?_) (fun c2 => ?_)
    · have hs4 : sz pp = 4 := by omega
      refine lv_aload_n hx hb dX2_addTo_41 rfl (lv_at hl 2 rfl) ?_
      refine lv_iload_n hx hb dX2_addTo_42 rfl (lv_at hl 3 rfl) ?_
      refine lv_iload_n hx hb dX2_addTo_43 rfl (lv_at hl 4 rfl) ?_
      refine lv_aloadN hx hb dX2_addTo_44 (lv_at hl 5 rfl) ?_
      refine kc_V 3 (c_X1_insertN l G A ad dm ct pp (lev pp) (lo pp) (sz pp) (hi pp) (rA ad ri pp) (dI go pp) ta1 kf1 vf1 cf1 hPp1 h4 (nI x) (nI vv) isPg_n (ch_pg hH hP hA hCp1)) F hE hW hS (1, pp) hPp1.1.1 hPp1.2.1 rfl [.int (nI x), .int (nI vv), .null] rfl kw_167 kw_168 kw_169 kw_5 kw_170 (by decide +kernel) rfl ⟨rfl, rfl⟩ ⟨Nat.le_of_ble_eq_true rfl, Nat.le_of_ble_eq_true rfl⟩ hl.1 rfl (Nat.le_of_ble_eq_true rfl) dX2_addTo_46 ⟨Nat.le_of_ble_eq_true rfl, Nat.le_of_ble_eq_true rfl⟩ (fun _ _ _ _ _ h => h.elim) (fun v w' H locs hp hW hS => ?_)
      obtain ⟨ct2, rfl, rfl, qz, hq, hq1, hq2, kf9, vf9, cf9, hPG, hX, hI1, hI2, hI3⟩ := hp
      obtain ⟨hH, hpc⟩ := hH.ins hP hb9 hA hx9 hx3 hCp1 hTp1 hq hq1 hq2 hPG hX hI1 hI2 hI3 (fun _ => ⟨rfl, rfl⟩) (fun h => absurd h (by omega))
      have hs5 : (va_up sz pp (sz pp + 1)) pp = 5 := by rw [va_up_self, hs4]
      obtain ⟨w1, w2, w3, w4, w5, w6⟩ := pg_bd hK hb9 hA.1
      have k3 := hpc 3 (by rw [hs5]; decide)
      have k4 := hpc 4 (by rw [hs5]; decide)
      have w34 := (hK.2.1 pp hA.1 4 (by rw [hs5]; decide)).2.2.2 3 (by decide)
      have w3 := (w6 3 (by rw [hs5]; decide)).1
      have w4 := (w6 4 (by rw [hs5]; decide)).1
      have hch := ch_pg hH hK hA hpc
      have hnd := hH.2.2.2.2.2.2.2.1 (fr lv) hfr1
      have hpm : pp ≠ fr lv := by intro e; rw [← e, hA.1] at hfr1; cases hfr1
      rw [hs4] at hPG
      refine lv_aload_n hx hb dX2_addTo_49 rfl (lv_at hl 2 rfl) ?_
      refine lv_iload hx hb dX2_addTo_50 (lv_at hl 0 rfl) ?_
      refine kc_V 1 (c_X1_split l G A ad dm ct2 pp (lev pp) (lo pp) (hi pp) (rA ad ri pp) (dI go pp) ta1 kf9 vf9 cf9 hPG (fr lv) ((insA ky pp (cnt (sz pp) (pk ky pp) (x + 1)) (sz pp) x) (5 * pp + 3)) hpm (hnd 1 (by decide) (by decide)) (hnd 2 (by decide) (by decide)) (hnd 3 (by decide) (by decide)) (hnd 4 (by decide) (by decide)) k3.1 (by rw [k3.1, k4.1]; exact (nI_ltI (by omega) (by omega)).mpr w34) (hch 3 (by rw [hs5]; decide)) (hch 4 (by rw [hs5]; decide))) F hE hW hS (1, pp) hPG.1.1 hPG.2.1 rfl [.int (nI (fr lv))] rfl kw_199 kw_200 kw_201 kw_5 kw_202 (by decide +kernel) rfl ⟨rfl, rfl⟩ ⟨Nat.le_of_ble_eq_true rfl, Nat.le_of_ble_eq_true rfl⟩ hl.1 rfl (Nat.le_of_ble_eq_true rfl) dX2_addTo_52 ⟨Nat.le_of_ble_eq_true rfl, Nat.le_of_ble_eq_true rfl⟩ (fun _ _ _ _ _ h => h.elim) (fun v w' H locs hp hW hS => ?_)
      obtain ⟨ad3, dm3, ct3, kf3, vf3, cf3, rfl, rfl, hX2, hPn, hPm, hk3, hv3, hc3⟩ := hp
      have y0 := hX2.1 (0, 0) (Or.inl rfl)
      have y1 := hX2.1 (0, 1) (Or.inl rfl)
      have hO3 := y0.2.1.trans hH.2.1
      refine lv_astore (lv' := [(6, .ref (ad3 (1, fr lv))), (5, .int (nI (fr lv))), (0, .ref (ad (0, 0))), (1, .ref (ad (1, pp))), (2, .int (nI x)), (3, .int (nI vv)), (4, .null)]) hx hb dX2_addTo_55 hl (by decide) rfl (fun ls hl => ?_)
      refine lv_aload_n hx hb dX2_addTo_57 rfl (lv_at hl 2 rfl) ?_
      refine kg F hE hW (0, 0) (y0.2.2.mpr hH.1.1) y0.1 hO3 rfl inA_X2 0 (by decide) kw_105 (v := .ref (ad (0, 1))) rfl dX2_addTo_58 ?_
      refine lv_iload hx hb dX2_addTo_61 (lv_at hl 1 rfl) ?_
      refine lv_aload hx hb dX2_addTo_63 (lv_at hl 0 rfl) ?_
      refine ks_a 2 (r := (RX1, TX1, 11)) F hE hW hS (0, 1) (y1.2.2.mpr hH.1.2.1) y1.1 rfl (y1.2.1.trans hH.2.2.1) (1, fr lv) hPm.1.1 rfl hPm.2.1 rfl (fr lv) rfl (by omega) (by decide) dX2_addTo_65 (fun ct4 H locs hW hc4 hf4 hS => ?_)
      have hR := hH.spl hK hwq hCu hrt h0 hA hs5 hfr1 hpc hTp1 hX2 hPn hPm hk3 hv3 hc3 hc4 hf4
      have hA0 : ad3 (0, 0) = ad (0, 0) := y0.1
      obtain ⟨mcx, capx, fx, hL, hLf⟩ := hR.2.2.2.2.1
      obtain ⟨hL1, hL2, Ex, hL3⟩ := hL.obj
      refine lv_aload_n hx hb dX2_addTo_66 rfl (lv_at hl 2 rfl) ?_
      refine kg F hE hW (0, 0) hR.1.1 hA0 hR.2.1 rfl inA_X2 1 (by decide) kw_106 (v := .ref (ad3 (0, 2))) rfl dX2_addTo_67 ?_
      refine lv_aload hx hb dX2_addTo_70 (lv_at hl 0 rfl) ?_
      refine kc_V 1 (c_Jx4a65c_add_9ea2d l G A ad3 dm3 ct4 mcx wn capx fx hL hwn hR.2.2.2.2.2.2.2.2 (fun j hj => by rw [hLf j hj]; exact hR.is1 (by by_cases e : wq j = fr lv; rw [e]; exact va_up_self _ _ _; rw [va_up_ne _ _ e]; exact hwq j hj)) (ad3 (1, fr lv)) (hR.is1 (va_up_self _ _ _))) F hE hW hS (0, 2) hL1 hL3 rfl [.ref (ad3 (1, fr lv))] rfl kw_209 kw_210 kw_211 kw_4 kw_212 (by decide +kernel) rfl ⟨rfl, rfl⟩ ⟨Nat.le_of_ble_eq_true rfl, Nat.le_of_ble_eq_true rfl⟩ hl.1 rfl (Nat.le_of_ble_eq_true rfl) dX2_addTo_72 ⟨Nat.le_of_ble_eq_true rfl, Nat.le_of_ble_eq_true rfl⟩ (fun _ _ _ _ _ h => h.elim) (fun v w' H locs hp hW hS => ?_)
      obtain ⟨ad5, dm5, ct5, cap5, g5, rfl, rfl, hL5, hg5, hg6, hXL⟩ := hp
      have hR2 := hR.lst (wq2 := va_up wq wn (fr lv)) hXL hL5 (fun j hj => by by_cases e : j = wn; rw [e, hg6, va_up_self]; rw [hg5 j (by omega), va_up_ne _ _ e]; exact hLf j (by omega))
      have hF9 : FH ad dm ct ad5 dm5 ct5 := ((FH.page hX).tr (FH.nx2 hX2)).tr ((FH.put (x := (0, 1)) (by decide) hf4).tr (FH.xl hXL))
      refine lv_pop hx hb dX2_addTo_75 rfl ?_
      refine lv_iconst (v := nI 1) hx hb dX2_addTo_76 (by decide) ?_
      exact kr_z F hr hlk hE hW hS (Nat.le_of_ble_eq_true rfl) (Nat.le_of_ble_eq_true rfl) rfl dX2_addTo_77 (⟨_, _, _, rfl, hF9, by rw [addS_eq hs4]; exact hR2, rfl⟩)
    · exact absurd c2 (by omega)
  · refine lv_aload_n hx hb dX2_addTo_8 rfl (lv_at hl 1 rfl) ?_
    refine lv_iload_n hx hb dX2_addTo_9 rfl (lv_at hl 2 rfl) ?_
    refine lv_iload_n hx hb dX2_addTo_10 rfl (lv_at hl 3 rfl) ?_
    refine lv_aloadN hx hb dX2_addTo_11 (lv_at hl 4 rfl) ?_
    refine kc_V 3 (c_X1_insertN l G A ad dm ct pp (lev pp) (lo pp) (sz pp) (hi pp) (rA ad ri pp) (dI go pp) ta1 kf1 vf1 cf1 hPp1 h4 (nI x) (nI vv) isPg_n (ch_pg hH hP hA hCp1)) F hE hW hS (1, pp) hPp1.1.1 hPp1.2.1 rfl [.int (nI x), .int (nI vv), .null] rfl kw_167 kw_168 kw_169 kw_5 kw_170 (by decide +kernel) rfl ⟨rfl, rfl⟩ ⟨Nat.le_of_ble_eq_true rfl, Nat.le_of_ble_eq_true rfl⟩ hl.1 rfl (Nat.le_of_ble_eq_true rfl) dX2_addTo_13 ⟨Nat.le_of_ble_eq_true rfl, Nat.le_of_ble_eq_true rfl⟩ (fun _ _ _ _ _ h => h.elim) (fun v w' H locs hp hW hS => ?_)
    obtain ⟨ct2, rfl, rfl, qz, hq, hq1, hq2, kf9, vf9, cf9, hPG, hX, hI1, hI2, hI3⟩ := hp
    obtain ⟨hH, hpc⟩ := hH.ins hP hb9 hA hx9 hx3 hCp1 hTp1 hq hq1 hq2 hPG hX hI1 hI2 hI3 (fun _ => ⟨rfl, rfl⟩) (fun h => absurd h (by omega))
    refine lv_iconst (v := nI 1) hx hb dX2_addTo_16 (by decide) ?_
    exact kr_z F hr hlk hE hW hS (Nat.le_of_ble_eq_true rfl) (Nat.le_of_ble_eq_true rfl) rfl dX2_addTo_17 (⟨_, _, _, rfl, FH.page hX, by rw [addS_lt (by omega)]; exact hH, rfl⟩)
set_option maxRecDepth 100000 in
set_option maxHeartbeats 4000000 in
theorem c_X2_addToR (l : Launch) (G : GG) (A : Nat → Prop) (ad : Lb → Nat) (dm : Lb → Prop) (ct : Lb → va_E) (lv : Nat → Bool) (lev : Nat → Nat) (lo : Nat → Nat) (hi : Nat → Nat) (ri : Nat → Option Nat) (sz : Nat → Nat) (ky : Nat → Nat) (vl : Nat → Nat) (go : Nat → Option Nat) (rt : Nat) (ep : Nat) (wq : Nat → Nat) (wn : Nat) (cn : Nat) (op : Nat → Bool) (cl : Nat → Nat) (ca : Nat → Nat) (ce : Nat → Nat) (kc : Nat) (nb : Nat) (hH : HKF G ad dm ct lv lev lo hi ri sz ky vl go rt ep wq wn cn op cl ca ce kc nb) (pp x vv t0 : Nat) (hP : PgI lv lev lo hi ri sz ky vl go rt ep nb 800) (hb9 : nb ≤ 513) (hA : Al lv go pp) (hx1 : lo pp ≤ x) (hx2 : x < hi pp) (hx3 : ∀ k, k < sz pp → ky (5 * pp + k) ≠ x) (hv9 : vv < 10000) (hwn : wn ≤ 512) (hwq : ∀ j, j < wn → lv (wq j) = true) (hCu : ∀ c, c < cn → op c = true → lv (cl c) = true) (h0 : lv 0 = true) (hrt : lv rt = true) (hl0 : 0 < lev pp) (hv2 : Al lv go vv ∧ lev vv + 1 = lev pp ∧ lo vv = x) :
    CT l yX2_addTo cX2_addTo 7 (some FieldType.boolean) { frames := 9, cells := 5, slots := 826, locals := 171 } [.ref (ad (0, 0)), .ref (ad (1, pp)), .int (nI x), .int (-1), .ref (ad (1, vv))] G A (ad, dm, ct) (fun v9 w' => ∃ ad' dm' ct', w' = (ad', dm', ct') ∧ FH ad dm ct ad' dm' ct' ∧ HK G ad' dm' ct' (addS (lv, lev, lo, hi, ri, sz, ky, vl, go, rt, ep, wq, wn, cn, op, cl, ca, ce, kc, nb) pp x vv) ∧ v9 = some (.int (nI 1))) (fun _ => False) (5) (826) := by
  refine ct_of (by decide) (Nat.le_of_ble_eq_true rfl) ?_
  intro p e s m below meth c ls F hr hlk hnm hex hE hW hl
  have hx := F.1
  have hb := F.2.1
  have hS : va_S A s.heap s.heap [] := va_S.rf
  have hl : lv_has ls 7 [(0, .ref (ad (0, 0))), (1, .ref (ad (1, pp))), (2, .int (nI x)), (3, .int (-1)), (4, .ref (ad (1, vv)))] := hl
  obtain ⟨u1, u2, u3, u4, u5, u6⟩ := pg_bd hP hb9 hA.1
  have h4 := pgi_s4 hP hb9 hA.1
  obtain ⟨hfr1, hfr2, hfr3⟩ := fr_spec hP hb9
  have hx9 : x < 200 := by omega
  have hH0 := hH
  obtain ⟨kf1, vf1, cf1, ta1, hPp1, hCp1, hTp1⟩ := hH.2.2.2.2.2.2.1 pp hA.1
  have hK := keep_ins hP hb9 hA hx1 hx2 hx3 hv9 (fun _ => hv2)
  refine lv_aload_n hx hb dX2_addTo_0 rfl (lv_at hl 1 rfl) ?_
  refine kg F hE hW (1, pp) hPp1.1.1 rfl hPp1.2.1 rfl inA_X1 6 (by decide) kw_73 (v := .int (nI (sz pp))) rfl dX2_addTo_1 ?_
  refine lv_iconst (v := nI 4) hx hb dX2_addTo_4 (by decide) ?_
  refine nc_ge (tgt := 18) hx hb dX2_addTo_5 (by decide) (by omega) (by omega) (fun c1 => ?_) (fun c1 => ?_)
  · refine lv_aload_n hx hb dX2_addTo_18 rfl (lv_at hl 0 rfl) ?_
    refine kc_V 0 (c_X2_lowestFreeNumber l G A ad dm ct lv lev lo hi ri sz ky vl go rt ep wq wn cn op cl ca ce kc nb hH hfr1 hfr2 (by omega)) F hE hW hS (0, 0) hH.1.1 hH.2.1 rfl [] rfl kw_163 kw_165 kp_3 kw_1 kw_166 (by decide +kernel) rfl ⟨rfl, rfl⟩ ⟨Nat.le_of_ble_eq_true rfl, Nat.le_of_ble_eq_true rfl⟩ hl.1 rfl (Nat.le_of_ble_eq_true rfl) dX2_addTo_19 ⟨Nat.le_of_ble_eq_true rfl, Nat.le_of_ble_eq_true rfl⟩ (fun _ _ _ _ _ h => h.elim) (fun v w' H locs hp hW hS => ?_)
    obtain ⟨rfl, rfl⟩ := hp
    refine lv_istore (lv' := [(5, .int (nI (fr lv))), (0, .ref (ad (0, 0))), (1, .ref (ad (1, pp))), (2, .int (nI x)), (3, .int (-1)), (4, .ref (ad (1, vv)))]) hx hb dX2_addTo_22 hl (by decide) rfl (fun ls hl => ?_)
    refine lv_iload hx hb dX2_addTo_24 (lv_at hl 0 rfl) ?_
    refine nz_lt (tgt := 39) hx hb dX2_addTo_26 (by decide) (by omega) ?_
    refine lv_iload hx hb dX2_addTo_29 (lv_at hl 0 rfl) ?_
    refine lv_aload_n hx hb dX2_addTo_31 rfl (lv_at hl 1 rfl) ?_
    refine kg F hE hW (0, 0) hH.1.1 rfl hH.2.1 rfl inA_X2 0 (by decide) kw_105 (v := .ref (ad (0, 1))) rfl dX2_addTo_32 ?_
    refine kal 2 F hE hW (0, 1) hH.1.2.1 rfl rfl hH.2.2.1 dX2_addTo_35 ?_
    refine nc_lt (tgt := 41) hx hb dX2_addTo_36 (by decide) (by omega) (by omega) (fun c2 => ?_) (fun c2 => ?_)
    · have hs4 : sz pp = 4 := by omega
      refine lv_aload_n hx hb dX2_addTo_41 rfl (lv_at hl 2 rfl) ?_
      refine lv_iload_n hx hb dX2_addTo_42 rfl (lv_at hl 3 rfl) ?_
      refine lv_iload_n hx hb dX2_addTo_43 rfl (lv_at hl 4 rfl) ?_
      refine lv_aload hx hb dX2_addTo_44 (lv_at hl 5 rfl) ?_
      refine kc_V 3 (c_X1_insertR l G A ad dm ct pp (lev pp) (lo pp) (sz pp) (hi pp) (rA ad ri pp) (dI go pp) ta1 kf1 vf1 cf1 hPp1 h4 (nI x) (-1) (ad (1, vv)) (hH.isP hv2.1.1) (ch_pg hH hP hA hCp1)) F hE hW hS (1, pp) hPp1.1.1 hPp1.2.1 rfl [.int (nI x), .int (-1), .ref (ad (1, vv))] rfl kw_167 kw_168 kw_169 kw_5 kw_170 (by decide +kernel) rfl ⟨rfl, rfl⟩ ⟨Nat.le_of_ble_eq_true rfl, Nat.le_of_ble_eq_true rfl⟩ hl.1 rfl (Nat.le_of_ble_eq_true rfl) dX2_addTo_46 ⟨Nat.le_of_ble_eq_true rfl, Nat.le_of_ble_eq_true rfl⟩ (fun _ _ _ _ _ h => h.elim) (fun v w' H locs hp hW hS => ?_)
      obtain ⟨ct2, rfl, rfl, qz, hq, hq1, hq2, kf9, vf9, cf9, hPG, hX, hI1, hI2, hI3⟩ := hp
      obtain ⟨hH, hpc⟩ := hH.ins hP hb9 hA hx9 hx3 hCp1 hTp1 hq hq1 hq2 hPG hX hI1 hI2 hI3 (fun h => absurd h (by omega)) (fun _ => rfl)
      have hs5 : (va_up sz pp (sz pp + 1)) pp = 5 := by rw [va_up_self, hs4]
      obtain ⟨w1, w2, w3, w4, w5, w6⟩ := pg_bd hK hb9 hA.1
      have k3 := hpc 3 (by rw [hs5]; decide)
      have k4 := hpc 4 (by rw [hs5]; decide)
      have w34 := (hK.2.1 pp hA.1 4 (by rw [hs5]; decide)).2.2.2 3 (by decide)
      have w3 := (w6 3 (by rw [hs5]; decide)).1
      have w4 := (w6 4 (by rw [hs5]; decide)).1
      have hch := ch_pg hH hK hA hpc
      have hnd := hH.2.2.2.2.2.2.2.1 (fr lv) hfr1
      have hpm : pp ≠ fr lv := by intro e; rw [← e, hA.1] at hfr1; cases hfr1
      rw [hs4] at hPG
      refine lv_aload_n hx hb dX2_addTo_49 rfl (lv_at hl 2 rfl) ?_
      refine lv_iload hx hb dX2_addTo_50 (lv_at hl 0 rfl) ?_
      refine kc_V 1 (c_X1_split l G A ad dm ct2 pp (lev pp) (lo pp) (hi pp) (rA ad ri pp) (dI go pp) ta1 kf9 vf9 cf9 hPG (fr lv) ((insA ky pp (cnt (sz pp) (pk ky pp) (x + 1)) (sz pp) x) (5 * pp + 3)) hpm (hnd 1 (by decide) (by decide)) (hnd 2 (by decide) (by decide)) (hnd 3 (by decide) (by decide)) (hnd 4 (by decide) (by decide)) k3.1 (by rw [k3.1, k4.1]; exact (nI_ltI (by omega) (by omega)).mpr w34) (hch 3 (by rw [hs5]; decide)) (hch 4 (by rw [hs5]; decide))) F hE hW hS (1, pp) hPG.1.1 hPG.2.1 rfl [.int (nI (fr lv))] rfl kw_199 kw_200 kw_201 kw_5 kw_202 (by decide +kernel) rfl ⟨rfl, rfl⟩ ⟨Nat.le_of_ble_eq_true rfl, Nat.le_of_ble_eq_true rfl⟩ hl.1 rfl (Nat.le_of_ble_eq_true rfl) dX2_addTo_52 ⟨Nat.le_of_ble_eq_true rfl, Nat.le_of_ble_eq_true rfl⟩ (fun _ _ _ _ _ h => h.elim) (fun v w' H locs hp hW hS => ?_)
      obtain ⟨ad3, dm3, ct3, kf3, vf3, cf3, rfl, rfl, hX2, hPn, hPm, hk3, hv3, hc3⟩ := hp
      have y0 := hX2.1 (0, 0) (Or.inl rfl)
      have y1 := hX2.1 (0, 1) (Or.inl rfl)
      have hO3 := y0.2.1.trans hH.2.1
      refine lv_astore (lv' := [(6, .ref (ad3 (1, fr lv))), (5, .int (nI (fr lv))), (0, .ref (ad (0, 0))), (1, .ref (ad (1, pp))), (2, .int (nI x)), (3, .int (-1)), (4, .ref (ad (1, vv)))]) hx hb dX2_addTo_55 hl (by decide) rfl (fun ls hl => ?_)
      refine lv_aload_n hx hb dX2_addTo_57 rfl (lv_at hl 2 rfl) ?_
      refine kg F hE hW (0, 0) (y0.2.2.mpr hH.1.1) y0.1 hO3 rfl inA_X2 0 (by decide) kw_105 (v := .ref (ad (0, 1))) rfl dX2_addTo_58 ?_
      refine lv_iload hx hb dX2_addTo_61 (lv_at hl 1 rfl) ?_
      refine lv_aload hx hb dX2_addTo_63 (lv_at hl 0 rfl) ?_
      refine ks_a 2 (r := (RX1, TX1, 11)) F hE hW hS (0, 1) (y1.2.2.mpr hH.1.2.1) y1.1 rfl (y1.2.1.trans hH.2.2.1) (1, fr lv) hPm.1.1 rfl hPm.2.1 rfl (fr lv) rfl (by omega) (by decide) dX2_addTo_65 (fun ct4 H locs hW hc4 hf4 hS => ?_)
      have hR := hH.spl hK hwq hCu hrt h0 hA hs5 hfr1 hpc hTp1 hX2 hPn hPm hk3 hv3 hc3 hc4 hf4
      have hA0 : ad3 (0, 0) = ad (0, 0) := y0.1
      obtain ⟨mcx, capx, fx, hL, hLf⟩ := hR.2.2.2.2.1
      obtain ⟨hL1, hL2, Ex, hL3⟩ := hL.obj
      refine lv_aload_n hx hb dX2_addTo_66 rfl (lv_at hl 2 rfl) ?_
      refine kg F hE hW (0, 0) hR.1.1 hA0 hR.2.1 rfl inA_X2 1 (by decide) kw_106 (v := .ref (ad3 (0, 2))) rfl dX2_addTo_67 ?_
      refine lv_aload hx hb dX2_addTo_70 (lv_at hl 0 rfl) ?_
      refine kc_V 1 (c_Jx4a65c_add_9ea2d l G A ad3 dm3 ct4 mcx wn capx fx hL hwn hR.2.2.2.2.2.2.2.2 (fun j hj => by rw [hLf j hj]; exact hR.is1 (by by_cases e : wq j = fr lv; rw [e]; exact va_up_self _ _ _; rw [va_up_ne _ _ e]; exact hwq j hj)) (ad3 (1, fr lv)) (hR.is1 (va_up_self _ _ _))) F hE hW hS (0, 2) hL1 hL3 rfl [.ref (ad3 (1, fr lv))] rfl kw_209 kw_210 kw_211 kw_4 kw_212 (by decide +kernel) rfl ⟨rfl, rfl⟩ ⟨Nat.le_of_ble_eq_true rfl, Nat.le_of_ble_eq_true rfl⟩ hl.1 rfl (Nat.le_of_ble_eq_true rfl) dX2_addTo_72 ⟨Nat.le_of_ble_eq_true rfl, Nat.le_of_ble_eq_true rfl⟩ (fun _ _ _ _ _ h => h.elim) (fun v w' H locs hp hW hS => ?_)
      obtain ⟨ad5, dm5, ct5, cap5, g5, rfl, rfl, hL5, hg5, hg6, hXL⟩ := hp
      have hR2 := hR.lst (wq2 := va_up wq wn (fr lv)) hXL hL5 (fun j hj => by by_cases e : j = wn; rw [e, hg6, va_up_self]; rw [hg5 j (by omega), va_up_ne _ _ e]; exact hLf j (by omega))
      have hF9 : FH ad dm ct ad5 dm5 ct5 := ((FH.page hX).tr (FH.nx2 hX2)).tr ((FH.put (x := (0, 1)) (by decide) hf4).tr (FH.xl hXL))
      refine lv_pop hx hb dX2_addTo_75 rfl ?_
      refine lv_iconst (v := nI 1) hx hb dX2_addTo_76 (by decide) ?_
      exact kr_z F hr hlk hE hW hS (Nat.le_of_ble_eq_true rfl) (Nat.le_of_ble_eq_true rfl) rfl dX2_addTo_77 (⟨_, _, _, rfl, hF9, by rw [addS_eq hs4]; exact hR2, rfl⟩)
    · exact absurd c2 (by omega)
  · refine lv_aload_n hx hb dX2_addTo_8 rfl (lv_at hl 1 rfl) ?_
    refine lv_iload_n hx hb dX2_addTo_9 rfl (lv_at hl 2 rfl) ?_
    refine lv_iload_n hx hb dX2_addTo_10 rfl (lv_at hl 3 rfl) ?_
    refine lv_aload hx hb dX2_addTo_11 (lv_at hl 4 rfl) ?_
    refine kc_V 3 (c_X1_insertR l G A ad dm ct pp (lev pp) (lo pp) (sz pp) (hi pp) (rA ad ri pp) (dI go pp) ta1 kf1 vf1 cf1 hPp1 h4 (nI x) (-1) (ad (1, vv)) (hH.isP hv2.1.1) (ch_pg hH hP hA hCp1)) F hE hW hS (1, pp) hPp1.1.1 hPp1.2.1 rfl [.int (nI x), .int (-1), .ref (ad (1, vv))] rfl kw_167 kw_168 kw_169 kw_5 kw_170 (by decide +kernel) rfl ⟨rfl, rfl⟩ ⟨Nat.le_of_ble_eq_true rfl, Nat.le_of_ble_eq_true rfl⟩ hl.1 rfl (Nat.le_of_ble_eq_true rfl) dX2_addTo_13 ⟨Nat.le_of_ble_eq_true rfl, Nat.le_of_ble_eq_true rfl⟩ (fun _ _ _ _ _ h => h.elim) (fun v w' H locs hp hW hS => ?_)
    obtain ⟨ct2, rfl, rfl, qz, hq, hq1, hq2, kf9, vf9, cf9, hPG, hX, hI1, hI2, hI3⟩ := hp
    obtain ⟨hH, hpc⟩ := hH.ins hP hb9 hA hx9 hx3 hCp1 hTp1 hq hq1 hq2 hPG hX hI1 hI2 hI3 (fun h => absurd h (by omega)) (fun _ => rfl)
    refine lv_iconst (v := nI 1) hx hb dX2_addTo_16 (by decide) ?_
    exact kr_z F hr hlk hE hW hS (Nat.le_of_ble_eq_true rfl) (Nat.le_of_ble_eq_true rfl) rfl dX2_addTo_17 (⟨_, _, _, rfl, FH.page hX, by rw [addS_lt (by omega)]; exact hH, rfl⟩)
