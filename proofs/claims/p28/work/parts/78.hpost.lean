/-! The class: posting. -/
section GRO
variable {G : GG} {ad ad3 : Lb → Nat} {dm dm3 : Lb → Prop} {ct ct3 ct5 : Lb → va_E} {lv : Nat → Bool} {lev lo hi : Nat → Nat} {ri : Nat → Option Nat} {sz ky vl : Nat → Nat} {go : Nat → Option Nat} {rt ep : Nat} {wq : Nat → Nat} {wn cn : Nat} {op : Nat → Bool} {cl ca ce : Nat → Nat} {kc nb : Nat} {w m r : Nat} {kf vf : Nat → Int32} {cf : Nat → Option Nat}
theorem isP_nx (hH : HKF G ad dm ct lv lev lo hi ri sz ky vl go rt ep wq wn cn op cl ca ce kc nb) (hX : NX m ad dm ct ad3 dm3 ct3) (hv : lv r = true) (hm : lv m = false) : isPg ad3 dm3 ct3 (some (ad (1, r))) := by
  have hr : r ≠ m := by rintro rfl; rw [hv] at hm; cases hm
  have h := hX (1, r) (Or.inr (Or.inr hr))
  intro u hu
  obtain ⟨kf, vf, cf, ta, a, b, d⟩ := hH.2.2.2.2.2.2.1 r hv
  exact ⟨r, _, h.2.2.mpr a.1.1, h.1.trans (Option.some.inj hu), h.2.1.trans a.2.1⟩
theorem HKF.gro (hH : HKF G ad dm ct lv lev lo hi ri sz ky vl go rt ep wq wn cn op cl ca ce kc nb) (hP : PgI lv lev lo hi ri sz ky vl go rt ep nb 800) (hQ : ∀ j, j < wn → lv (wq j) = true) (hCu : ∀ c, c < cn → op c = true → lv (cl c) = true) (hrt : lv rt = true) (h0 : lv 0 = true) (hw : lv w = true) (hl : lev w = lev rt) (hm : lv m = false)
    (hX : NX m ad dm ct ad3 dm3 ct3) (hPm : PG G ad3 dm3 ct3 m (lev rt + 1) 0 2 200 none 0 0 kf vf cf) (k0 : kf 0 = nI 0) (k1 : kf 1 = nI (lo w)) (c0 : cf 0 = some (ad (1, rt))) (c1 : cf 1 = some (ad (1, w)))
    (h01 : ct5 (0, 1) = .inl (G.2.1 2, 1024, .inr (.inr (.inr (.inr (va_up (pfA ad lv) m (some (ad3 (1, m))))))))) (h00 : ct5 (0, 0) = .inr (3, [.ref (ad (0, 1)), .ref (ad (0, 2)), .ref (ad (0, 4)), .ref (ad (1, 0)), .ref (ad3 (1, m)), .int (nI kc), .int (nI ep), .int (nI cn)])) (hf : ∀ z, z ≠ (0, 1) → z ≠ (0, 0) → ct5 z = ct3 z) :
    HKF G ad3 dm3 ct5 (va_up lv m true) (va_up lev m (lev w + 1)) (va_up lo m 0) (va_up hi m 200) (va_up ri m none) (va_up sz m 2) (va_up (va_up ky (5 * m) 0) (5 * m + 1) (lo w)) (va_up (va_up vl (5 * m) rt) (5 * m + 1) w) (va_up go m none) (m) ep wq wn cn op cl ca ce kc (nb + 1) := by
  have hnm : ∀ r, lv r = true → r ≠ m := by rintro r h rfl; rw [h] at hm; cases hm
  have ha : ∀ r, lv r = true → ad3 (1, r) = ad (1, r) := fun r h => (hX (1, r) (Or.inr (Or.inr (hnm r h)))).1
  have hPc := hH.2.2.2.2.2.2.1
  have hno := hH.2.2.2.2.2.2.2.1
  refine hH.gen (fun z hz => ?_) ?_ ?_ (fun n hn => ?_) (fun n hn k k1 k2 q => ?_) (fun j hj => ha _ (hQ j hj)) (fun c hc ho => ha _ (hCu c hc ho))
  · have h1 := hX z (by rcases hz with h | h <;> simp [h])
    exact ⟨h1.1, h1.2.2, fun z1 z0 => (hf z z1 z0).trans h1.2.1⟩
  · rw [h01]
    congr 7
    funext n
    by_cases e : n = m
    · subst e; rw [va_up_self, pfA_t (va_up_self _ _ _)]
    · rw [va_up_ne _ _ e]; unfold pfA; rw [va_up_ne _ _ e]
      by_cases e2 : lv n = true
      · rw [if_pos e2, if_pos e2, ha n e2]
      · rw [if_neg e2, if_neg e2]
  · rw [h00]
    unfold HO
    rw [(hX (0, 1) (Or.inl rfl)).1, (hX (0, 2) (Or.inl rfl)).1, (hX (0, 4) (Or.inl rfl)).1, ha 0 h0]
  · by_cases e : n = m
    · subst e
      refine ⟨kf, vf, cf, 0, ?_, ?_, fun e he => by rw [va_up_self] at he; cases he⟩
      · have e1 : rA ad3 (va_up ri n none) n = none := by unfold rA; rw [va_up_self]; rfl
        have e2 : dI (va_up go n none) n = 0 := by unfold dI; rw [va_up_self]; rfl
        rw [e1, e2, va_up_self, va_up_self, va_up_self, va_up_self, hl]
        exact hPm.kp5 (fun k h => hf _ (lb_ne (by omega)) (lb_ne (by omega)))
      · intro k hk9
        rw [va_up_self] at hk9
        rw [va_up_self]
        rcases (show k = 0 ∨ k = 1 by omega) with rfl | rfl
        · rw [va_up_ne _ _ (show 5 * n + 0 ≠ 5 * n + 1 by omega), va_up_ne _ _ (show 5 * n + 0 ≠ 5 * n + 1 by omega), Nat.add_zero (5 * n), va_up_self, va_up_self, k0, c0, ha rt hrt]
          exact ⟨rfl, fun h => absurd h (by omega), fun _ => rfl⟩
        · rw [va_up_self, va_up_self, k1, c1, ha w hw]
          exact ⟨rfl, fun h => absurd h (by omega), fun _ => rfl⟩
    · rw [va_up_ne _ _ e] at hn
      have h9 := pgi_s5 hP hn
      refine ((hPc n hn).kp (ad1 := ad3) (dm1 := dm3) (ct1 := ct5) (fun r h => ha r (hP.2.2.2.1 n r hn h).1) (fun k h1 h2 => ha _ ((hP.2.2.2.2.2.1 n (al_lv hP hn h2) h2).2.2 k h1).1.1) (fun k k1 k2 => ?_)).cg (va_up_ne _ _ e) (va_up_ne _ _ e) (va_up_ne _ _ e) (va_up_ne _ _ e) (va_up_ne _ _ e) (va_up_ne _ _ e) (fun k hk9 => ?_)
      · have h1 := hX (k, n) (Or.inr (Or.inr e))
        exact ⟨h1.1, (hf _ (lb_ne (by omega)) (lb_ne (by omega))).trans h1.2.1, h1.2.2⟩
      · rw [va_up_ne _ _ (by omega), va_up_ne _ _ (by omega), va_up_ne _ _ (by omega), va_up_ne _ _ (by omega)]; exact ⟨rfl, rfl⟩
  · by_cases e : n = m
    · subst e; rw [va_up_self] at hn; cases hn
    · rw [va_up_ne _ _ e] at hn
      exact hno n hn k k1 k2 ((hX (k, n) (Or.inr (Or.inr e))).2.2.mp q)
theorem posS_eq (h : lev (wq 0) = lev rt) : posS (lv, lev, lo, hi, ri, sz, ky, vl, go, rt, ep, wq, wn, cn, op, cl, ca, ce, kc, nb) = groS (popS (lv, lev, lo, hi, ri, sz, ky, vl, go, rt, ep, wq, wn, cn, op, cl, ca, ce, kc, nb)) (wq 0) (fr lv) := by
  show (if lev (wq 0) = lev rt then _ else _) = _
  rw [if_pos h]
theorem posS_ne (h : ¬ lev (wq 0) = lev rt) : posS (lv, lev, lo, hi, ri, sz, ky, vl, go, rt, ep, wq, wn, cn, op, cl, ca, ce, kc, nb) = addS (popS (lv, lev, lo, hi, ri, sz, ky, vl, go, rt, ep, wq, wn, cn, op, cl, ca, ce, kc, nb)) (dnF lev hi ri sz ky vl (lo (wq 0)) (lev (wq 0) + 1) 2000 rt).1 (lo (wq 0)) (wq 0) := by
  show (if lev (wq 0) = lev rt then _ else _) = _
  rw [if_neg h]; rfl
end GRO
set_option maxRecDepth 100000 in
set_option maxHeartbeats 4000000 in
theorem c_X2_growRoot (l : Launch) (G : GG) (A : Nat → Prop) (ad : Lb → Nat) (dm : Lb → Prop) (ct : Lb → va_E) (lv : Nat → Bool) (lev : Nat → Nat) (lo : Nat → Nat) (hi : Nat → Nat) (ri : Nat → Option Nat) (sz : Nat → Nat) (ky : Nat → Nat) (vl : Nat → Nat) (go : Nat → Option Nat) (rt : Nat) (ep : Nat) (wq : Nat → Nat) (wn : Nat) (cn : Nat) (op : Nat → Bool) (cl : Nat → Nat) (ca : Nat → Nat) (ce : Nat → Nat) (kc : Nat) (nb : Nat) (hH : HKF G ad dm ct lv lev lo hi ri sz ky vl go rt ep wq wn cn op cl ca ce kc nb) (ww : Nat) (hP : PgI lv lev lo hi ri sz ky vl go rt ep nb 800) (hb9 : nb ≤ 513) (hwq : ∀ j, j < wn → lv (wq j) = true) (hCu : ∀ c, c < cn → op c = true → lv (cl c) = true) (hA : Al lv go ww) (hwr : ww ≠ rt) (hlw : lev ww = lev rt) :
    CT l yX2_growRoot cX2_growRoot 4 none { frames := 2, cells := 4, slots := 26, locals := 47 } [.ref (ad (0, 0)), .ref (ad (1, ww))] G A (ad, dm, ct) (fun v w' => ∃ ad' dm' ct', w' = (ad', dm', ct') ∧ FH ad dm ct ad' dm' ct' ∧ HK G ad' dm' ct' (groS (lv, lev, lo, hi, ri, sz, ky, vl, go, rt, ep, wq, wn, cn, op, cl, ca, ce, kc, nb) ww (fr lv)) ∧ v = none) (fun _ => False) (4) (26) := by
  refine ct_of (by decide) (Nat.le_of_ble_eq_true rfl) ?_
  intro p e s m below meth c ls F hr hlk hnm hex hE hW hl
  have hx := F.1
  have hb := F.2.1
  have hS : va_S A s.heap s.heap [] := va_S.rf
  have hl : lv_has ls 4 [(0, .ref (ad (0, 0))), (1, .ref (ad (1, ww)))] := hl
  obtain ⟨hfr1, hfr2, hfr3⟩ := fr_spec hP hb9
  have hrt := hP.2.2.2.2.2.2.2.1.1
  have hrt0 := hP.2.2.2.2.2.2.2.1.2
  have h00 := hP.2.2.2.2.2.2.2.2.1.1.1
  obtain ⟨u1, u2, u3, u4, u5, u6⟩ := pg_bd hP hb9 hA.1
  obtain ⟨r1, r2, r3, r4, r5, r6⟩ := pg_bd hP hb9 hrt.1
  have hlo : 0 < lo ww := by have := hP.2.2.2.2.1 ww rt hA hrt hlw hwr; omega
  have hnd := hH.2.2.2.2.2.2.2.1 (fr lv) hfr1
  have hnm : ∀ r, lv r = true → r ≠ fr lv := by rintro r h rfl; rw [h] at hfr1; cases hfr1
  obtain ⟨m9, hm9⟩ : ∃ m9, fr lv = m9 := ⟨_, rfl⟩
  refine lv_aload_n hx hb dX2_growRoot_0 rfl (lv_at hl 0 rfl) ?_
  refine kc_V 0 (c_X2_lowestFreeNumber l G A ad dm ct lv lev lo hi ri sz ky vl go rt ep wq wn cn op cl ca ce kc nb hH hfr1 hfr2 (by omega)) F hE hW hS (0, 0) hH.1.1 hH.2.1 rfl [] rfl kw_163 kw_165 kp_3 kw_1 kw_166 (by decide +kernel) rfl ⟨rfl, rfl⟩ ⟨Nat.le_of_ble_eq_true rfl, Nat.le_of_ble_eq_true rfl⟩ hl.1 rfl (Nat.le_of_ble_eq_true rfl) dX2_growRoot_1 ⟨Nat.le_of_ble_eq_true rfl, Nat.le_of_ble_eq_true rfl⟩ (fun _ _ _ _ _ h => h.elim) (fun v w' H locs hp hW hS => ?_)
  rw [hm9] at hp hfr1 hfr3 hnd hnm ⊢
  obtain ⟨rfl, rfl⟩ := hp
  refine lv_istore_n (lv' := [(2, .int (nI m9)), (0, .ref (ad (0, 0))), (1, .ref (ad (1, ww)))]) hx hb dX2_growRoot_4 rfl hl (by decide) rfl (fun ls hl => ?_)
  refine lv_iload_n hx hb dX2_growRoot_5 rfl (lv_at hl 0 rfl) ?_
  refine nz_lt (tgt := 18) hx hb dX2_growRoot_6 (by decide) (by omega) ?_
  refine lv_iload_n hx hb dX2_growRoot_9 rfl (lv_at hl 0 rfl) ?_
  refine lv_aload_n hx hb dX2_growRoot_10 rfl (lv_at hl 1 rfl) ?_
  refine kg F hE hW (0, 0) hH.1.1 rfl hH.2.1 rfl inA_X2 0 (by decide) kw_105 (v := .ref (ad (0, 1))) rfl dX2_growRoot_11 ?_
  refine kal 2 F hE hW (0, 1) hH.1.2.1 rfl rfl hH.2.2.1 dX2_growRoot_14 ?_
  refine nc_lt (tgt := 19) hx hb dX2_growRoot_15 (by decide) (by omega) (by omega) (fun c2 => ?_) (fun c2 => ?_)
  · obtain ⟨kf1, vf1, cf1, ta1, hPp1, hCp1, hTp1⟩ := hH.2.2.2.2.2.2.1 rt hrt.1
    obtain ⟨kf2, vf2, cf2, ta2, hPp2, hCp2, hTp2⟩ := hH.2.2.2.2.2.2.1 ww hA.1
    refine no (ci := 2) F hE hW hS (1, m9) (hnd 1 (by decide) (by decide)) rfl inA_X1 tyX1 tyX1_ok kw_27 kw_57 kw_5 [.int 0, .int 0, .int 0, .null, .null, .null, .int 0, .int 0, .null, .int 0, .int 0] (fun j hj => by rcases (show j = 0 ∨ j = 1 ∨ j = 2 ∨ j = 3 ∨ j = 4 ∨ j = 5 ∨ j = 6 ∨ j = 7 ∨ j = 8 ∨ j = 9 ∨ j = 10 by omega) with rfl | rfl | rfl | rfl | rfl | rfl | rfl | rfl | rfl | rfl | rfl <;> rfl) (Nat.le_of_ble_eq_true rfl) (Nat.le_of_ble_eq_true rfl) dX2_growRoot_19 (fun ad1 dm1 ct1 H hW hN1 hS => ?_)
    have hX1 := NX.ofN (by decide) (by decide) hN1
    have y0 := hX1 (0, 0) (Or.inl rfl)
    have yr := hX1 (1, rt) (Or.inr (Or.inr (hnm rt hrt.1)))
    refine lv_dup hx hb dX2_growRoot_22 rfl ?_
    refine lv_iload_n hx hb dX2_growRoot_23 rfl (lv_at hl 0 rfl) ?_
    refine lv_aload_n hx hb dX2_growRoot_24 rfl (lv_at hl 1 rfl) ?_
    refine kg F hE hW (0, 0) (y0.2.2.mpr hH.1.1) y0.1 (y0.2.1.trans hH.2.1) rfl inA_X2 4 (by decide) kw_109 (v := .ref (ad (1, rt))) rfl dX2_growRoot_25 ?_
    refine kg F hE hW (1, rt) (yr.2.2.mpr hPp1.1.1) yr.1 (yr.2.1.trans hPp1.2.1) rfl inA_X1 1 (by decide) kw_66 (v := .int (nI (lev rt))) rfl dX2_growRoot_28 ?_
    refine lv_iconst (v := nI 1) hx hb dX2_growRoot_31 (by decide) ?_
    refine lv_iadd hx hb dX2_growRoot_32 ?_
    refine ktop (nI_add _ _) ?_
    refine lv_iconst (v := nI 0) hx hb dX2_growRoot_33 (by decide) ?_
    refine lv_sipush (v := nI 200) hx hb dX2_growRoot_34 (by decide) ?_
    refine kc_I 4 (c_X1_init l G A ad1 dm1 ct1 m9 (lev rt + 1) 0 200 ((hN1.2.2 _).mpr (Or.inl rfl)) hN1.2.1 (fun q => ((hN1.2.2 _).mp q).elim (lb_ne (by decide)) (hnd 2 (by decide) (by decide))) (fun q => ((hN1.2.2 _).mp q).elim (lb_ne (by decide)) (hnd 3 (by decide) (by decide))) (fun q => ((hN1.2.2 _).mp q).elim (lb_ne (by decide)) (hnd 4 (by decide) (by decide)))) (As := [.int (nI m9), .int (nI (lev rt + 1)), .int (nI 0), .int (nI 200)]) rfl F hE hW hS kw_58 kw_59 kw_5 kw_60 rfl (by decide +kernel) rfl ⟨rfl, rfl⟩ ⟨(Nat.le_of_ble_eq_true rfl), (Nat.le_of_ble_eq_true rfl)⟩ hl.1 rfl (Nat.le_of_ble_eq_true rfl) dX2_growRoot_37 ⟨(Nat.le_of_ble_eq_true rfl), (Nat.le_of_ble_eq_true rfl)⟩ (fun _ _ _ _ _ h => h.elim) (fun v w' H locs hp hW hS => ?_)
    obtain ⟨rfl, ad2, dm2, ct2, rfl, hX2, ha2, hPm⟩ := hp
    have hX := hX1.tr hX2
    have y0 := hX (0, 0) (Or.inl rfl)
    have y1 := hX (0, 1) (Or.inl rfl)
    refine lv_astore_n (lv' := [(3, .ref (ad1 (1, m9))), (2, .int (nI m9)), (0, .ref (ad (0, 0))), (1, .ref (ad (1, ww)))]) hx hb dX2_growRoot_40 rfl hl (by decide) rfl (fun ls hl => ?_)
    refine lv_aload_n hx hb dX2_growRoot_41 rfl (lv_at hl 0 rfl) ?_
    refine lv_iconst (v := nI 0) hx hb dX2_growRoot_42 (by decide) ?_
    refine lv_iconst (v := (-1)) hx hb dX2_growRoot_43 (by decide) ?_
    refine lv_aload_n hx hb dX2_growRoot_44 rfl (lv_at hl 2 rfl) ?_
    refine kg F hE hW (0, 0) (y0.2.2.mpr hH.1.1) y0.1 (y0.2.1.trans hH.2.1) rfl inA_X2 4 (by decide) kw_109 (v := .ref (ad (1, rt))) rfl dX2_growRoot_45 ?_
    refine kc_Va 3 (c_X1_insertR l G A ad2 dm2 ct2 m9 (lev rt + 1) 0 0 200 none 0 0 (fun _ => 0) (fun _ => 0) (fun _ => none) hPm (by decide) (nI 0) (-1) (ad (1, rt)) (isP_nx hH hX hrt.1 hfr1) (fun k hk => absurd hk (Nat.not_lt_zero _))) F hE hW hS (1, m9) hPm.1.1 hPm.2.1 ha2 rfl [.int (nI 0), .int (-1), .ref (ad (1, rt))] rfl kw_167 kw_168 kw_169 kw_5 kw_170 (by decide +kernel) rfl ⟨rfl, rfl⟩ ⟨Nat.le_of_ble_eq_true rfl, Nat.le_of_ble_eq_true rfl⟩ hl.1 rfl (Nat.le_of_ble_eq_true rfl) dX2_growRoot_48 ⟨Nat.le_of_ble_eq_true rfl, Nat.le_of_ble_eq_true rfl⟩ (fun _ _ _ _ _ h => h.elim) (fun v w' H locs hp hW hS => ?_)
    obtain ⟨ct3, rfl, rfl, qa, hqa, -, -, kfa, vfa, cfa, hPm, hXa, hK1, -, hC1⟩ := hp
    obtain rfl : qa = 0 := by omega
    have hX := hX.tr (NX.ofX hXa)
    have y0 := hX (0, 0) (Or.inl rfl)
    have y1 := hX (0, 1) (Or.inl rfl)
    have yw := hX (1, ww) (Or.inr (Or.inr (hnm ww hA.1)))
    refine lv_aload_n hx hb dX2_growRoot_51 rfl (lv_at hl 0 rfl) ?_
    refine lv_aload_n hx hb dX2_growRoot_52 rfl (lv_at hl 3 rfl) ?_
    refine kg F hE hW (1, ww) (yw.2.2.mpr hPp2.1.1) yw.1 (yw.2.1.trans hPp2.2.1) rfl inA_X1 2 (by decide) kw_68 (v := .int (nI (lo ww))) rfl dX2_growRoot_53 ?_
    refine lv_iconst (v := (-1)) hx hb dX2_growRoot_56 (by decide) ?_
    refine lv_aload_n hx hb dX2_growRoot_57 rfl (lv_at hl 3 rfl) ?_
    refine kc_Va 3 (c_X1_insertR l G A ad2 dm2 ct3 m9 (lev rt + 1) 0 (0 + 1) 200 none 0 0 kfa vfa cfa hPm (by decide) (nI (lo ww)) (-1) (ad (1, ww)) (isP_nx hH hX hA.1 hfr1) (fun k hk => by rw [show k = 0 by omega, hC1.2.1]; exact isP_nx hH hX hrt.1 hfr1)) F hE hW hS (1, m9) hPm.1.1 hPm.2.1 ha2 rfl [.int (nI (lo ww)), .int (-1), .ref (ad (1, ww))] rfl kw_167 kw_168 kw_169 kw_5 kw_170 (by decide +kernel) rfl ⟨rfl, rfl⟩ ⟨Nat.le_of_ble_eq_true rfl, Nat.le_of_ble_eq_true rfl⟩ hl.1 rfl (Nat.le_of_ble_eq_true rfl) dX2_growRoot_58 ⟨Nat.le_of_ble_eq_true rfl, Nat.le_of_ble_eq_true rfl⟩ (fun _ _ _ _ _ h => h.elim) (fun v w' H locs hp hW hS => ?_)
    obtain ⟨ct4, rfl, rfl, qb, hqb, hqb1, hqb2, kfb, vfb, cfb, hPm, hXb, hK2, -, hC2⟩ := hp
    obtain rfl : qb = 1 := by
      rcases Nat.eq_zero_or_pos qb with h | h
      · subst h; exact absurd (by rw [hK1.2.1]; exact (nI_ltI (by decide) (by omega)).mpr hlo) (hqb2 (by decide))
      · omega
    have hX := hX.tr (NX.ofX hXb)
    have y0 := hX (0, 0) (Or.inl rfl)
    have y1 := hX (0, 1) (Or.inl rfl)
    refine lv_aload_n hx hb dX2_growRoot_61 rfl (lv_at hl 2 rfl) ?_
    refine kg F hE hW (0, 0) (y0.2.2.mpr hH.1.1) y0.1 (y0.2.1.trans hH.2.1) rfl inA_X2 0 (by decide) kw_105 (v := .ref (ad (0, 1))) rfl dX2_growRoot_62 ?_
    refine lv_iload_n hx hb dX2_growRoot_65 rfl (lv_at hl 1 rfl) ?_
    refine lv_aload_n hx hb dX2_growRoot_66 rfl (lv_at hl 0 rfl) ?_
    refine ks_a 2 (r := (RX1, TX1, 11)) F hE hW hS (0, 1) (y1.2.2.mpr hH.1.2.1) y1.1 rfl (y1.2.1.trans hH.2.2.1) (1, m9) hPm.1.1 ha2 hPm.2.1 rfl m9 rfl (by omega) (by decide) dX2_growRoot_67 (fun ct5 H locs hW hc5 hf5 hS => ?_)
    refine lv_aload_n hx hb dX2_growRoot_68 rfl (lv_at hl 2 rfl) ?_
    refine lv_aload_n hx hb dX2_growRoot_69 rfl (lv_at hl 0 rfl) ?_
    refine kp F hE hW hS (0, 0) (y0.2.2.mpr hH.1.1) y0.1 ((hf5 _ (by decide)).trans (y0.2.1.trans hH.2.1)) rfl inA_X2 tyX2 tyX2_ok nmX2 4 (by decide) kw_109 rfl rfl rfl (Nat.le_of_ble_eq_true rfl) dX2_growRoot_70 (fun ct91 H locs hW hc91 hf91 hS => ?_)
    have hR := hH.gro hP hwq hCu hrt.1 h00 hA.1 hlw hfr1 hX hPm ((hK2.1 0 (by decide)).trans hK1.2.1) hK2.2.1 ((hC2.1 0 (by decide)).trans hC1.2.1) hC2.2.1 ((hf91 _ (by decide)).trans (by rw [ha2]; exact hc5)) (by rw [ha2]; exact hc91) (fun z z1 z0 => (hf91 z z0).trans (hf5 z z1))
    have hF9 : FH ad dm ct ad2 dm2 ct91 := (FH.nx hX).tr ((FH.put (x := (0, 1)) (by decide) hf5).tr (FH.put (x := (0, 0)) (by decide) hf91))
    exact kr_v F hr hlk hE hW hS (Nat.le_of_ble_eq_true rfl) (Nat.le_of_ble_eq_true rfl) dX2_growRoot_73 (⟨_, _, _, rfl, hF9, hR, rfl⟩)
  · exact absurd c2 (by omega)
set_option maxRecDepth 100000 in
set_option maxHeartbeats 4000000 in
theorem c_X2_postLongestWaiting (l : Launch) (G : GG) (A : Nat → Prop) (ad : Lb → Nat) (dm : Lb → Prop) (ct : Lb → va_E) (lv : Nat → Bool) (lev : Nat → Nat) (lo : Nat → Nat) (hi : Nat → Nat) (ri : Nat → Option Nat) (sz : Nat → Nat) (ky : Nat → Nat) (vl : Nat → Nat) (go : Nat → Option Nat) (rt : Nat) (ep : Nat) (wq : Nat → Nat) (wn : Nat) (cn : Nat) (op : Nat → Bool) (cl : Nat → Nat) (ca : Nat → Nat) (ce : Nat → Nat) (kc : Nat) (nb : Nat) (hH : HKF G ad dm ct lv lev lo hi ri sz ky vl go rt ep wq wn cn op cl ca ce kc nb) (t0 : Nat) (hI : InvF lv lev lo hi ri sz ky vl go rt ep wq wn cn op cl ca ce kc nb 800 t0) (hwn : 0 < wn) :
    CT l yX2_postLongestWaiting cX2_postLongestWaiting 2 none { frames := 10, cells := 5, slots := 826, locals := 197 } [.ref (ad (0, 0))] G A (ad, dm, ct) (fun v w' => ∃ ad' dm' ct', w' = (ad', dm', ct') ∧ FH ad dm ct ad' dm' ct' ∧ HK G ad' dm' ct' (posS (lv, lev, lo, hi, ri, sz, ky, vl, go, rt, ep, wq, wn, cn, op, cl, ca, ce, kc, nb)) ∧ v = none) (fun _ => False) (5) (826) := by
  refine ct_of (by decide) (Nat.le_of_ble_eq_true rfl) ?_
  intro p e s m below meth c ls F hr hlk hnm hex hE hW hl
  have hx := F.1
  have hb := F.2.1
  have hS : va_S A s.heap s.heap [] := va_S.rf
  have hl : lv_has ls 2 [(0, .ref (ad (0, 0)))] := hl
  have hI0 := hI
  obtain ⟨hP, hQ, hCu, hkc, hsum, ht, hep, hkt⟩ := hI
  have hb9 : nb ≤ 513 := by omega
  have hwn9 : wn ≤ 513 := by omega
  obtain ⟨hfr1, hfr2, hfr3⟩ := fr_spec hP hb9
  have hnb1 := (hP.1 0 hP.2.2.2.2.2.2.2.2.1.1.1).1
  obtain ⟨hq1, hq2, hq3, -⟩ := hQ 0 hwn
  obtain ⟨g1, g2, g3, g4, g5, g6⟩ := pg_bd hP hb9 hq1.1
  have hlq := (hP.1 _ hq1.1).2.1
  have hrt := hP.2.2.2.2.2.2.2.1.1
  have hCc : ∀ c, c < cn → op c = true → lv (cl c) = true := fun c8 h8 ho8 => ((hCu.2 c8 h8).2.2 ho8).1
  obtain ⟨mcx, capx, fx, hL, hLf⟩ := hH.2.2.2.2.1
  obtain ⟨hL1, hL2, Ex, hL3⟩ := hL.obj
  refine lv_aload_n hx hb dX2_postLongestWaiting_0 rfl (lv_at hl 0 rfl) ?_
  refine kg F hE hW (0, 0) hH.1.1 rfl hH.2.1 rfl inA_X2 1 (by decide) kw_106 (v := .ref (ad (0, 2))) rfl dX2_postLongestWaiting_1 ?_
  refine kc_V 0 (c_Jx4a65c_isEmpty_aae02 l G A ad dm ct mcx wn capx fx hL) F hE hW hS (0, 2) hL1 hL3 rfl [] rfl kw_134 kw_135 kw_136 kw_4 kw_137 (by decide +kernel) rfl ⟨rfl, rfl⟩ ⟨Nat.le_of_ble_eq_true rfl, Nat.le_of_ble_eq_true rfl⟩ hl.1 rfl (Nat.le_of_ble_eq_true rfl) dX2_postLongestWaiting_4 ⟨Nat.le_of_ble_eq_true rfl, Nat.le_of_ble_eq_true rfl⟩ (fun _ _ _ _ _ h => h.elim) (fun v w' H locs hp hW hS => ?_)
  obtain ⟨rfl, ⟨h9, -⟩ | ⟨-, rfl⟩⟩ := hp
  · omega
  · refine nz_eq (tgt := 11) hx hb dX2_postLongestWaiting_7 (by decide) (by decide) (fun c9 => ?_) (fun c9 => ?_)
    · refine lv_aload_n hx hb dX2_postLongestWaiting_11 rfl (lv_at hl 0 rfl) ?_
      refine kg F hE hW (0, 0) hH.1.1 rfl hH.2.1 rfl inA_X2 1 (by decide) kw_106 (v := .ref (ad (0, 2))) rfl dX2_postLongestWaiting_12 ?_
      refine lv_iconst (v := nI 0) hx hb dX2_postLongestWaiting_15 (by decide) ?_
      refine kc_V 1 (c_Jx4a65c_remove_915e3 l G A ad dm ct mcx wn capx fx hL hwn (fun j hj => by rw [hLf j hj]; exact hH.is1 (hQ j hj).1.1)) F hE hW hS (0, 2) hL1 hL3 rfl [.int (nI 0)] rfl kw_142 kw_143 kw_144 kw_4 kw_145 (by decide +kernel) rfl ⟨rfl, rfl⟩ ⟨Nat.le_of_ble_eq_true rfl, Nat.le_of_ble_eq_true rfl⟩ hl.1 rfl (Nat.le_of_ble_eq_true rfl) dX2_postLongestWaiting_16 ⟨Nat.le_of_ble_eq_true rfl, Nat.le_of_ble_eq_true rfl⟩ (fun _ _ _ _ _ h => h.elim) (fun v w' H locs hp hW hS => ?_)
      obtain ⟨ct2, f2, rfl, rfl, hL2, hf2, hXL⟩ := hp
      have hH := hH.lst (wq2 := fun i => if i < wn - 1 then wq (i + 1) else wq i) (wn2 := wn - 1) (XL.ofc hXL) hL2 (fun j hj => by rw [hf2 j hj, if_pos hj]; exact hLf (j + 1) (by omega))
      rw [hLf 0 hwn]
      obtain ⟨kf1, vf1, cf1, ta1, hPp1, hCp1, hTp1⟩ := hH.2.2.2.2.2.2.1 (wq 0) hq1.1
      obtain ⟨kf2, vf2, cf2, ta2, hPp2, hCp2, hTp2⟩ := hH.2.2.2.2.2.2.1 rt hrt.1
      refine va_castS (nm := RX1) F.1 F.2.1 F.2.2.2.1 (F.2.2.2.2 _ kw_27) (hE.1.1 2 (RX1, TX1, 11) rfl).2 (wd_recv hE.1 hW (x := (1, wq 0)) hPp1.1.1 hPp1.2.1 rfl) dX2_postLongestWaiting_19 ?_
      have hQQ : ∀ j, j < wn - 1 → lv ((fun i => if i < wn - 1 then wq (i + 1) else wq i) j) = true := fun j hj => by dsimp only; rw [if_pos hj]; exact (hQ (j + 1) (by omega)).1.1
      have hFp : FH ad dm ct ad dm ct2 := FH.xlc hXL
      have rb := pg_bd hP hb9 hrt.1
      refine lv_astore_n (lv' := [(1, .ref (ad (1, wq 0))), (0, .ref (ad (0, 0)))]) hx hb dX2_postLongestWaiting_22 rfl hl (by decide) rfl (fun ls hl => ?_)
      refine lv_aload_n hx hb dX2_postLongestWaiting_23 rfl (lv_at hl 0 rfl) ?_
      refine kg F hE hW (1, wq 0) hPp1.1.1 rfl hPp1.2.1 rfl inA_X1 1 (by decide) kw_66 (v := .int (nI (lev (wq 0)))) rfl dX2_postLongestWaiting_24 ?_
      refine lv_aload_n hx hb dX2_postLongestWaiting_27 rfl (lv_at hl 1 rfl) ?_
      refine kg F hE hW (0, 0) hH.1.1 rfl hH.2.1 rfl inA_X2 4 (by decide) kw_109 (v := .ref (ad (1, rt))) rfl dX2_postLongestWaiting_28 ?_
      refine kg F hE hW (1, rt) hPp2.1.1 rfl hPp2.2.1 rfl inA_X1 1 (by decide) kw_66 (v := .int (nI (lev rt))) rfl dX2_postLongestWaiting_31 ?_
      refine nc_ne (tgt := 45) hx hb dX2_postLongestWaiting_34 (by decide) (by omega) (by have := rb.2.1; omega) (fun c3 => ?_) (fun c3 => ?_)
      · have hl1 : lev (wq 0) + 1 ≤ lev rt := by omega
        have hAt := dnF_at hP (by omega) 2000 rt (vp_root (key := lo (wq 0)) (lvl := lev (wq 0) + 1) hP hl1) (by have := mu_root hP hb9; omega)
        obtain ⟨pz, hpz⟩ : ∃ z, (dnF lev hi ri sz ky vl (lo (wq 0)) (lev (wq 0) + 1) 2000 rt).1 = z := ⟨_, rfl⟩
        rw [hpz] at hAt
        refine lv_aload_n hx hb dX2_postLongestWaiting_45 rfl (lv_at hl 1 rfl) ?_
        refine lv_aload_n hx hb dX2_postLongestWaiting_46 rfl (lv_at hl 1 rfl) ?_
        refine lv_aload_n hx hb dX2_postLongestWaiting_47 rfl (lv_at hl 0 rfl) ?_
        refine kg F hE hW (1, wq 0) hPp1.1.1 rfl hPp1.2.1 rfl inA_X1 2 (by decide) kw_68 (v := .int (nI (lo (wq 0)))) rfl dX2_postLongestWaiting_48 ?_
        refine lv_aload_n hx hb dX2_postLongestWaiting_51 rfl (lv_at hl 0 rfl) ?_
        refine kg F hE hW (1, wq 0) hPp1.1.1 rfl hPp1.2.1 rfl inA_X1 1 (by decide) kw_66 (v := .int (nI (lev (wq 0)))) rfl dX2_postLongestWaiting_52 ?_
        refine lv_iconst (v := nI 1) hx hb dX2_postLongestWaiting_55 (by decide) ?_
        refine lv_iadd hx hb dX2_postLongestWaiting_56 ?_
        refine ktop (nI_add _ _) ?_
        refine kc_V 2 (c_X2_goDown l G A ad dm ct2 lv lev lo hi ri sz ky vl go rt ep (fun i => if i < wn - 1 then wq (i + 1) else wq i) (wn - 1) cn op cl ca ce kc nb hH 800 (lo (wq 0)) (lev (wq 0) + 1) hP hb9 (by omega) hl1) F hE hW hS (0, 0) hH.1.1 hH.2.1 rfl [.int (nI (lo (wq 0))), .int (nI ((lev (wq 0)) + 1))] rfl kw_179 kw_181 kp_5 kw_1 kw_182 (by decide +kernel) rfl ⟨rfl, rfl⟩ ⟨Nat.le_of_ble_eq_true rfl, Nat.le_of_ble_eq_true rfl⟩ hl.1 rfl (Nat.le_of_ble_eq_true rfl) dX2_postLongestWaiting_57 ⟨Nat.le_of_ble_eq_true rfl, Nat.le_of_ble_eq_true rfl⟩ (fun _ _ _ _ _ h => h.elim) (fun v w' H locs hp hW hS => ?_)
        rw [hpz] at hp
        obtain ⟨rfl, rfl⟩ := hp
        have hx3 : ∀ k, k < sz pz → ky (5 * pz + k) ≠ lo (wq 0) := by
          intro k hk e
          obtain ⟨b1, b2, b3⟩ := (hP.2.2.2.2.2.1 pz hAt.1 (by omega)).2.2 k hk
          have b4 := (hP.1 _ b1.1)
          have := at_one (key := lo (wq 0)) hP b1 hq1 (by omega) (by omega) (by omega) (by omega) (by omega)
          exact hq3 pz k hAt.1 (by omega) hk this
        refine lv_aload_n hx hb dX2_postLongestWaiting_60 rfl (lv_at hl 0 rfl) ?_
        refine kg F hE hW (1, wq 0) hPp1.1.1 rfl hPp1.2.1 rfl inA_X1 2 (by decide) kw_68 (v := .int (nI (lo (wq 0)))) rfl dX2_postLongestWaiting_61 ?_
        refine lv_iconst (v := (-1)) hx hb dX2_postLongestWaiting_64 (by decide) ?_
        refine lv_aload_n hx hb dX2_postLongestWaiting_65 rfl (lv_at hl 0 rfl) ?_
        refine kc_V 4 (c_X2_addToR l G A ad dm ct2 lv lev lo hi ri sz ky vl go rt ep (fun i => if i < wn - 1 then wq (i + 1) else wq i) (wn - 1) cn op cl ca ce kc nb hH pz (lo (wq 0)) (wq 0) t0 hP hb9 hAt.1 hAt.2.2.1 hAt.2.2.2 hx3 (by omega) (by omega) hQQ hCc hP.2.2.2.2.2.2.2.2.1.1.1 hrt.1 (by omega) ⟨hq1, hAt.2.1.symm, rfl⟩) F hE hW hS (0, 0) hH.1.1 hH.2.1 rfl [.ref (ad (1, pz)), .int (nI (lo (wq 0))), .int (-1), .ref (ad (1, wq 0))] rfl kw_195 kw_197 kp_6 kw_1 kw_198 (by decide +kernel) rfl ⟨rfl, rfl⟩ ⟨Nat.le_of_ble_eq_true rfl, Nat.le_of_ble_eq_true rfl⟩ hl.1 rfl (Nat.le_of_ble_eq_true rfl) dX2_postLongestWaiting_66 ⟨Nat.le_of_ble_eq_true rfl, Nat.le_of_ble_eq_true rfl⟩ (fun _ _ _ _ _ h => h.elim) (fun v w' H locs hp hW hS => ?_)
        obtain ⟨ad3, dm3, ct3, rfl, hF, hK, rfl⟩ := hp
        refine lv_pop hx hb dX2_postLongestWaiting_69 rfl ?_
        exact kr_v F hr hlk hE hW hS (Nat.le_of_ble_eq_true rfl) (Nat.le_of_ble_eq_true rfl) dX2_postLongestWaiting_70 (⟨_, _, _, rfl, hFp.tr hF, by rw [posS_ne c3, hpz]; exact hK, rfl⟩)
      · refine lv_aload_n hx hb dX2_postLongestWaiting_37 rfl (lv_at hl 1 rfl) ?_
        refine lv_aload_n hx hb dX2_postLongestWaiting_38 rfl (lv_at hl 0 rfl) ?_
        refine kc_V 1 (c_X2_growRoot l G A ad dm ct2 lv lev lo hi ri sz ky vl go rt ep (fun i => if i < wn - 1 then wq (i + 1) else wq i) (wn - 1) cn op cl ca ce kc nb hH (wq 0) hP hb9 hQQ hCc hq1 hq2 c3) F hE hW hS (0, 0) hH.1.1 hH.2.1 rfl [.ref (ad (1, wq 0))] rfl kw_159 kw_161 kp_2 kw_1 kw_162 (by decide +kernel) rfl ⟨rfl, rfl⟩ ⟨Nat.le_of_ble_eq_true rfl, Nat.le_of_ble_eq_true rfl⟩ hl.1 rfl (Nat.le_of_ble_eq_true rfl) dX2_postLongestWaiting_39 ⟨Nat.le_of_ble_eq_true rfl, Nat.le_of_ble_eq_true rfl⟩ (fun _ _ _ _ _ h => h.elim) (fun v w' H locs hp hW hS => ?_)
        obtain ⟨ad3, dm3, ct3, rfl, hF, hK, rfl⟩ := hp
        refine lv_goto (tgt := 70) hx hb dX2_postLongestWaiting_42 (by decide) ?_
        exact kr_v F hr hlk hE hW hS (Nat.le_of_ble_eq_true rfl) (Nat.le_of_ble_eq_true rfl) dX2_postLongestWaiting_70 (⟨_, _, _, rfl, hFp.tr hF, by rw [posS_eq c3]; exact hK, rfl⟩)
    · exact absurd c9 (by decide)
