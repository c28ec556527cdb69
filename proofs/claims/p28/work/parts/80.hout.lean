/-! The class: taking an empty leaf out. -/
set_option maxRecDepth 100000 in
set_option maxHeartbeats 4000000 in
theorem c_X2_unlink (l : Launch) (G : GG) (A : Nat → Prop) (ad : Lb → Nat) (dm : Lb → Prop) (ct : Lb → va_E) (lv : Nat → Bool) (lev : Nat → Nat) (lo : Nat → Nat) (hi : Nat → Nat) (ri : Nat → Option Nat) (sz : Nat → Nat) (ky : Nat → Nat) (vl : Nat → Nat) (go : Nat → Option Nat) (rt : Nat) (ep : Nat) (wq : Nat → Nat) (wn : Nat) (cn : Nat) (op : Nat → Bool) (cl : Nat → Nat) (ca : Nat → Nat) (ce : Nat → Nat) (kc : Nat) (nb : Nat) (hH : HKF G ad dm ct lv lev lo hi ri sz ky vl go rt ep wq wn cn op cl ca ce kc nb) (sz0 ky0 vl0 : Nat → Nat) (xz qz : Nat) (hP : PgI lv lev lo hi ri sz0 ky0 vl0 go rt ep nb 800) (hb9 : nb ≤ 513) (hs5 : ∀ n, lv n = true → sz n ≤ 5) (hAx : Al lv go xz) (hx0 : lev xz = 0) (hlx : 0 < lo xz) (hq1 : Al lv go qz) (hq2 : ri qz = some xz) (hq3 : lev qz = 0) (hq4 : lo qz < lo xz) :
    CT l yX2_unlink cX2_unlink 3 none { frames := 0, cells := 0, slots := 0, locals := 0 } [.ref (ad (0, 0)), .ref (ad (1, xz))] G A (ad, dm, ct) (fun v w' => ∃ ct', w' = (ad, dm, ct') ∧ FH ad dm ct ad dm ct' ∧ HKF G ad dm ct' lv lev lo (va_up hi qz (hi xz)) (va_up ri qz (ri xz)) sz ky vl (va_up go xz (some ep)) rt (ep + 1) wq wn cn op cl ca ce kc nb ∧ v = none) (fun _ => False) (0) (0) := by
  refine ct_of (by decide) (Nat.le_of_ble_eq_true rfl) ?_
  intro p e s m below meth c ls F hr hlk hnm hex hE hW hl
  have hx := F.1
  have hb := F.2.1
  have hS : va_S A s.heap s.heap [] := va_S.rf
  have hl : lv_has ls 3 [(0, .ref (ad (0, 0))), (1, .ref (ad (1, xz)))] := hl
  have h00 := hP.2.2.2.2.2.2.2.2.1
  obtain ⟨kf1, vf1, cf1, ta1, hPp1, hCp1, hTp1⟩ := hH.2.2.2.2.2.2.1 0 h00.1.1
  refine lv_aload_n hx hb dX2_unlink_0 rfl (lv_at hl 0 rfl) ?_
  refine kg F hE hW (0, 0) hH.1.1 rfl hH.2.1 rfl inA_X2 3 (by decide) kw_108 (v := .ref (ad (1, 0))) rfl dX2_unlink_1 ?_
  refine lv_astore_n (lv' := [(2, .ref (ad (1, 0))), (0, .ref (ad (0, 0))), (1, .ref (ad (1, xz)))]) hx hb dX2_unlink_4 rfl hl (by decide) rfl (fun ls hl => ?_)
  suffices key9 : ∀ (d : Nat) (pg : Nat) (H : Heap) (locs : List Loc) (ls : Array Slot), (Al lv go pg ∧ lev pg = 0 ∧ lo pg ≤ lo qz) → 200 - lo pg < d → wd G A (ad, dm, ct) H → va_S A s.heap H locs → lv_has ls 3 [(2, .ref (ad (1, pg))), (0, .ref (ad (0, 0))), (1, .ref (ad (1, xz)))] → W _ l e _ s m _ below meth c H locs 0 0 _ (F0 m 5 ls []) from
    key9 201 0 _ _ ls ⟨h00.1, h00.2.1, by rw [h00.2.2]; exact Nat.zero_le _⟩ (by omega) hW hS hl
  clear hW hS hl
  intro d
  induction d with
  | zero => intro pg H locs ls hv hm; omega
  | succ d ih =>
    intro pg H locs ls hv hm hW hS hl
    obtain ⟨g1, g2, g3, g4, g5, g6⟩ := pg_bd hP hb9 hv.1.1
    obtain ⟨w1, w2, w3, w4, w5, w6⟩ := pg_bd hP hb9 hAx.1
    obtain ⟨v1, v2, v3, v4, v5, v6⟩ := pg_bd hP hb9 hq1.1
    obtain ⟨kf2, vf2, cf2, ta2, hPp2, hCp2, hTp2⟩ := hH.2.2.2.2.2.2.1 pg hv.1.1
    obtain ⟨kf3, vf3, cf3, ta3, hPp3, hCp3, hTp3⟩ := hH.2.2.2.2.2.2.1 xz hAx.1
    refine lv_aload_n hx hb dX2_unlink_5 rfl (lv_at hl 0 rfl) ?_
    refine lv_ifnull hx hb dX2_unlink_6 ?_
    refine lv_aload_n hx hb dX2_unlink_9 rfl (lv_at hl 0 rfl) ?_
    by_cases e : pg = qz
    · refine kg F hE hW (1, pg) hPp2.1.1 rfl hPp2.2.1 rfl inA_X1 8 (by decide) kw_77 (v := .ref (ad (1, xz))) (by show some (va_rf (rA ad ri pg)) = _; unfold rA; rw [e, hq2]; rfl) dX2_unlink_10 ?_
      refine lv_aload_n hx hb dX2_unlink_13 rfl (lv_at hl 2 rfl) ?_
      refine lv_acmp_ne (rx := some (ad (1, xz))) (ry := some (ad (1, xz))) (tgt := 36) hx hb dX2_unlink_14 (by decide) (fun h => absurd rfl h) (fun _ => ?_)
      have hne : xz ≠ pg := by rintro rfl; omega
      have hX : XP pg ct ct := XP.rf
      refine lv_aload_n hx hb dX2_unlink_17 rfl (lv_at hl 0 rfl) ?_
      refine lv_aload_n hx hb dX2_unlink_18 rfl (lv_at hl 2 rfl) ?_
      refine kg F hE hW (1, xz) hPp3.1.1 rfl hPp3.2.1 rfl inA_X1 7 (by decide) kw_75 (v := .int (nI (hi xz))) rfl dX2_unlink_19 ?_
      refine pg_high F hE hW hS hPp2 kw_75 dX2_unlink_22 (fun ct H locs hW hPp2 hX0 hS => ?_)
      have hX := XP.tr hX hX0
      have hPp3 := hPp3.other hX0 hne
      refine lv_aload_n hx hb dX2_unlink_25 rfl (lv_at hl 0 rfl) ?_
      refine lv_aload_n hx hb dX2_unlink_26 rfl (lv_at hl 2 rfl) ?_
      refine kg F hE hW (1, xz) hPp3.1.1 rfl hPp3.2.1 rfl inA_X1 8 (by decide) kw_77 (v := va_rf (rA ad ri xz)) rfl dX2_unlink_27 ?_
      refine pg_right (v := rA ad ri xz) rfl F hE hW hS hPp2 kw_77 dX2_unlink_30 (fun ct H locs hW hPp2 hX0 hS => ?_)
      have hX := XP.tr hX hX0
      have hH := hH.page (hi2 := va_up hi pg (hi xz)) (ri2 := va_up ri pg (ri xz)) (sz2 := sz) (ky2 := ky) (vl2 := vl) (go2 := go) hX (fun n hn hne2 => ⟨va_up_ne _ _ hne2, va_up_ne _ _ hne2, rfl, rfl, fun k hk9 => ⟨rfl, rfl⟩⟩) ⟨kf2, vf2, cf2, ta2, by rw [va_up_self]; have e9 : rA ad (va_up ri pg (ri xz)) pg = rA ad ri xz := (by unfold rA; rw [va_up_self]); rw [e9]; exact hPp2, hCp2, hTp2⟩
      have hFa := FH.page (ad := ad) (dm := dm) hX
      clear hX
      refine lv_goto (tgt := 44) hx hb dX2_unlink_33 (by decide) ?_
      obtain ⟨kf4, vf4, cf4, ta4, hPp4, hCp4, hTp4⟩ := hH.2.2.2.2.2.2.1 xz hAx.1
      have hX : XP xz ct ct := XP.rf
      refine lv_aload_n hx hb dX2_unlink_44 rfl (lv_at hl 2 rfl) ?_
      refine lv_iconst (v := nI 1) hx hb dX2_unlink_45 (by decide) ?_
      refine pg_dead F hE hW hS hPp4 kw_79 dX2_unlink_46 (fun ct H locs hW hPp4 hX0 hS => ?_)
      have hX := XP.tr hX hX0
      refine lv_aload_n hx hb dX2_unlink_49 rfl (lv_at hl 2 rfl) ?_
      refine lv_aload_n hx hb dX2_unlink_50 rfl (lv_at hl 1 rfl) ?_
      refine kg F hE hW (0, 0) hH.1.1 rfl ((hX (0, 0) (Or.inl rfl)).trans hH.2.1) rfl inA_X2 6 (by decide) kw_111 (v := .int (nI ep)) rfl dX2_unlink_51 ?_
      refine pg_tak F hE hW hS hPp4 kw_80 dX2_unlink_54 (fun ct H locs hW hPp4 hX0 hS => ?_)
      have hX := XP.tr hX hX0
      have hH := hH.page (hi2 := va_up hi pg (hi xz)) (ri2 := va_up ri pg (ri xz)) (sz2 := sz) (ky2 := ky) (vl2 := vl) (go2 := va_up go xz (some ep)) hX (fun n hn hne2 => ⟨rfl, rfl, rfl, va_up_ne _ _ hne2, fun k hk9 => ⟨rfl, rfl⟩⟩) ⟨kf4, vf4, cf4, ep, by have e9 : dI (va_up go xz (some ep)) xz = 1 := (by unfold dI; rw [va_up_self]; rfl); rw [e9]; exact hPp4, hCp4, fun e9 h9 => by rw [va_up_self] at h9; exact Option.some.inj h9⟩
      have hFb := hFa.tr (FH.page (ad := ad) (dm := dm) hX)
      refine lv_aload_n hx hb dX2_unlink_57 rfl (lv_at hl 1 rfl) ?_
      refine lv_dup hx hb dX2_unlink_58 rfl ?_
      refine kg F hE hW (0, 0) hH.1.1 rfl hH.2.1 rfl inA_X2 6 (by decide) kw_111 (v := .int (nI ep)) rfl dX2_unlink_59 ?_
      refine lv_iconst (v := nI 1) hx hb dX2_unlink_62 (by decide) ?_
      refine lv_iadd hx hb dX2_unlink_63 ?_
      refine ktop (nI_add _ _) ?_
      refine kp F hE hW hS (0, 0) hH.1.1 rfl hH.2.1 rfl inA_X2 tyX2 tyX2_ok nmX2 6 (by decide) kw_111 rfl rfl rfl (Nat.le_of_ble_eq_true rfl) dX2_unlink_64 (fun ct61 H locs hW hc61 hf61 hS => ?_)
      have hH := hH.obj hc61 hf61
      rw [e] at hH
      exact kr_v F hr hlk hE hW hS (Nat.le_of_ble_eq_true rfl) (Nat.le_of_ble_eq_true rfl) dX2_unlink_67 (⟨_, rfl, hFb.tr (FH.put (x := (0, 0)) (by decide) hf61), hH, rfl⟩)
    · have hlt : hi pg ≤ lo qz := by have := hP.2.2.2.2.1 pg qz hv.1 hq1 (hv.2.1.trans hq3.symm) e; omega
      cases hr9 : ri pg with
      | none => have := hP.2.2.1 pg hv.1.1 hr9; omega
      | some rz =>
        obtain ⟨b1, b2, b3, b4, b5⟩ := hP.2.2.2.1 pg rz hv.1.1 hr9
        refine kg F hE hW (1, pg) hPp2.1.1 rfl hPp2.2.1 rfl inA_X1 8 (by decide) kw_77 (v := .ref (ad (1, rz))) (by show some (va_rf (rA ad ri pg)) = _; unfold rA; rw [hr9]; rfl) dX2_unlink_10 ?_
        refine lv_aload_n hx hb dX2_unlink_13 rfl (lv_at hl 2 rfl) ?_
        have hne : ad (1, rz) ≠ ad (1, xz) := by
          intro h
          obtain ⟨kfr, vfr, cfr, tar, hPr, -, -⟩ := hH.2.2.2.2.2.2.1 rz b1
          have h9 := congrArg Prod.snd (hW.2.1 (1, rz) (1, xz) hPr.1.1 hPp3.1.1 h)
          exact e (left_one hP hv.1 hq1 (hr9.trans (congrArg some h9)) hq2)
        refine lv_acmp_ne (rx := some (ad (1, rz))) (ry := some (ad (1, xz))) (tgt := 36) hx hb dX2_unlink_14 (by decide) (fun _ => ?_) (fun h => absurd (Option.some.inj h) hne)
        refine lv_aload_n hx hb dX2_unlink_36 rfl (lv_at hl 0 rfl) ?_
        refine kg F hE hW (1, pg) hPp2.1.1 rfl hPp2.2.1 rfl inA_X1 8 (by decide) kw_77 (v := .ref (ad (1, rz))) (by show some (va_rf (rA ad ri pg)) = _; unfold rA; rw [hr9]; rfl) dX2_unlink_37 ?_
        refine lv_astore_n (lv' := [(2, .ref (ad (1, rz))), (0, .ref (ad (0, 0))), (1, .ref (ad (1, xz)))]) hx hb dX2_unlink_40 rfl hl (by decide) rfl (fun ls hl => ?_)
        refine lv_goto (tgt := 5) hx hb dX2_unlink_41 (by decide) ?_
        exact ih rz _ _ _ ⟨⟨b1, b4 hv.1.2⟩, by omega, by omega⟩ (by omega) hW hS (lv_sub hl [0, 1, 2] rfl)
set_option maxRecDepth 100000 in
set_option maxHeartbeats 4000000 in
theorem c_X2_takeOut (l : Launch) (G : GG) (A : Nat → Prop) (ad : Lb → Nat) (dm : Lb → Prop) (ct : Lb → va_E) (lv : Nat → Bool) (lev : Nat → Nat) (lo : Nat → Nat) (hi : Nat → Nat) (ri : Nat → Option Nat) (sz : Nat → Nat) (ky : Nat → Nat) (vl : Nat → Nat) (go : Nat → Option Nat) (rt : Nat) (ep : Nat) (wq : Nat → Nat) (wn : Nat) (cn : Nat) (op : Nat → Bool) (cl : Nat → Nat) (ca : Nat → Nat) (ce : Nat → Nat) (kc : Nat) (nb : Nat) (hH : HKF G ad dm ct lv lev lo hi ri sz ky vl go rt ep wq wn cn op cl ca ce kc nb) (t0 : Nat) (hI : InvF lv lev lo hi ri sz ky vl go rt ep wq wn cn op cl ca ce kc nb 800 t0) :
    CT l yX2_takeOut cX2_takeOut 4 (some FieldType.int) { frames := 4, cells := 0, slots := 0, locals := 89 } [.ref (ad (0, 0))] G A (ad, dm, ct) (fun v w' => ∃ ct' r', w' = (ad, dm, ct') ∧ FH ad dm ct ad dm ct' ∧ TouR (lv, lev, lo, hi, ri, sz, ky, vl, go, rt, ep, wq, wn, cn, op, cl, ca, ce, kc, nb) r' ∧ HK G ad dm ct' r'.1 ∧ v = some (.int (oI r'.2))) (fun _ => False) (0) (0) := by
  refine ct_of (by decide) (Nat.le_of_ble_eq_true rfl) ?_
  intro p e s m below meth c ls F hr hlk hnm hex hE hW hl
  have hx := F.1
  have hb := F.2.1
  have hS : va_S A s.heap s.heap [] := va_S.rf
  have hl : lv_has ls 4 [(0, .ref (ad (0, 0)))] := hl
  have hI9 := hI
  have hI0 := hI
  obtain ⟨hP, hQ, hCu, hkc, hsum, ht, hep, hkt⟩ := hI
  have hb9 : nb ≤ 513 := by omega
  have hwn9 : wn ≤ 513 := by omega
  obtain ⟨hfr1, hfr2, hfr3⟩ := fr_spec hP hb9
  have hrt := hP.2.2.2.2.2.2.2.1
  obtain ⟨r1, r2, r3, r4, r5, r6⟩ := pg_bd hP hb9 hrt.1.1
  obtain ⟨kf1, vf1, cf1, ta1, hPp1, hCp1, hTp1⟩ := hH.2.2.2.2.2.2.1 rt hrt.1.1
  refine lv_aload_n hx hb dX2_takeOut_0 rfl (lv_at hl 0 rfl) ?_
  refine kg F hE hW (0, 0) hH.1.1 rfl hH.2.1 rfl inA_X2 4 (by decide) kw_109 (v := .ref (ad (1, rt))) rfl dX2_takeOut_1 ?_
  refine kg F hE hW (1, rt) hPp1.1.1 rfl hPp1.2.1 rfl inA_X1 1 (by decide) kw_66 (v := .int (nI (lev rt))) rfl dX2_takeOut_4 ?_
  refine nz_ne (tgt := 12) hx hb dX2_takeOut_7 (by decide) (by omega) (fun c1 => ?_) (fun c1 => ?_)
  · have hAt := dnF_at hP (by decide) 2000 rt (vp_root (key := 0) (lvl := 1) hP (by omega)) (by have := mu_root hP hb9; omega)
    obtain ⟨pz, hpz⟩ : ∃ z, (dnF lev hi ri sz ky vl 0 1 2000 rt).1 = z := ⟨_, rfl⟩
    rw [hpz] at hAt
    refine lv_aload_n hx hb dX2_takeOut_12 rfl (lv_at hl 0 rfl) ?_
    refine lv_iconst (v := nI 0) hx hb dX2_takeOut_13 (by decide) ?_
    refine lv_iconst (v := nI 1) hx hb dX2_takeOut_14 (by decide) ?_
    refine kc_V 2 (c_X2_goDown l G A ad dm ct lv lev lo hi ri sz ky vl go rt ep wq wn cn op cl ca ce kc nb hH 800 0 1 hP hb9 (by decide) (by omega)) F hE hW hS (0, 0) hH.1.1 hH.2.1 rfl [.int (nI 0), .int (nI 1)] rfl kw_179 kw_181 kp_5 kw_1 kw_182 (by decide +kernel) rfl ⟨rfl, rfl⟩ ⟨Nat.le_of_ble_eq_true rfl, Nat.le_of_ble_eq_true rfl⟩ hl.1 rfl (Nat.le_of_ble_eq_true rfl) dX2_takeOut_15 ⟨Nat.le_of_ble_eq_true rfl, Nat.le_of_ble_eq_true rfl⟩ (fun _ _ _ _ _ h => h.elim) (fun v w' H locs hp hW hS => ?_)
    rw [hpz] at hp
    obtain ⟨rfl, rfl⟩ := hp
    refine lv_astore_n (lv' := [(1, .ref (ad (1, pz))), (0, .ref (ad (0, 0)))]) hx hb dX2_takeOut_18 rfl hl (by decide) rfl (fun ls hl => ?_)
    suffices key9 : ∀ (d : Nat) (pg : Nat) (H : Heap) (locs : List Loc) (ls : Array Slot), (Al lv go pg ∧ lev pg = 1 ∧ ∀ p2 j2, Cand lv lev sz vl p2 j2 → lo pg ≤ lo p2) → 200 - lo pg < d → wd G A (ad, dm, ct) H → va_S A s.heap H locs → lv_has ls 4 [(1, .ref (ad (1, pg))), (0, .ref (ad (0, 0)))] → W _ l e _ s m _ below meth c H locs 0 0 _ (F0 m 19 ls []) from
      key9 201 pz _ _ ls ⟨hAt.1, hAt.2.1, fun p2 j2 _ => by have := hAt.2.2.1; omega⟩ (by omega) hW hS hl
    clear hW hS hl
    intro d
    induction d with
    | zero => intro pg H locs ls hv hm; omega
    | succ d ih =>
      intro pg H locs ls hv hm hW hS hl
      obtain ⟨g1, g2, g3, g4, g5, g6⟩ := pg_bd hP hb9 hv.1.1
      obtain ⟨k1, k2, k3⟩ := hP.2.2.2.2.2.1 pg hv.1 (by omega)
      obtain ⟨kf2, vf2, cf2, ta2, hPp2, hCp2, hTp2⟩ := hH.2.2.2.2.2.2.1 pg hv.1.1
      refine lv_aload_n hx hb dX2_takeOut_19 rfl (lv_at hl 0 rfl) ?_
      refine lv_ifnull hx hb dX2_takeOut_20 ?_
      refine lv_aload_n hx hb dX2_takeOut_23 rfl (lv_at hl 0 rfl) ?_
      refine kc_V 0 (c_X1_placeOfEmptyLeaf l G A ad dm ct pg (lev pg) (lo pg) (sz pg) (hi pg) (rA ad ri pg) (dI go pg) ta2 kf2 vf2 cf2 hPp2 g5 (fun k => sz (vl (5 * pg + k))) (fun k hk => by obtain ⟨kfc, vfc, cfc, tac, hPc, -, -⟩ := hH.2.2.2.2.2.2.1 _ (k3 k hk).1.1; exact ⟨_, _, _, _, _, _, _, _, _, _, (hCp2 k hk).2.2 (by omega), hPc⟩) (fun k hk => by have := pgi_s5 hP (k3 k hk).1.1; omega)) F hE hW hS (1, pg) hPp2.1.1 hPp2.2.1 rfl [] rfl kw_474 kw_475 kw_476 kw_5 kw_477 (by decide +kernel) rfl ⟨rfl, rfl⟩ ⟨Nat.le_of_ble_eq_true rfl, Nat.le_of_ble_eq_true rfl⟩ hl.1 rfl (Nat.le_of_ble_eq_true rfl) dX2_takeOut_24 ⟨Nat.le_of_ble_eq_true rfl, Nat.le_of_ble_eq_true rfl⟩ (fun _ _ _ _ _ h => h.elim) (fun v w' H locs hp hW hS => ?_)
      obtain ⟨rfl, ⟨j, hj1, hj2, hj3, hj4, rfl⟩ | ⟨hno, rfl⟩⟩ := hp
      · refine lv_istore_n (lv' := [(2, .int (nI j)), (1, .ref (ad (1, pg))), (0, .ref (ad (0, 0)))]) hx hb dX2_takeOut_27 rfl hl (by decide) rfl (fun ls hl => ?_)
        refine lv_aload_n hx hb dX2_takeOut_28 rfl (lv_at hl 1 rfl) ?_
        refine lv_iload_n hx hb dX2_takeOut_29 rfl (lv_at hl 0 rfl) ?_
        refine kc_V 1 (c_X1_pageIn l G A ad dm ct pg (lev pg) (lo pg) (sz pg) (hi pg) (rA ad ri pg) (dI go pg) ta2 kf2 vf2 cf2 hPp2 g5 (nI j)) F hE hW hS (1, pg) hPp2.1.1 hPp2.2.1 rfl [.int (nI j)] rfl kw_478 kw_188 kw_189 kw_5 kw_190 (by decide +kernel) rfl ⟨rfl, rfl⟩ ⟨Nat.le_of_ble_eq_true rfl, Nat.le_of_ble_eq_true rfl⟩ hl.1 rfl (Nat.le_of_ble_eq_true rfl) dX2_takeOut_30 ⟨Nat.le_of_ble_eq_true rfl, Nat.le_of_ble_eq_true rfl⟩ (fun _ _ _ _ _ h => h.elim) (fun v w' H locs hp hW hS => ?_)
        obtain ⟨rfl, ⟨i9, hi9, he9, rfl⟩ | ⟨rfl, hno⟩⟩ := hp
        · obtain rfl : j = i9 := nI_inj (by omega) (by omega) he9
          have hCa : Cand lv lev sz vl pg j := ⟨hv.1.1, hv.2.1, by omega, hj2, hj3⟩
          obtain ⟨-, hAx, hx0, hxl, hk0⟩ := cand_leaf hP hCa
          obtain ⟨xz, hxz⟩ : ∃ z, vl (5 * pg + j) = z := ⟨_, rfl⟩
          rw [(hCp2 j hj2).2.2 (by omega), hxz]
          rw [hxz] at hAx hx0 hxl
          have hmin : ∀ p2 j2, Cand lv lev sz vl p2 j2 → ky (5 * pg + j) ≤ ky (5 * p2 + j2) := by
            intro p2 j2 h2
            by_cases e2 : p2 = pg
            · subst e2
              rcases Nat.lt_or_ge j2 j with h3 | h3
              · exact absurd h2.2.2.2.2 (hj4 j2 h2.2.2.1 h3)
              · rcases Nat.lt_or_ge j j2 with h4 | h4
                · exact Nat.le_of_lt ((hP.2.1 p2 h2.1 j2 h2.2.2.2.1).2.2.2 j h4)
                · rw [show j2 = j by omega]; exact Nat.le_refl _
            · have h3 := hv.2.2 p2 j2 h2
              have h4 := hP.2.2.2.2.1 pg p2 hv.1 (cand_leaf hP h2).1 (by rw [hv.2.1, h2.2.1]) (fun z => e2 z.symm)
              have h5 := (hP.2.1 pg hv.1.1 j hj2).2.1
              have h6 := (hP.2.1 p2 h2.1 j2 h2.2.2.2.1).1
              have h7 := (hP.1 p2 h2.1).2.2.1
              omega
          obtain ⟨qz, hq1, hq2, hq3, hq4⟩ := left_ex hP hb9 hAx (by omega)
          have hb6 := pg_bd hP hb9 hAx.1
          refine lv_astore_n (lv' := [(3, .ref (ad (1, xz))), (2, .int (nI j)), (1, .ref (ad (1, pg))), (0, .ref (ad (0, 0)))]) hx hb dX2_takeOut_33 rfl hl (by decide) rfl (fun ls hl => ?_)
          refine lv_aload_n hx hb dX2_takeOut_34 rfl (lv_at hl 0 rfl) ?_
          refine lv_ifnull hx hb dX2_takeOut_35 ?_
          refine lv_aload_n hx hb dX2_takeOut_38 rfl (lv_at hl 2 rfl) ?_
          refine lv_iload_n hx hb dX2_takeOut_39 rfl (lv_at hl 1 rfl) ?_
          refine kc_V 1 (c_X1_removeFrom l G A ad dm ct pg (lev pg) (lo pg) (sz pg) (hi pg) (rA ad ri pg) (dI go pg) ta2 kf2 vf2 cf2 hPp2 g5 j hj2 (ch_pg hH hP hv.1 hCp2)) F hE hW hS (1, pg) hPp2.1.1 hPp2.2.1 rfl [.int (nI j)] rfl kw_380 kw_381 kw_382 kw_5 kw_383 (by decide +kernel) rfl ⟨rfl, rfl⟩ ⟨Nat.le_of_ble_eq_true rfl, Nat.le_of_ble_eq_true rfl⟩ hl.1 rfl (Nat.le_of_ble_eq_true rfl) dX2_takeOut_40 ⟨Nat.le_of_ble_eq_true rfl, Nat.le_of_ble_eq_true rfl⟩ (fun _ _ _ _ _ h => h.elim) (fun v w' H locs hp hW hS => ?_)
          obtain ⟨ct2, rfl, rfl, kf9, vf9, cf9, hPG, hX, hD1, hD2, hD3⟩ := hp
          have hH := hH.del hP hb9 hv.1.1 hCp2 hTp2 hj2 hPG hX hD1 hD2 hD3
          refine lv_aload_n hx hb dX2_takeOut_43 rfl (lv_at hl 3 rfl) ?_
          refine lv_aload_n hx hb dX2_takeOut_44 rfl (lv_at hl 0 rfl) ?_
          refine kc_V 1 (c_X2_unlink l G A ad dm ct2 lv lev lo hi ri (va_up sz pg (sz pg - 1)) (delA ky pg j (sz pg)) (delA vl pg j (sz pg)) go rt ep wq wn cn op cl ca ce kc nb hH sz ky vl xz qz hP hb9 (fun n hn => by by_cases e : n = pg; rw [e, va_up_self]; omega; rw [va_up_ne _ _ e]; exact pgi_s5 hP hn) hAx hx0 (by omega) hq1 hq2 (hq3.trans hx0) hq4) F hE hW hS (0, 0) hH.1.1 hH.2.1 rfl [.ref (ad (1, xz))] rfl kw_479 kw_481 kp_13 kw_1 kw_482 (by decide +kernel) rfl ⟨rfl, rfl⟩ ⟨Nat.le_of_ble_eq_true rfl, Nat.le_of_ble_eq_true rfl⟩ hl.1 rfl (Nat.le_of_ble_eq_true rfl) dX2_takeOut_45 ⟨Nat.le_of_ble_eq_true rfl, Nat.le_of_ble_eq_true rfl⟩ (fun _ _ _ _ _ h => h.elim) (fun v w' H locs hp hW hS => ?_)
          obtain ⟨ct3, rfl, hF, hH, rfl⟩ := hp
          obtain ⟨kf3, vf3, cf3, ta3, hPp3, hCp3, hTp3⟩ := hH.2.2.2.2.2.2.1 xz hAx.1
          refine lv_aload_n hx hb dX2_takeOut_48 rfl (lv_at hl 0 rfl) ?_
          refine kg F hE hW (1, xz) hPp3.1.1 rfl hPp3.2.1 rfl inA_X1 0 (by decide) kw_64 (v := .int (nI xz)) rfl dX2_takeOut_49 ?_
          have hR : HK G ad dm ct3 (touS (lv, lev, lo, hi, ri, sz, ky, vl, go, rt, ep, wq, wn, cn, op, cl, ca, ce, kc, nb) pg j qz) := by unfold touS HK; dsimp only; rw [hxz]; exact hH
          exact kr_i F hr hlk hE hW hS (Nat.le_of_ble_eq_true rfl) (Nat.le_of_ble_eq_true rfl) dX2_takeOut_52 (⟨_, (touS (lv, lev, lo, hi, ri, sz, ky, vl, go, rt, ep, wq, wn, cn, op, cl, ca, ce, kc, nb) pg j qz, some (vl (5 * pg + j))), rfl, (FH.page hX).tr hF, Or.inl ⟨pg, j, qz, hCa, hmin, hq1, by rw [hxz]; exact hq2, rfl⟩, hR, by dsimp only; rw [hxz]; rfl⟩)
        · exact absurd rfl (hno j hj2)
      · refine lv_istore_n (lv' := [(2, .int (-1)), (1, .ref (ad (1, pg))), (0, .ref (ad (0, 0)))]) hx hb dX2_takeOut_27 rfl hl (by decide) rfl (fun ls hl => ?_)
        refine lv_aload_n hx hb dX2_takeOut_28 rfl (lv_at hl 1 rfl) ?_
        refine lv_iload_n hx hb dX2_takeOut_29 rfl (lv_at hl 0 rfl) ?_
        refine kc_V 1 (c_X1_pageIn l G A ad dm ct pg (lev pg) (lo pg) (sz pg) (hi pg) (rA ad ri pg) (dI go pg) ta2 kf2 vf2 cf2 hPp2 g5 (-1)) F hE hW hS (1, pg) hPp2.1.1 hPp2.2.1 rfl [.int (-1)] rfl kw_478 kw_188 kw_189 kw_5 kw_190 (by decide +kernel) rfl ⟨rfl, rfl⟩ ⟨Nat.le_of_ble_eq_true rfl, Nat.le_of_ble_eq_true rfl⟩ hl.1 rfl (Nat.le_of_ble_eq_true rfl) dX2_takeOut_30 ⟨Nat.le_of_ble_eq_true rfl, Nat.le_of_ble_eq_true rfl⟩ (fun _ _ _ _ _ h => h.elim) (fun v w' H locs hp hW hS => ?_)
        obtain ⟨rfl, ⟨i9, hi9, he9, rfl⟩ | ⟨rfl, -⟩⟩ := hp
        · exact absurd he9.symm (nI_neg (by omega))
        · refine lv_astore_nN (lv' := [(3, .null), (2, .int (-1)), (1, .ref (ad (1, pg))), (0, .ref (ad (0, 0)))]) hx hb dX2_takeOut_33 rfl hl (by decide) rfl (fun ls hl => ?_)
          refine lv_aload_nN hx hb dX2_takeOut_34 rfl (lv_at hl 0 rfl) ?_
          refine lv_ifnullN (tgt := 53) hx hb dX2_takeOut_35 (by decide) ?_
          refine lv_aload_n hx hb dX2_takeOut_53 rfl (lv_at hl 2 rfl) ?_
          have hnx : ∀ p2 j2, Cand lv lev sz vl p2 j2 → hi pg ≤ lo p2 := by
            intro p2 j2 h2
            by_cases e2 : p2 = pg
            · subst e2
              exact absurd h2.2.2.2.2 (hno j2 h2.2.2.1 h2.2.2.2.1)
            · have h3 := hv.2.2 p2 j2 h2
              have h4 := hP.2.2.2.2.1 pg p2 hv.1 (cand_leaf hP h2).1 (by rw [hv.2.1, h2.2.1]) (fun z => e2 z.symm)
              have h7 := (hP.1 p2 h2.1).2.2.1
              omega
          cases hr9 : ri pg with
          | none =>
            have hz9 := hP.2.2.1 pg hv.1.1 hr9
            refine kg F hE hW (1, pg) hPp2.1.1 rfl hPp2.2.1 rfl inA_X1 8 (by decide) kw_77 (v := .null) (by show some (va_rf (rA ad ri pg)) = _; unfold rA; rw [hr9]; rfl) dX2_takeOut_54 ?_
            refine lv_astore_nN (lv' := [(1, .null), (3, .null), (2, .int (-1)), (0, .ref (ad (0, 0)))]) hx hb dX2_takeOut_57 rfl hl (by decide) rfl (fun ls hl => ?_)
            refine lv_goto (tgt := 19) hx hb dX2_takeOut_58 (by decide) ?_
            refine lv_aload_nN hx hb dX2_takeOut_19 rfl (lv_at hl 0 rfl) ?_
            refine lv_ifnullN (tgt := 61) hx hb dX2_takeOut_20 (by decide) ?_
            refine lv_iconst (v := (-1)) hx hb dX2_takeOut_61 (by decide) ?_
            exact kr_i F hr hlk hE hW hS (Nat.le_of_ble_eq_true rfl) (Nat.le_of_ble_eq_true rfl) dX2_takeOut_62 (⟨_, ((lv, lev, lo, hi, ri, sz, ky, vl, go, rt, ep, wq, wn, cn, op, cl, ca, ce, kc, nb), none), rfl, FH.rf, Or.inr ⟨fun p9 j9 h9 => by have h1 := hnx p9 j9 h9; have h2 := (hP.1 p9 h9.1); omega, rfl⟩, hH, rfl⟩)
          | some rz =>
            obtain ⟨b1, b2, b3, b4, b5⟩ := hP.2.2.2.1 pg rz hv.1.1 hr9
            refine kg F hE hW (1, pg) hPp2.1.1 rfl hPp2.2.1 rfl inA_X1 8 (by decide) kw_77 (v := .ref (ad (1, rz))) (by show some (va_rf (rA ad ri pg)) = _; unfold rA; rw [hr9]; rfl) dX2_takeOut_54 ?_
            refine lv_astore_n (lv' := [(1, .ref (ad (1, rz))), (3, .null), (2, .int (-1)), (0, .ref (ad (0, 0)))]) hx hb dX2_takeOut_57 rfl hl (by decide) rfl (fun ls hl => ?_)
            refine lv_goto (tgt := 19) hx hb dX2_takeOut_58 (by decide) ?_
            exact ih rz _ _ _ ⟨⟨b1, b4 hv.1.2⟩, by omega, fun p2 j2 h2 => by rw [b3]; exact hnx p2 j2 h2⟩ (by omega) hW hS (lv_sub hl [0, 3] rfl)
  · refine lv_iconst (v := (-1)) hx hb dX2_takeOut_10 (by decide) ?_
    exact kr_i F hr hlk hE hW hS (Nat.le_of_ble_eq_true rfl) (Nat.le_of_ble_eq_true rfl) dX2_takeOut_11 (⟨_, ((lv, lev, lo, hi, ri, sz, ky, vl, go, rt, ep, wq, wn, cn, op, cl, ca, ce, kc, nb), none), rfl, FH.rf, Or.inr ⟨fun p9 j9 h9 => by have h1 := (hP.1 p9 h9.1).2.1; have h2 := h9.2.1; omega, rfl⟩, hH, rfl⟩)
