/-! The reference: adding, splitting, posting, removing. -/
set_option maxRecDepth 100000 in
set_option maxHeartbeats 4000000 in
theorem c_X3_splits (l : Launch) (G : GG) (A : Nat → Prop) (ad : Lb → Nat) (dm : Lb → Prop) (ct0 : Lb → va_E) (lv : Nat → Bool) (lev : Nat → Nat) (lo : Nat → Nat) (hi : Nat → Nat) (ri : Nat → Option Nat) (sz : Nat → Nat) (ky : Nat → Nat) (vl : Nat → Nat) (go : Nat → Option Nat) (rt : Nat) (ep : Nat) (wq : Nat → Nat) (wn : Nat) (cn : Nat) (op : Nat → Bool) (cl : Nat → Nat) (ca : Nat → Nat) (ce : Nat → Nat) (kc : Nat) (nb : Nat) (th fo : Nat) (hM : MDF G ad dm ct0 lv lev lo hi ri sz ky vl go rt ep wq wn cn op cl ca ce kc nb th fo) (pg m0 : Nat) (hm0 : fr lv = m0) (hp0 : pg < 800) (hne0 : pg ≠ m0) (hwn : wn < 800) (hlv : lv (fr lv) = false) (hlt : ∀ j, j < fr lv → lv j = true) (hf8 : fr lv < 800) :
    CT l yX3_splits cX3_splits 3 none { frames := 1, cells := 0, slots := 0, locals := 25 } [.ref (ad (10, 0)), .int (nI pg)] G A (ad, dm, ct0) (fun v w' => ∃ ct', w' = (ad, dm, ct') ∧ MDF G ad dm ct' (va_up lv m0 true) (va_up lev m0 (lev pg)) (va_up lo m0 (ky (5 * pg + 3))) (va_up (va_up hi m0 (hi pg)) pg (ky (5 * pg + 3))) (va_up (va_up ri m0 (ri pg)) pg (some m0)) (va_up (va_up sz m0 2) pg 3) (va_up (va_up ky (5 * m0) (ky (5 * pg + 3))) (5 * m0 + 1) (ky (5 * pg + 4))) (va_up (va_up vl (5 * m0) (vl (5 * pg + 3))) (5 * m0 + 1) (vl (5 * pg + 4))) (va_up go m0 none) rt ep (va_up wq wn m0) (wn + 1) cn op cl ca ce kc nb th fo ∧ XM ct0 ct' ∧ v = none) (fun _ => False) (0) (0) := by
  refine ct_of (by decide) (Nat.le_of_ble_eq_true rfl) ?_
  intro p e s m below meth c ls F hr hlk hnm hex hE hW hl
  have hx := F.1
  have hb := F.2.1
  have hS : va_S A s.heap s.heap [] := va_S.rf
  have hl : lv_has ls 3 [(0, .ref (ad (10, 0))), (1, .int (nI pg))] := hl
  have hX : XM ct0 ct0 := XM.rf
  subst hm0
  refine lv_aload_n hx hb dX3_splits_0 rfl (lv_at hl 0 rfl) ?_
  refine lv_aload_n hx hb dX3_splits_1 rfl (lv_at hl 0 rfl) ?_
  refine kg F hE hW (10, 0) (hM.1 0 (by decide)) rfl hM.2.1 rfl inA_X3 2 (by decide) kw_608 (v := .ref (ad (10, 2))) rfl dX3_splits_2 ?_
  refine lv_iload_n hx hb dX3_splits_5 rfl (lv_at hl 1 rfl) ?_
  refine kl_i F hE hW (10, 2) (hM.1 2 (by decide)) rfl hM.2.2.2.1 pg rfl (by omega) (by decide) dX3_splits_6 ?_
  refine lv_aload_n hx hb dX3_splits_7 rfl (lv_at hl 0 rfl) ?_
  refine kg F hE hW (10, 0) (hM.1 0 (by decide)) rfl hM.2.1 rfl inA_X3 7 (by decide) kw_613 (v := .ref (ad (10, 7))) rfl dX3_splits_8 ?_
  refine lv_iconst (v := nI 5) hx hb dX3_splits_11 (by decide) ?_
  refine lv_iload_n hx hb dX3_splits_12 rfl (lv_at hl 1 rfl) ?_
  refine lv_imul hx hb dX3_splits_13 ?_
  refine ktop (pk_mul _ _) ?_
  refine lv_iconst (v := nI 3) hx hb dX3_splits_14 (by decide) ?_
  refine lv_iadd hx hb dX3_splits_15 ?_
  refine ktop (nI_add _ _) ?_
  refine kl_i F hE hW (10, 7) (hM.1 7 (by decide)) rfl hM.2.2.2.2.2.2.2.2.1 ((5 * pg) + 3) rfl (by omega) (by decide) dX3_splits_16 ?_
  refine lv_aload_n hx hb dX3_splits_17 rfl (lv_at hl 0 rfl) ?_
  refine kg F hE hW (10, 0) (hM.1 0 (by decide)) rfl hM.2.1 rfl inA_X3 4 (by decide) kw_610 (v := .ref (ad (10, 4))) rfl dX3_splits_18 ?_
  refine lv_iload_n hx hb dX3_splits_21 rfl (lv_at hl 1 rfl) ?_
  refine kl_i F hE hW (10, 4) (hM.1 4 (by decide)) rfl hM.2.2.2.2.2.1 pg rfl (by omega) (by decide) dX3_splits_22 ?_
  refine lv_aload_n hx hb dX3_splits_23 rfl (lv_at hl 0 rfl) ?_
  refine kg F hE hW (10, 0) (hM.1 0 (by decide)) rfl hM.2.1 rfl inA_X3 5 (by decide) kw_611 (v := .ref (ad (10, 5))) rfl dX3_splits_24 ?_
  refine lv_iload_n hx hb dX3_splits_27 rfl (lv_at hl 1 rfl) ?_
  refine kl_i F hE hW (10, 5) (hM.1 5 (by decide)) rfl hM.2.2.2.2.2.2.1 pg rfl (by omega) (by decide) dX3_splits_28 ?_
  refine kc_V 4 (c_X3_made l G A ad dm ct0 lv lev lo hi ri sz ky vl go rt ep wq wn cn op cl ca ce kc nb th fo hM (lev pg) (ky ((5 * pg) + 3)) (hi pg) (oI (ri pg)) (ri pg) rfl hlv hlt hf8) F hE hW hS (10, 0) (hM.1 0 (by decide)) hM.2.1 rfl [.int (nI (lev pg)), .int (nI (ky ((5 * pg) + 3))), .int (nI (hi pg)), .int (oI (ri pg))] rfl kw_602 kw_604 kp_15 kw_6 kw_605 (by decide +kernel) rfl ⟨rfl, rfl⟩ ⟨Nat.le_of_ble_eq_true rfl, Nat.le_of_ble_eq_true rfl⟩ hl.1 rfl (Nat.le_of_ble_eq_true rfl) dX3_splits_29 ⟨Nat.le_of_ble_eq_true rfl, Nat.le_of_ble_eq_true rfl⟩ (fun _ _ _ _ _ h => h.elim) (fun v w' H locs hp hW hS => ?_)
  obtain ⟨ct2, rfl, hM, hX0, rfl⟩ := hp
  have hX := hX.tr hX0
  refine lv_istore_n (lv' := [(2, .int (nI (fr lv))), (0, .ref (ad (10, 0))), (1, .int (nI pg))]) hx hb dX3_splits_32 rfl hl (by decide) rfl (fun ls hl => ?_)
  refine lv_aload_n hx hb dX3_splits_33 rfl (lv_at hl 1 rfl) ?_
  refine lv_iload_n hx hb dX3_splits_34 rfl (lv_at hl 0 rfl) ?_
  refine lv_iconst (v := nI 0) hx hb dX3_splits_35 (by decide) ?_
  refine lv_aload_n hx hb dX3_splits_36 rfl (lv_at hl 1 rfl) ?_
  refine kg F hE hW (10, 0) (hM.1 0 (by decide)) rfl hM.2.1 rfl inA_X3 7 (by decide) kw_613 (v := .ref (ad (10, 7))) rfl dX3_splits_37 ?_
  refine lv_iconst (v := nI 5) hx hb dX3_splits_40 (by decide) ?_
  refine lv_iload_n hx hb dX3_splits_41 rfl (lv_at hl 2 rfl) ?_
  refine lv_imul hx hb dX3_splits_42 ?_
  refine ktop (pk_mul _ _) ?_
  refine lv_iconst (v := nI 3) hx hb dX3_splits_43 (by decide) ?_
  refine lv_iadd hx hb dX3_splits_44 ?_
  refine ktop (nI_add _ _) ?_
  refine kl_i F hE hW (10, 7) (hM.1 7 (by decide)) rfl hM.2.2.2.2.2.2.2.2.1 ((5 * pg) + 3) rfl (by omega) (by decide) dX3_splits_45 ?_
  refine lv_aload_n hx hb dX3_splits_46 rfl (lv_at hl 1 rfl) ?_
  refine kg F hE hW (10, 0) (hM.1 0 (by decide)) rfl hM.2.1 rfl inA_X3 8 (by decide) kw_614 (v := .ref (ad (10, 8))) rfl dX3_splits_47 ?_
  refine lv_iconst (v := nI 5) hx hb dX3_splits_50 (by decide) ?_
  refine lv_iload_n hx hb dX3_splits_51 rfl (lv_at hl 2 rfl) ?_
  refine lv_imul hx hb dX3_splits_52 ?_
  refine ktop (pk_mul _ _) ?_
  refine lv_iconst (v := nI 3) hx hb dX3_splits_53 (by decide) ?_
  refine lv_iadd hx hb dX3_splits_54 ?_
  refine ktop (nI_add _ _) ?_
  refine kl_i F hE hW (10, 8) (hM.1 8 (by decide)) rfl hM.2.2.2.2.2.2.2.2.2.1 ((5 * pg) + 3) rfl (by omega) (by decide) dX3_splits_55 ?_
  refine kc_V 4 (c_X3_sets l G A ad dm ct2 (va_up lv (fr lv) true) (va_up lev (fr lv) (lev pg)) (va_up lo (fr lv) (ky (5 * pg + 3))) (va_up hi (fr lv) (hi pg)) (va_up ri (fr lv) (ri pg)) (va_up sz (fr lv) 0) ky vl (va_up go (fr lv) none) rt ep wq wn cn op cl ca ce kc nb th fo hM (fr lv) 0 (ky ((5 * pg) + 3)) (vl ((5 * pg) + 3)) hf8 (by decide)) F hE hW hS (10, 0) (hM.1 0 (by decide)) hM.2.1 rfl [.int (nI (fr lv)), .int (nI 0), .int (nI (ky ((5 * pg) + 3))), .int (nI (vl ((5 * pg) + 3)))] rfl kw_702 kw_704 kp_21 kw_6 kw_705 (by decide +kernel) rfl ⟨rfl, rfl⟩ ⟨Nat.le_of_ble_eq_true rfl, Nat.le_of_ble_eq_true rfl⟩ hl.1 rfl (Nat.le_of_ble_eq_true rfl) dX3_splits_56 ⟨Nat.le_of_ble_eq_true rfl, Nat.le_of_ble_eq_true rfl⟩ (fun _ _ _ _ _ h => h.elim) (fun v w' H locs hp hW hS => ?_)
  obtain ⟨ct2, rfl, hM, hX0, rfl⟩ := hp
  have hX := hX.tr hX0
  refine lv_aload_n hx hb dX3_splits_59 rfl (lv_at hl 1 rfl) ?_
  refine lv_iload_n hx hb dX3_splits_60 rfl (lv_at hl 0 rfl) ?_
  refine lv_iconst (v := nI 1) hx hb dX3_splits_61 (by decide) ?_
  refine lv_aload_n hx hb dX3_splits_62 rfl (lv_at hl 1 rfl) ?_
  refine kg F hE hW (10, 0) (hM.1 0 (by decide)) rfl hM.2.1 rfl inA_X3 7 (by decide) kw_613 (v := .ref (ad (10, 7))) rfl dX3_splits_63 ?_
  refine lv_iconst (v := nI 5) hx hb dX3_splits_66 (by decide) ?_
  refine lv_iload_n hx hb dX3_splits_67 rfl (lv_at hl 2 rfl) ?_
  refine lv_imul hx hb dX3_splits_68 ?_
  refine ktop (pk_mul _ _) ?_
  refine lv_iconst (v := nI 4) hx hb dX3_splits_69 (by decide) ?_
  refine lv_iadd hx hb dX3_splits_70 ?_
  refine ktop (nI_add _ _) ?_
  refine kl_i F hE hW (10, 7) (hM.1 7 (by decide)) rfl hM.2.2.2.2.2.2.2.2.1 ((5 * pg) + 4) rfl (by omega) (by decide) dX3_splits_71 ?_
  refine ktop (congrArg nI (va_up_ne _ _ (by omega))) ?_
  refine lv_aload_n hx hb dX3_splits_72 rfl (lv_at hl 1 rfl) ?_
  refine kg F hE hW (10, 0) (hM.1 0 (by decide)) rfl hM.2.1 rfl inA_X3 8 (by decide) kw_614 (v := .ref (ad (10, 8))) rfl dX3_splits_73 ?_
  refine lv_iconst (v := nI 5) hx hb dX3_splits_76 (by decide) ?_
  refine lv_iload_n hx hb dX3_splits_77 rfl (lv_at hl 2 rfl) ?_
  refine lv_imul hx hb dX3_splits_78 ?_
  refine ktop (pk_mul _ _) ?_
  refine lv_iconst (v := nI 4) hx hb dX3_splits_79 (by decide) ?_
  refine lv_iadd hx hb dX3_splits_80 ?_
  refine ktop (nI_add _ _) ?_
  refine kl_i F hE hW (10, 8) (hM.1 8 (by decide)) rfl hM.2.2.2.2.2.2.2.2.2.1 ((5 * pg) + 4) rfl (by omega) (by decide) dX3_splits_81 ?_
  refine ktop (congrArg nI (va_up_ne _ _ (by omega))) ?_
  refine kc_V 4 (c_X3_sets l G A ad dm ct2 (va_up lv (fr lv) true) (va_up lev (fr lv) (lev pg)) (va_up lo (fr lv) (ky (5 * pg + 3))) (va_up hi (fr lv) (hi pg)) (va_up ri (fr lv) (ri pg)) (va_up sz (fr lv) 0) (va_up ky (5 * fr lv + 0) (ky (5 * pg + 3))) (va_up vl (5 * fr lv + 0) (vl (5 * pg + 3))) (va_up go (fr lv) none) rt ep wq wn cn op cl ca ce kc nb th fo hM (fr lv) 1 (ky (5 * pg + 4)) (vl (5 * pg + 4)) hf8 (by decide)) F hE hW hS (10, 0) (hM.1 0 (by decide)) hM.2.1 rfl [.int (nI (fr lv)), .int (nI 1), .int (nI (ky (5 * pg + 4))), .int (nI (vl (5 * pg + 4)))] rfl kw_702 kw_704 kp_21 kw_6 kw_705 (by decide +kernel) rfl ⟨rfl, rfl⟩ ⟨Nat.le_of_ble_eq_true rfl, Nat.le_of_ble_eq_true rfl⟩ hl.1 rfl (Nat.le_of_ble_eq_true rfl) dX3_splits_82 ⟨Nat.le_of_ble_eq_true rfl, Nat.le_of_ble_eq_true rfl⟩ (fun _ _ _ _ _ h => h.elim) (fun v w' H locs hp hW hS => ?_)
  obtain ⟨ct2, rfl, hM, hX0, rfl⟩ := hp
  have hX := hX.tr hX0
  refine lv_aload_n hx hb dX3_splits_85 rfl (lv_at hl 1 rfl) ?_
  refine kg F hE hW (10, 0) (hM.1 0 (by decide)) rfl hM.2.1 rfl inA_X3 6 (by decide) kw_612 (v := .ref (ad (10, 6))) rfl dX3_splits_86 ?_
  refine lv_iload_n hx hb dX3_splits_89 rfl (lv_at hl 0 rfl) ?_
  refine lv_iconst (v := nI 2) hx hb dX3_splits_90 (by decide) ?_
  refine ms_sz (v := 2) F hE hW hS hM (fr lv) rfl (by omega) dX3_splits_91 (fun ct H locs hW hM hX0 hS => ?_)
  have hX := hX.tr hX0
  rw [bx_uu] at hM
  refine lv_aload_n hx hb dX3_splits_92 rfl (lv_at hl 1 rfl) ?_
  refine kg F hE hW (10, 0) (hM.1 0 (by decide)) rfl hM.2.1 rfl inA_X3 6 (by decide) kw_612 (v := .ref (ad (10, 6))) rfl dX3_splits_93 ?_
  refine lv_iload_n hx hb dX3_splits_96 rfl (lv_at hl 2 rfl) ?_
  refine lv_iconst (v := nI 3) hx hb dX3_splits_97 (by decide) ?_
  refine ms_sz (v := 3) F hE hW hS hM pg rfl (by omega) dX3_splits_98 (fun ct H locs hW hM hX0 hS => ?_)
  have hX := hX.tr hX0
  refine lv_aload_n hx hb dX3_splits_99 rfl (lv_at hl 1 rfl) ?_
  refine kg F hE hW (10, 0) (hM.1 0 (by decide)) rfl hM.2.1 rfl inA_X3 4 (by decide) kw_610 (v := .ref (ad (10, 4))) rfl dX3_splits_100 ?_
  refine lv_iload_n hx hb dX3_splits_103 rfl (lv_at hl 2 rfl) ?_
  refine lv_aload_n hx hb dX3_splits_104 rfl (lv_at hl 1 rfl) ?_
  refine kg F hE hW (10, 0) (hM.1 0 (by decide)) rfl hM.2.1 rfl inA_X3 3 (by decide) kw_609 (v := .ref (ad (10, 3))) rfl dX3_splits_105 ?_
  refine lv_iload_n hx hb dX3_splits_108 rfl (lv_at hl 0 rfl) ?_
  refine kl_i F hE hW (10, 3) (hM.1 3 (by decide)) rfl hM.2.2.2.2.1 (fr lv) rfl (by omega) (by decide) dX3_splits_109 ?_
  refine ktop (congrArg nI (va_up_self _ _ _)) ?_
  refine ms_hi (v := ky (5 * pg + 3)) F hE hW hS hM pg rfl (by omega) dX3_splits_110 (fun ct H locs hW hM hX0 hS => ?_)
  have hX := hX.tr hX0
  refine lv_aload_n hx hb dX3_splits_111 rfl (lv_at hl 1 rfl) ?_
  refine kg F hE hW (10, 0) (hM.1 0 (by decide)) rfl hM.2.1 rfl inA_X3 5 (by decide) kw_611 (v := .ref (ad (10, 5))) rfl dX3_splits_112 ?_
  refine lv_iload_n hx hb dX3_splits_115 rfl (lv_at hl 2 rfl) ?_
  refine lv_iload_n hx hb dX3_splits_116 rfl (lv_at hl 0 rfl) ?_
  refine ms_ri (v := some (fr lv)) F hE hW hS hM pg rfl (by omega) dX3_splits_117 (fun ct H locs hW hM hX0 hS => ?_)
  have hX := hX.tr hX0
  refine lv_aload_n hx hb dX3_splits_118 rfl (lv_at hl 1 rfl) ?_
  refine kg F hE hW (10, 0) (hM.1 0 (by decide)) rfl hM.2.1 rfl inA_X3 12 (by decide) kw_618 (v := .ref (ad (10, 10))) rfl dX3_splits_119 ?_
  refine lv_aload_n hx hb dX3_splits_122 rfl (lv_at hl 1 rfl) ?_
  refine kg F hE hW (10, 0) (hM.1 0 (by decide)) rfl hM.2.1 rfl inA_X3 13 (by decide) kw_619 (v := .int (nI wn)) rfl dX3_splits_123 ?_
  refine lv_iload_n hx hb dX3_splits_126 rfl (lv_at hl 0 rfl) ?_
  refine ms_wq (v := fr lv) F hE hW hS hM wn rfl (by omega) dX3_splits_127 (fun ct H locs hW hM hX0 hS => ?_)
  have hX := hX.tr hX0
  refine lv_aload_n hx hb dX3_splits_128 rfl (lv_at hl 1 rfl) ?_
  refine lv_dup hx hb dX3_splits_129 rfl ?_
  refine kg F hE hW (10, 0) (hM.1 0 (by decide)) rfl hM.2.1 rfl inA_X3 13 (by decide) kw_619 (v := .int (nI wn)) rfl dX3_splits_130 ?_
  refine lv_iconst (v := nI 1) hx hb dX3_splits_133 (by decide) ?_
  refine lv_iadd hx hb dX3_splits_134 ?_
  refine ktop (nI_add _ _) ?_
  refine mp_wn (v := wn + 1) F hE hW hS hM kw_619 dX3_splits_135 (fun ct H locs hW hM hX0 hS => ?_)
  have hX := hX.tr hX0
  exact kr_v F hr hlk hE hW hS (Nat.le_of_ble_eq_true rfl) (Nat.le_of_ble_eq_true rfl) dX3_splits_138 (⟨_, rfl, hM, hX, rfl⟩)
set_option maxRecDepth 100000 in
set_option maxHeartbeats 4000000 in
theorem c_X3_adds (l : Launch) (G : GG) (A : Nat → Prop) (ad : Lb → Nat) (dm : Lb → Prop) (ct0 : Lb → va_E) (lv : Nat → Bool) (lev : Nat → Nat) (lo : Nat → Nat) (hi : Nat → Nat) (ri : Nat → Option Nat) (sz : Nat → Nat) (ky : Nat → Nat) (vl : Nat → Nat) (go : Nat → Option Nat) (rt : Nat) (ep : Nat) (wq : Nat → Nat) (wn : Nat) (cn : Nat) (op : Nat → Bool) (cl : Nat → Nat) (ca : Nat → Nat) (ce : Nat → Nat) (kc : Nat) (nb : Nat) (th fo : Nat) (hM : MDF G ad dm ct0 lv lev lo hi ri sz ky vl go rt ep wq wn cn op cl ca ce kc nb th fo) (pg x y : Nat) (hp0 : pg < 800) (hs4 : sz pg ≤ 4) (hx9 : x < 1000) (hky : ∀ i, i < sz pg → ky (5 * pg + i) < 2 ^ 30) (hal : lv pg = true) (hwn : wn < 800) (hlv : lv (fr lv) = false) (hlt : ∀ j, j < fr lv → lv j = true) (hf8 : fr lv < 800) :
    CT l yX3_adds cX3_adds 6 none { frames := 2, cells := 0, slots := 0, locals := 47 } [.ref (ad (10, 0)), .int (nI pg), .int (nI x), .int (nI y)] G A (ad, dm, ct0) (fun v w' => ∃ ct', w' = (ad, dm, ct') ∧ MD G ad dm ct' (addS (lv, lev, lo, hi, ri, sz, ky, vl, go, rt, ep, wq, wn, cn, op, cl, ca, ce, kc, nb) pg x y) th fo ∧ XM ct0 ct' ∧ v = none) (fun _ => False) (0) (0) := by
  refine ct_of (by decide) (Nat.le_of_ble_eq_true rfl) ?_
  intro p e s m below meth c ls F hr hlk hnm hex hE hW hl
  have hx := F.1
  have hb := F.2.1
  have hS : va_S A s.heap s.heap [] := va_S.rf
  have hl : lv_has ls 6 [(0, .ref (ad (10, 0))), (1, .int (nI pg)), (2, .int (nI x)), (3, .int (nI y))] := hl
  have hX : XM ct0 ct0 := XM.rf
  refine lv_aload_n hx hb dX3_adds_0 rfl (lv_at hl 0 rfl) ?_
  refine lv_iload_n hx hb dX3_adds_1 rfl (lv_at hl 1 rfl) ?_
  refine lv_iload_n hx hb dX3_adds_2 rfl (lv_at hl 2 rfl) ?_
  refine kc_V 2 (c_X3_place l G A ad dm ct0 lv lev lo hi ri sz ky vl go rt ep wq wn cn op cl ca ce kc nb th fo hM pg (x + 1) (nI x) hp0 (by omega) (lI_s x).symm (by omega) hky) F hE hW hS (10, 0) (hM.1 0 (by decide)) hM.2.1 rfl [.int (nI pg), .int (nI x)] rfl kw_690 kw_692 kp_18 kw_6 kw_693 (by decide +kernel) rfl ⟨rfl, rfl⟩ ⟨Nat.le_of_ble_eq_true rfl, Nat.le_of_ble_eq_true rfl⟩ hl.1 rfl (Nat.le_of_ble_eq_true rfl) dX3_adds_3 ⟨Nat.le_of_ble_eq_true rfl, Nat.le_of_ble_eq_true rfl⟩ (fun _ _ _ _ _ h => h.elim) (fun v w' H locs hp hW hS => ?_)
  obtain ⟨rfl, rfl⟩ := hp
  have hcl := cnt_le (sz pg) (pk ky pg) (x + 1)
  obtain ⟨qz, hqz⟩ : ∃ z, cnt (sz pg) (pk ky pg) (x + 1) = z := ⟨_, rfl⟩
  rw [hqz] at hcl ⊢
  have hlI : lI qz + nI 1 = nI qz := by
    cases qz with
    | zero => decide
    | succ k => rw [lI_s, nI_add]
  refine lv_iconst (v := nI 1) hx hb dX3_adds_6 (by decide) ?_
  refine lv_iadd hx hb dX3_adds_7 ?_
  refine ktop hlI ?_
  refine lv_istore (lv' := [(4, .int (nI qz)), (0, .ref (ad (10, 0))), (1, .int (nI pg)), (2, .int (nI x)), (3, .int (nI y))]) hx hb dX3_adds_8 hl (by decide) rfl (fun ls hl => ?_)
  refine lv_aload_n hx hb dX3_adds_10 rfl (lv_at hl 1 rfl) ?_
  refine kg F hE hW (10, 0) (hM.1 0 (by decide)) rfl hM.2.1 rfl inA_X3 6 (by decide) kw_612 (v := .ref (ad (10, 6))) rfl dX3_adds_11 ?_
  refine lv_iload_n hx hb dX3_adds_14 rfl (lv_at hl 2 rfl) ?_
  refine kl_i F hE hW (10, 6) (hM.1 6 (by decide)) rfl hM.2.2.2.2.2.2.2.1 pg rfl (by omega) (by decide) dX3_adds_15 ?_
  refine lv_istore (lv' := [(5, .int (nI (sz pg))), (4, .int (nI qz)), (0, .ref (ad (10, 0))), (1, .int (nI pg)), (2, .int (nI x)), (3, .int (nI y))]) hx hb dX3_adds_16 hl (by decide) rfl (fun ls hl => ?_)
  suffices key : ∀ (d tz : Nat) (ct1 : Lb → va_E) (H : Heap) (locs : List Loc) (ls : Array Slot), tz = qz + d → tz ≤ sz pg → MDF G ad dm ct1 lv lev lo hi ri sz (shA ky pg tz (sz pg)) (shA vl pg tz (sz pg)) go rt ep wq wn cn op cl ca ce kc nb th fo → XM ct0 ct1 → wd G A (ad, dm, ct1) H → va_S A s.heap H locs → lv_has ls 6 [(5, .int (nI tz)), (4, .int (nI qz)), (0, .ref (ad (10, 0))), (1, .int (nI pg)), (2, .int (nI x)), (3, .int (nI y))] → W _ l e _ s m _ below meth c H locs 0 0 _ (F0 m 18 ls []) from
    key (sz pg - qz) (sz pg) _ _ _ ls (by omega) (Nat.le_refl _) (by rw [shA_0, shA_0]; exact hM) hX hW hS hl
  clear hM hX hW hS hl
  intro d
  induction d with
  | zero =>
    intro tz ct H locs ls htz hts hM hX hW hS hl
    obtain rfl : qz = tz := htz.symm
    refine lv_iload hx hb dX3_adds_18 (lv_at hl 0 rfl) ?_
    refine lv_iload hx hb dX3_adds_20 (lv_at hl 1 rfl) ?_
    refine nc_le (tgt := 64) hx hb dX3_adds_22 (by decide) (by omega) (by omega) (fun c1 => ?_) (fun c1 => ?_)
    · refine lv_aload_n hx hb dX3_adds_64 rfl (lv_at hl 2 rfl) ?_
      refine lv_iload_n hx hb dX3_adds_65 rfl (lv_at hl 3 rfl) ?_
      refine lv_iload hx hb dX3_adds_66 (lv_at hl 1 rfl) ?_
      refine lv_iload_n hx hb dX3_adds_68 rfl (lv_at hl 4 rfl) ?_
      refine lv_iload_n hx hb dX3_adds_69 rfl (lv_at hl 5 rfl) ?_
      refine kc_V 4 (c_X3_sets l G A ad dm ct lv lev lo hi ri sz (shA ky pg (qz) (sz pg)) (shA vl pg (qz) (sz pg)) go rt ep wq wn cn op cl ca ce kc nb th fo hM pg qz x y hp0 (by omega)) F hE hW hS (10, 0) (hM.1 0 (by decide)) hM.2.1 rfl [.int (nI pg), .int (nI qz), .int (nI x), .int (nI y)] rfl kw_702 kw_704 kp_21 kw_6 kw_705 (by decide +kernel) rfl ⟨rfl, rfl⟩ ⟨Nat.le_of_ble_eq_true rfl, Nat.le_of_ble_eq_true rfl⟩ hl.1 rfl (Nat.le_of_ble_eq_true rfl) dX3_adds_70 ⟨Nat.le_of_ble_eq_true rfl, Nat.le_of_ble_eq_true rfl⟩ (fun _ _ _ _ _ h => h.elim) (fun v w' H locs hp hW hS => ?_)
      obtain ⟨ct2, rfl, hM, hX0, rfl⟩ := hp
      have hX := hX.tr hX0
      rw [shA_end, shA_end] at hM
      refine lv_aload_n hx hb dX3_adds_73 rfl (lv_at hl 2 rfl) ?_
      refine kg F hE hW (10, 0) (hM.1 0 (by decide)) rfl hM.2.1 rfl inA_X3 6 (by decide) kw_612 (v := .ref (ad (10, 6))) rfl dX3_adds_74 ?_
      refine lv_iload_n hx hb dX3_adds_77 rfl (lv_at hl 3 rfl) ?_
      refine lv_dup2_11 hx hb dX3_adds_78 rfl rfl ?_
      refine kl_i F hE hW (10, 6) (hM.1 6 (by decide)) rfl hM.2.2.2.2.2.2.2.1 pg rfl (by omega) (by decide) dX3_adds_79 ?_
      refine lv_iconst (v := nI 1) hx hb dX3_adds_80 (by decide) ?_
      refine lv_iadd hx hb dX3_adds_81 ?_
      refine ktop (nI_add _ _) ?_
      refine ms_sz (v := sz pg + 1) F hE hW hS hM pg rfl (by omega) dX3_adds_82 (fun ct H locs hW hM hX0 hS => ?_)
      have hX := hX.tr hX0
      refine lv_aload_n hx hb dX3_adds_83 rfl (lv_at hl 2 rfl) ?_
      refine kg F hE hW (10, 0) (hM.1 0 (by decide)) rfl hM.2.1 rfl inA_X3 6 (by decide) kw_612 (v := .ref (ad (10, 6))) rfl dX3_adds_84 ?_
      refine lv_iload_n hx hb dX3_adds_87 rfl (lv_at hl 3 rfl) ?_
      refine kl_i F hE hW (10, 6) (hM.1 6 (by decide)) rfl hM.2.2.2.2.2.2.2.1 pg rfl (by omega) (by decide) dX3_adds_88 ?_
      refine lv_iconst (v := nI 5) hx hb dX3_adds_89 (by decide) ?_
      refine W.eq (g2 := F0 m 90 ls [.int (nI 5), .int (nI (sz pg + 1))]) (by rw [va_up_self]; rfl) ?_
      refine nc_ne (tgt := 98) hx hb dX3_adds_90 (by decide) (by omega) (by omega) (fun c2 => ?_) (fun c2 => ?_)
      · exact kr_v F hr hlk hE hW hS (Nat.le_of_ble_eq_true rfl) (Nat.le_of_ble_eq_true rfl) dX3_adds_98 (⟨_, rfl, by
            unfold addS
            dsimp only
            rw [if_neg (by omega)]
            unfold insS MD
            dsimp only
            rw [hqz]
            exact hM, hX, rfl⟩)
      · refine lv_aload_n hx hb dX3_adds_93 rfl (lv_at hl 2 rfl) ?_
        refine lv_iload_n hx hb dX3_adds_94 rfl (lv_at hl 3 rfl) ?_
        refine kc_V 1 (c_X3_splits l G A ad dm ct lv lev lo hi ri (va_up sz pg (sz pg + 1)) (insA ky pg qz (sz pg) x) (insA vl pg qz (sz pg) y) go rt ep wq wn cn op cl ca ce kc nb th fo hM pg (fr lv) rfl hp0 (by rintro rfl; rw [hlv] at hal; cases hal) hwn hlv hlt hf8) F hE hW hS (10, 0) (hM.1 0 (by decide)) hM.2.1 rfl [.int (nI pg)] rfl kw_706 kw_708 kp_22 kw_6 kw_709 (by decide +kernel) rfl ⟨rfl, rfl⟩ ⟨Nat.le_of_ble_eq_true rfl, Nat.le_of_ble_eq_true rfl⟩ hl.1 rfl (Nat.le_of_ble_eq_true rfl) dX3_adds_95 ⟨Nat.le_of_ble_eq_true rfl, Nat.le_of_ble_eq_true rfl⟩ (fun _ _ _ _ _ h => h.elim) (fun v w' H locs hp hW hS => ?_)
        obtain ⟨ct2, rfl, hM, hX0, rfl⟩ := hp
        have hX := hX.tr hX0
        exact kr_v F hr hlk hE hW hS (Nat.le_of_ble_eq_true rfl) (Nat.le_of_ble_eq_true rfl) dX3_adds_98 (⟨_, rfl, by
            unfold addS
            dsimp only
            rw [if_pos (by omega)]
            unfold insS splS MD
            dsimp only
            rw [hqz]
            exact hM, hX, rfl⟩)
    · exact absurd c1 (by omega)
  | succ d ih =>
    intro tz ct H locs ls htz hts hM hX hW hS hl
    subst htz
    refine lv_iload hx hb dX3_adds_18 (lv_at hl 0 rfl) ?_
    refine lv_iload hx hb dX3_adds_20 (lv_at hl 1 rfl) ?_
    refine nc_le (tgt := 64) hx hb dX3_adds_22 (by decide) (by omega) (by omega) (fun c1 => ?_) (fun c1 => ?_)
    · exact absurd c1 (by omega)
    · refine lv_aload_n hx hb dX3_adds_25 rfl (lv_at hl 2 rfl) ?_
      refine lv_iload_n hx hb dX3_adds_26 rfl (lv_at hl 3 rfl) ?_
      refine lv_iload hx hb dX3_adds_27 (lv_at hl 0 rfl) ?_
      refine lv_aload_n hx hb dX3_adds_29 rfl (lv_at hl 2 rfl) ?_
      refine kg F hE hW (10, 0) (hM.1 0 (by decide)) rfl hM.2.1 rfl inA_X3 7 (by decide) kw_613 (v := .ref (ad (10, 7))) rfl dX3_adds_30 ?_
      refine lv_iconst (v := nI 5) hx hb dX3_adds_33 (by decide) ?_
      refine lv_iload_n hx hb dX3_adds_34 rfl (lv_at hl 3 rfl) ?_
      refine lv_imul hx hb dX3_adds_35 ?_
      refine ktop (pk_mul _ _) ?_
      refine lv_iload hx hb dX3_adds_36 (lv_at hl 0 rfl) ?_
      refine lv_iadd hx hb dX3_adds_38 ?_
      refine ktop (nI_add _ _) ?_
      refine lv_iconst (v := nI 1) hx hb dX3_adds_39 (by decide) ?_
      refine lv_isub hx hb dX3_adds_40 ?_
      refine ktop (pk_sub (by omega)) ?_
      refine kl_i F hE hW (10, 7) (hM.1 7 (by decide)) rfl hM.2.2.2.2.2.2.2.2.1 (((5 * pg) + (qz + (d + 1))) - 1) rfl (by omega) (by decide) dX3_adds_41 ?_
      refine ktop (congrArg nI (shA_at _ _ (qz + d) _)) ?_
      refine lv_aload_n hx hb dX3_adds_42 rfl (lv_at hl 2 rfl) ?_
      refine kg F hE hW (10, 0) (hM.1 0 (by decide)) rfl hM.2.1 rfl inA_X3 8 (by decide) kw_614 (v := .ref (ad (10, 8))) rfl dX3_adds_43 ?_
      refine lv_iconst (v := nI 5) hx hb dX3_adds_46 (by decide) ?_
      refine lv_iload_n hx hb dX3_adds_47 rfl (lv_at hl 3 rfl) ?_
      refine lv_imul hx hb dX3_adds_48 ?_
      refine ktop (pk_mul _ _) ?_
      refine lv_iload hx hb dX3_adds_49 (lv_at hl 0 rfl) ?_
      refine lv_iadd hx hb dX3_adds_51 ?_
      refine ktop (nI_add _ _) ?_
      refine lv_iconst (v := nI 1) hx hb dX3_adds_52 (by decide) ?_
      refine lv_isub hx hb dX3_adds_53 ?_
      refine ktop (pk_sub (by omega)) ?_
      refine kl_i F hE hW (10, 8) (hM.1 8 (by decide)) rfl hM.2.2.2.2.2.2.2.2.2.1 (((5 * pg) + (qz + (d + 1))) - 1) rfl (by omega) (by decide) dX3_adds_54 ?_
      refine ktop (congrArg nI (shA_at _ _ (qz + d) _)) ?_
      refine kc_V 4 (c_X3_sets l G A ad dm ct lv lev lo hi ri sz (shA ky pg (qz + (d + 1)) (sz pg)) (shA vl pg (qz + (d + 1)) (sz pg)) go rt ep wq wn cn op cl ca ce kc nb th fo hM pg (qz + (d + 1)) (ky (5 * pg + (qz + d))) (vl (5 * pg + (qz + d))) hp0 (by omega)) F hE hW hS (10, 0) (hM.1 0 (by decide)) hM.2.1 rfl [.int (nI pg), .int (nI (qz + (d + 1))), .int (nI (ky (5 * pg + (qz + d)))), .int (nI (vl (5 * pg + (qz + d))))] rfl kw_702 kw_704 kp_21 kw_6 kw_705 (by decide +kernel) rfl ⟨rfl, rfl⟩ ⟨Nat.le_of_ble_eq_true rfl, Nat.le_of_ble_eq_true rfl⟩ hl.1 rfl (Nat.le_of_ble_eq_true rfl) dX3_adds_55 ⟨Nat.le_of_ble_eq_true rfl, Nat.le_of_ble_eq_true rfl⟩ (fun _ _ _ _ _ h => h.elim) (fun v w' H locs hp hW hS => ?_)
      obtain ⟨ct2, rfl, hM, hX0, rfl⟩ := hp
      have hX := hX.tr hX0
      refine lv_iinc (v := nI (qz + d)) (lv' := [(5, .int (nI (qz + d))), (4, .int (nI qz)), (0, .ref (ad (10, 0))), (1, .int (nI pg)), (2, .int (nI x)), (3, .int (nI y))]) hx hb dX3_adds_58 hl (k := 0) rfl (kim1 (qz + d)) (by decide) rfl (fun ls hl => ?_)
      refine lv_goto (tgt := 18) hx hb dX3_adds_61 (by decide) ?_
      have e1 := shA_step ky pg (qz + d) (sz pg) (by omega)
      have e2 := shA_step vl pg (qz + d) (sz pg) (by omega)
      exact ih (qz + d) _ _ _ _ rfl (by omega) (by rw [← e1, ← e2]; exact hM) hX hW hS hl
