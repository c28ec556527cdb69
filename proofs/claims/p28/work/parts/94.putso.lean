/-! The law's isPutSo; reading and writing calls with the state as one. -/
theorem s_keys (l : Launch) (G : GG) (A : Nat → Prop) (ad : Lb → Nat) (dm : Lb → Prop) (ct : Lb → va_E) (S : SG) (hK : HK G ad dm ct S)  :
    CT l yX2_keys cX2_keys 1 (some FieldType.int) { frames := 0, cells := 0, slots := 0, locals := 0 } [.ref (ad (0, 0))] G A (ad, dm, ct) (fun v w' => (ad, dm, ct) = w' ∧ v = some (.int (nI (kcN S)))) (fun _ => False) (0) (0) := by
  obtain ⟨lv, lev, lo, hi, ri, sz, ky, vl, go, rt, ep, wq, wn, cn, op, cl, ca, ce, kc, nb⟩ := S
  exact c_X2_keys l G A ad dm ct lv lev lo hi ri sz ky vl go rt ep wq wn cn op cl ca ce kc nb hK
theorem s_get (l : Launch) (G : GG) (A : Nat → Prop) (ad : Lb → Nat) (dm : Lb → Prop) (ct : Lb → va_E) (S : SG) (hst : l.stackTraces = false) (hK : HK G ad dm ct S) (t0 : Nat) (hI : Inv S t0) (x : Int32) :
    CT l yX2_get cX2_get 3 (some FieldType.int) { frames := 7, cells := 1, slots := 6, locals := 120 } [.ref (ad (0, 0)), .int x] G A (ad, dm, ct) (fun v w' => (ad, dm, ct) = w' ∧ ∃ key, key < 200 ∧ x = nI key ∧ v = some (.int (oI (getS S key)))) (fun E => E = "java/lang/IllegalArgumentException" ∧ ∀ k, k < 200 → x ≠ nI k) (1) (6) := by
  obtain ⟨lv, lev, lo, hi, ri, sz, ky, vl, go, rt, ep, wq, wn, cn, op, cl, ca, ce, kc, nb⟩ := S
  exact c_X2_get l G A ad dm ct lv lev lo hi ri sz ky vl go rt ep wq wn cn op cl ca ce kc nb hst hK t0 hI x
theorem s_getByLeaves (l : Launch) (G : GG) (A : Nat → Prop) (ad : Lb → Nat) (dm : Lb → Prop) (ct : Lb → va_E) (S : SG) (hst : l.stackTraces = false) (hK : HK G ad dm ct S) (t0 : Nat) (hI : Inv S t0) (x : Int32) :
    CT l yX2_getByLeaves cX2_getByLeaves 4 (some FieldType.int) { frames := 7, cells := 1, slots := 6, locals := 120 } [.ref (ad (0, 0)), .int x] G A (ad, dm, ct) (fun v w' => (ad, dm, ct) = w' ∧ ∃ key, key < 200 ∧ x = nI key ∧ v = some (.int (oI (getS S key)))) (fun E => E = "java/lang/IllegalArgumentException" ∧ ∀ k, k < 200 → x ≠ nI k) (1) (6) := by
  obtain ⟨lv, lev, lo, hi, ri, sz, ky, vl, go, rt, ep, wq, wn, cn, op, cl, ca, ce, kc, nb⟩ := S
  exact c_X2_getByLeaves l G A ad dm ct lv lev lo hi ri sz ky vl go rt ep wq wn cn op cl ca ce kc nb hst hK t0 hI x
theorem s_put (l : Launch) (G : GG) (A : Nat → Prop) (ad : Lb → Nat) (dm : Lb → Prop) (ct : Lb → va_E) (S : SG) (hst : l.stackTraces = false) (hK : HK G ad dm ct S) (t0 : Nat) (hI : Inv S t0) (x y : Int32) :
    CT l yX2_put cX2_put 5 (some FieldType.int) { frames := 10, cells := 7, slots := 838, locals := 197 } [.ref (ad (0, 0)), .int x, .int y] G A (ad, dm, ct) (fun v w' => ∃ ad' dm' ct', w' = (ad', dm', ct') ∧ FH ad dm ct ad' dm' ct' ∧ ∃ key, key < 200 ∧ x = nI key ∧ ∃ u, u < 10000 ∧ y = nI u ∧ HK G ad' dm' ct' (putS S key u).1 ∧ v = some (.int (oI (putS S key u).2))) (fun E => E = "java/lang/IllegalArgumentException" ∧ ((∀ k, k < 200 → x ≠ nI k) ∨ ∀ u, u < 10000 → y ≠ nI u)) (7) (838) := by
  obtain ⟨lv, lev, lo, hi, ri, sz, ky, vl, go, rt, ep, wq, wn, cn, op, cl, ca, ce, kc, nb⟩ := S
  exact c_X2_put l G A ad dm ct lv lev lo hi ri sz ky vl go rt ep wq wn cn op cl ca ce kc nb hst hK t0 hI x y
theorem s_take (l : Launch) (G : GG) (A : Nat → Prop) (ad : Lb → Nat) (dm : Lb → Prop) (ct : Lb → va_E) (S : SG) (hst : l.stackTraces = false) (hK : HK G ad dm ct S) (t0 : Nat) (hI : Inv S t0) (x : Int32) :
    CT l yX2_take cX2_take 5 (some FieldType.int) { frames := 7, cells := 1, slots := 6, locals := 120 } [.ref (ad (0, 0)), .int x] G A (ad, dm, ct) (fun v w' => ∃ ad' dm' ct', w' = (ad', dm', ct') ∧ FH ad dm ct ad' dm' ct' ∧ ∃ key, key < 200 ∧ x = nI key ∧ HK G ad' dm' ct' (takS S key).1 ∧ v = some (.int (oI (takS S key).2))) (fun E => E = "java/lang/IllegalArgumentException" ∧ ∀ k, k < 200 → x ≠ nI k) (1) (6) := by
  obtain ⟨lv, lev, lo, hi, ri, sz, ky, vl, go, rt, ep, wq, wn, cn, op, cl, ca, ce, kc, nb⟩ := S
  exact c_X2_take l G A ad dm ct lv lev lo hi ri sz ky vl go rt ep wq wn cn op cl ca ce kc nb hst hK t0 hI x
theorem s_postAll (l : Launch) (G : GG) (A : Nat → Prop) (ad : Lb → Nat) (dm : Lb → Prop) (ct : Lb → va_E) (S : SG) (hK : HK G ad dm ct S) (t0 : Nat) (hI : Inv S t0) :
    CT l yX2_postAll cX2_postAll 2 (some FieldType.int) { frames := 11, cells := 5 * (paS 1024 S).2, slots := 826 * (paS 1024 S).2, locals := 218 } [.ref (ad (0, 0))] G A (ad, dm, ct) (fun v w' => ∃ ad' dm' ct', w' = (ad', dm', ct') ∧ FH ad dm ct ad' dm' ct' ∧ HK G ad' dm' ct' (paS 1024 S).1 ∧ v = some (.int (nI (paS 1024 S).2))) (fun _ => False) (5 * (paS 1024 S).2) (826 * (paS 1024 S).2) := by
  obtain ⟨lv, lev, lo, hi, ri, sz, ky, vl, go, rt, ep, wq, wn, cn, op, cl, ca, ce, kc, nb⟩ := S
  exact c_X2_postAll l G A ad dm ct lv lev lo hi ri sz ky vl go rt ep wq wn cn op cl ca ce kc nb hK t0 hI
theorem s_recycle (l : Launch) (G : GG) (A : Nat → Prop) (ad : Lb → Nat) (dm : Lb → Prop) (ct : Lb → va_E) (S : SG) (hK : HK G ad dm ct S) (t0 : Nat) (hI : Inv S t0)  :
    CT l yX2_recycle cX2_recycle 4 (some FieldType.int) { frames := 1, cells := 0, slots := 0, locals := 25 } [.ref (ad (0, 0))] G A (ad, dm, ct) (fun v w' => ∃ dm' ct', w' = (ad, dm', ct') ∧ HK G ad dm' ct' (recS S).1 ∧ FH ad dm ct ad dm' ct' ∧ v = some (.int (nI (recS S).2))) (fun _ => False) (0) (0) := by
  obtain ⟨lv, lev, lo, hi, ri, sz, ky, vl, go, rt, ep, wq, wn, cn, op, cl, ca, ce, kc, nb⟩ := S
  exact c_X2_recycle l G A ad dm ct lv lev lo hi ri sz ky vl go rt ep wq wn cn op cl ca ce kc nb hK t0 hI
set_option maxRecDepth 100000 in
set_option maxHeartbeats 4000000 in
theorem c_L_isPutSo (l : Launch) (G : GG) (A : Nat → Prop) (ad : Lb → Nat) (dm : Lb → Prop) (ct : Lb → va_E) (a0 a1 : Nat) (S : SG) (t0 : Nat) (hst : l.stackTraces = false) (hJ : J2 G a0 a1 ad dm ct S S) (hI : Inv S t0) (ht : t0 + 2 ≤ 512) (hN : CN S) (k u : Nat) (hk : k < 200) (hu : u < 10000) :
    CT l yL_isPutSo cL_isPutSo 7 (some FieldType.boolean) { frames := 11, cells := 40, slots := 3410, locals := 221 } [.ref a0, .ref a1, .int (nI k), .int (nI u)] G A (ad, dm, ct) (fun v w' => ∃ ad' dm' ct' S', w' = (ad', dm', ct') ∧ J2 G a0 a1 ad' dm' ct' S' S' ∧ Inv S' (t0 + 2) ∧ CN S' ∧ nbS S + waits S' ≤ nbS S' + waits S ∧ v = some (.int (nI 1))) (fun _ => False) (40) (3410) := by
  refine ct_of (by decide) (Nat.le_of_ble_eq_true rfl) ?_
  intro p e s m below meth c ls F hr hlk hnm hex hE hW hl
  have hx := F.1
  have hb := F.2.1
  have hS : va_S A s.heap s.heap [] := va_S.rf
  have hl : lv_has ls 7 [(0, .ref a0), (1, .ref a1), (2, .int (nI k)), (3, .int (nI u))] := hl
  obtain ⟨S1, hS1⟩ : ∃ S1, (putS S k u).1 = S1 := ⟨_, rfl⟩
  obtain ⟨S2, hS2⟩ : ∃ S2, (takS S1 k).1 = S2 := ⟨_, rfl⟩
  have I1 := inv_put (s := S) (v := u) hI (by omega) hk hu
  have N1 := cn_put (v := u) hI hk hN
  have g1 := put_get (v := u) hI (by omega) hk hu
  have q1 := put_kc (s := S) (k := k) (v := u)
  have P1 := put_P (s := S) (k := k) (v := u)
  rw [hS1] at I1 N1 g1 q1 P1
  have I2 := inv_tak I1 hk
  have N2 := cn_tak I1 hk N1
  have g2 := tak_get I1 hk
  have q2 := tak_kc I1 hk
  have P2 := tak_P (s := S1) (k := k)
  rw [hS2] at I2 N2 g2 q2 P2
  rw [g1] at q2
  have s2 : (takS S2 k).1 = S2 := tak_same g2
  have c0 : kcN S ≤ 512 := by have := Inv_iff.mp hI; omega
  have c1 : kcN S1 ≤ 512 := by have := Inv_iff.mp I1; omega
  have c2 : kcN S2 ≤ 512 := by have := Inv_iff.mp I2; omega
  have o1s : o1 (some u) = 0 := rfl
  cases hg : getS S k with
  | none =>
    rw [hg] at q1
    have o1n : o1 none = 1 := rfl
    refine lv_aload_n hx hb dL_isPutSo_0 rfl (lv_at hl 0 rfl) ?_
    refine kc_Va 0 (s_keys l G A ad dm ct S hJ.1) F hE hW hS (0, 0) hJ.1.o0.1 hJ.1.o0.2 hJ.2.2.2.1 rfl [] rfl kw_486 kw_487 kw_488 kw_1 kw_489 (by decide +kernel) rfl ⟨rfl, rfl⟩ ⟨Nat.le_of_ble_eq_true rfl, Nat.le_of_ble_eq_true rfl⟩ hl.1 rfl (Nat.le_of_ble_eq_true rfl) dL_isPutSo_1 ⟨Nat.le_of_ble_eq_true rfl, Nat.le_of_ble_eq_true rfl⟩ (fun _ _ _ _ _ h => h.elim) (fun v w' H locs hp hW hS => ?_)
    obtain ⟨rfl, rfl⟩ := hp
    refine lv_istore (lv' := [(4, .int (nI (kcN S))), (0, .ref a0), (1, .ref a1), (2, .int (nI k)), (3, .int (nI u))]) hx hb dL_isPutSo_4 hl (by decide) rfl (fun ls hl => ?_)
    refine lv_aload_n hx hb dL_isPutSo_6 rfl (lv_at hl 1 rfl) ?_
    refine lv_iload_n hx hb dL_isPutSo_7 rfl (lv_at hl 3 rfl) ?_
    refine kc_Va 1 (s_get l G A ad dm ct S hst hJ.1 _ hI (nI k)) F hE hW hS (0, 0) hJ.1.o0.1 hJ.1.o0.2 hJ.2.2.2.1 rfl [.int (nI k)] rfl kw_510 kw_511 kw_512 kw_1 kw_513 (by decide +kernel) rfl ⟨rfl, rfl⟩ ⟨Nat.le_of_ble_eq_true rfl, Nat.le_of_ble_eq_true rfl⟩ hl.1 rfl (Nat.le_of_ble_eq_true rfl) dL_isPutSo_8 ⟨Nat.le_of_ble_eq_true rfl, Nat.le_of_ble_eq_true rfl⟩ (fun _ _ _ _ _ h => absurd rfl (h.2 k hk)) (fun v w' H locs hp hW hS => ?_)
    obtain ⟨rfl, k9, hk9, he9, rfl⟩ := hp
    obtain rfl : k = k9 := nI_inj (by omega) (by omega) he9
    refine ktop (y := (-1)) (by rw [hg]; rfl) ?_
    refine lv_istore (lv' := [(5, .int (-1)), (4, .int (nI (kcN S))), (0, .ref a0), (1, .ref a1), (2, .int (nI k)), (3, .int (nI u))]) hx hb dL_isPutSo_11 hl (by decide) rfl (fun ls hl => ?_)
    refine lv_aload_n hx hb dL_isPutSo_13 rfl (lv_at hl 2 rfl) ?_
    refine lv_iload_n hx hb dL_isPutSo_14 rfl (lv_at hl 4 rfl) ?_
    refine lv_iload_n hx hb dL_isPutSo_15 rfl (lv_at hl 5 rfl) ?_
    refine kc_Va 2 (s_put l G A ad dm ct S hst hJ.1 _ hI (nI k) (nI u)) F hE hW hS (0, 0) hJ.1.o0.1 hJ.1.o0.2 hJ.2.2.2.1 rfl [.int (nI k), .int (nI u)] rfl kw_285 kw_286 kw_287 kw_1 kw_288 (by decide +kernel) rfl ⟨rfl, rfl⟩ ⟨Nat.le_of_ble_eq_true rfl, Nat.le_of_ble_eq_true rfl⟩ hl.1 rfl (Nat.le_of_ble_eq_true rfl) dL_isPutSo_16 ⟨Nat.le_of_ble_eq_true rfl, Nat.le_of_ble_eq_true rfl⟩ (fun _ _ _ _ _ h => h.2.elim (fun q => absurd rfl (q k hk)) (fun q => absurd rfl (q u (by omega)))) (fun v w' H locs hp hW hS => ?_)
    obtain ⟨ad8, dm8, ct8, rfl, hF8, k9, hk9, he9, u9, hu9, hf9, hK8, rfl⟩ := hp
    have he9 : k = k9 := nI_inj (by omega) (by omega) he9
    subst he9
    have hf9 : u = u9 := nI_inj (by omega) (by omega) hf9
    subst hf9
    rw [hS1] at hK8
    obtain ⟨adw1, dmw1, ctw1, hW, hJ⟩ : ∃ ad2 dm2 ct2, wd G A (ad2, dm2, ct2) _ ∧ J2 G a0 a1 ad2 dm2 ct2 S1 S := ⟨_, _, _, hW, hJ.one hF8 hK8⟩
    refine ktop (y := (-1)) (by rw [put_2, hg]; try rfl) ?_
    refine lv_iload hx hb dL_isPutSo_19 (lv_at hl 0 rfl) ?_
    refine lv_icmp_ne (tgt := 77) hx hb dL_isPutSo_21 (by decide) (fun c9 => ?_) (fun c9 => ?_)
    · exact absurd rfl c9
    · refine lv_aload_n hx hb dL_isPutSo_24 rfl (lv_at hl 3 rfl) ?_
      refine lv_iload_n hx hb dL_isPutSo_25 rfl (lv_at hl 4 rfl) ?_
      refine lv_iload_n hx hb dL_isPutSo_26 rfl (lv_at hl 5 rfl) ?_
      refine kc_Va 2 (s_put l G A (fun z => adw1 (sg z)) (fun z => dmw1 (sg z)) (fun z => ctw1 (sg z)) S hst hJ.2.1 _ hI (nI k) (nI u)) F hE (wd_sw hW) hS (0, 0) hJ.2.1.o0.1 hJ.2.1.o0.2 hJ.2.2.2.2 rfl [.int (nI k), .int (nI u)] rfl kw_285 kw_286 kw_287 kw_1 kw_288 (by decide +kernel) rfl ⟨rfl, rfl⟩ ⟨Nat.le_of_ble_eq_true rfl, Nat.le_of_ble_eq_true rfl⟩ hl.1 rfl (Nat.le_of_ble_eq_true rfl) dL_isPutSo_27 ⟨Nat.le_of_ble_eq_true rfl, Nat.le_of_ble_eq_true rfl⟩ (fun _ _ _ _ _ h => h.2.elim (fun q => absurd rfl (q k hk)) (fun q => absurd rfl (q u (by omega)))) (fun v w' H locs hp hW hS => ?_)
      obtain ⟨ad8, dm8, ct8, rfl, hF8, k9, hk9, he9, u9, hu9, hf9, hK8, rfl⟩ := hp
      have he9 : k = k9 := nI_inj (by omega) (by omega) he9
      subst he9
      have hf9 : u = u9 := nI_inj (by omega) (by omega) hf9
      subst hf9
      rw [hS1] at hK8
      obtain ⟨adw2, dmw2, ctw2, hW, hJ⟩ : ∃ ad2 dm2 ct2, wd G A (ad2, dm2, ct2) _ ∧ J2 G a0 a1 ad2 dm2 ct2 S1 S1 := ⟨_, _, _, wd_sw hW, hJ.two hF8 hK8⟩
      refine ktop (y := (-1)) (by rw [put_2, hg]; try rfl) ?_
      refine lv_iload hx hb dL_isPutSo_30 (lv_at hl 0 rfl) ?_
      refine lv_icmp_ne (tgt := 77) hx hb dL_isPutSo_32 (by decide) (fun c9 => ?_) (fun c9 => ?_)
      · exact absurd rfl c9
      · refine lv_aload_n hx hb dL_isPutSo_35 rfl (lv_at hl 2 rfl) ?_
        refine lv_iload_n hx hb dL_isPutSo_36 rfl (lv_at hl 4 rfl) ?_
        refine kc_Va 1 (s_get l G A adw2 dmw2 ctw2 S1 hst hJ.1 _ I1 (nI k)) F hE hW hS (0, 0) hJ.1.o0.1 hJ.1.o0.2 hJ.2.2.2.1 rfl [.int (nI k)] rfl kw_510 kw_511 kw_512 kw_1 kw_513 (by decide +kernel) rfl ⟨rfl, rfl⟩ ⟨Nat.le_of_ble_eq_true rfl, Nat.le_of_ble_eq_true rfl⟩ hl.1 rfl (Nat.le_of_ble_eq_true rfl) dL_isPutSo_37 ⟨Nat.le_of_ble_eq_true rfl, Nat.le_of_ble_eq_true rfl⟩ (fun _ _ _ _ _ h => absurd rfl (h.2 k hk)) (fun v w' H locs hp hW hS => ?_)
        obtain ⟨rfl, k9, hk9, he9, rfl⟩ := hp
        obtain rfl : k = k9 := nI_inj (by omega) (by omega) he9
        refine ktop (y := nI u) (by rw [g1]; rfl) ?_
        refine lv_iload_n hx hb dL_isPutSo_40 rfl (lv_at hl 5 rfl) ?_
        refine lv_icmp_ne (tgt := 77) hx hb dL_isPutSo_41 (by decide) (fun c9 => ?_) (fun c9 => ?_)
        · exact absurd rfl c9
        · refine lv_aload_n hx hb dL_isPutSo_44 rfl (lv_at hl 2 rfl) ?_
          refine lv_iload_n hx hb dL_isPutSo_45 rfl (lv_at hl 4 rfl) ?_
          refine kc_Va 1 (s_getByLeaves l G A adw2 dmw2 ctw2 S1 hst hJ.1 _ I1 (nI k)) F hE hW hS (0, 0) hJ.1.o0.1 hJ.1.o0.2 hJ.2.2.2.1 rfl [.int (nI k)] rfl kw_567 kw_568 kw_569 kw_1 kw_570 (by decide +kernel) rfl ⟨rfl, rfl⟩ ⟨Nat.le_of_ble_eq_true rfl, Nat.le_of_ble_eq_true rfl⟩ hl.1 rfl (Nat.le_of_ble_eq_true rfl) dL_isPutSo_46 ⟨Nat.le_of_ble_eq_true rfl, Nat.le_of_ble_eq_true rfl⟩ (fun _ _ _ _ _ h => absurd rfl (h.2 k hk)) (fun v w' H locs hp hW hS => ?_)
          obtain ⟨rfl, k9, hk9, he9, rfl⟩ := hp
          obtain rfl : k = k9 := nI_inj (by omega) (by omega) he9
          refine ktop (y := nI u) (by rw [g1]; rfl) ?_
          refine lv_iload_n hx hb dL_isPutSo_49 rfl (lv_at hl 5 rfl) ?_
          refine lv_icmp_ne (tgt := 77) hx hb dL_isPutSo_50 (by decide) (fun c9 => ?_) (fun c9 => ?_)
          · exact absurd rfl c9
          · refine lv_aload_n hx hb dL_isPutSo_53 rfl (lv_at hl 2 rfl) ?_
            refine kc_Va 0 (s_keys l G A adw2 dmw2 ctw2 S1 hJ.1) F hE hW hS (0, 0) hJ.1.o0.1 hJ.1.o0.2 hJ.2.2.2.1 rfl [] rfl kw_486 kw_487 kw_488 kw_1 kw_489 (by decide +kernel) rfl ⟨rfl, rfl⟩ ⟨Nat.le_of_ble_eq_true rfl, Nat.le_of_ble_eq_true rfl⟩ hl.1 rfl (Nat.le_of_ble_eq_true rfl) dL_isPutSo_54 ⟨Nat.le_of_ble_eq_true rfl, Nat.le_of_ble_eq_true rfl⟩ (fun _ _ _ _ _ h => h.elim) (fun v w' H locs hp hW hS => ?_)
            obtain ⟨rfl, rfl⟩ := hp
            refine lv_iload hx hb dL_isPutSo_57 (lv_at hl 1 rfl) ?_
            refine lv_iload hx hb dL_isPutSo_59 (lv_at hl 0 rfl) ?_
            refine lv_if_ge (tgt := 68) hx hb dL_isPutSo_61 (by decide) (fun c3 => ?_) (fun c3 => ?_)
            · exact absurd c3 (by decide)
            · refine lv_iconst (v := nI 1) hx hb dL_isPutSo_64 (by decide) ?_
              refine lv_goto (tgt := 69) hx hb dL_isPutSo_65 (by decide) ?_
              refine lv_iadd hx hb dL_isPutSo_69 ?_
              refine ktop (nI_add _ _) ?_
              refine nc_ne (tgt := 77) hx hb dL_isPutSo_70 (by decide) (by omega) (by omega) (fun c4 => ?_) (fun c4 => ?_)
              · exfalso; omega
              · refine lv_iconst (v := nI 1) hx hb dL_isPutSo_73 (by decide) ?_
                refine lv_goto (tgt := 78) hx hb dL_isPutSo_74 (by decide) ?_
                refine lv_istore (lv' := [(6, .int (nI 1)), (5, .int (-1)), (4, .int (nI (kcN S))), (0, .ref a0), (1, .ref a1), (2, .int (nI k)), (3, .int (nI u))]) hx hb dL_isPutSo_78 hl (by decide) rfl (fun ls hl => ?_)
                refine lv_iload hx hb dL_isPutSo_80 (lv_at hl 0 rfl) ?_
                refine nz_eq (tgt := 134) hx hb dL_isPutSo_82 (by decide) (by decide) (fun c9 => ?_) (fun c9 => ?_)
                · exact absurd c9 (by decide)
                · refine lv_aload_n hx hb dL_isPutSo_85 rfl (lv_at hl 3 rfl) ?_
                  refine lv_iload_n hx hb dL_isPutSo_86 rfl (lv_at hl 5 rfl) ?_
                  refine kc_Va 1 (s_take l G A adw2 dmw2 ctw2 S1 hst hJ.1 _ I1 (nI k)) F hE hW hS (0, 0) hJ.1.o0.1 hJ.1.o0.2 hJ.2.2.2.1 rfl [.int (nI k)] rfl kw_372 kw_373 kw_374 kw_1 kw_375 (by decide +kernel) rfl ⟨rfl, rfl⟩ ⟨Nat.le_of_ble_eq_true rfl, Nat.le_of_ble_eq_true rfl⟩ hl.1 rfl (Nat.le_of_ble_eq_true rfl) dL_isPutSo_87 ⟨Nat.le_of_ble_eq_true rfl, Nat.le_of_ble_eq_true rfl⟩ (fun _ _ _ _ _ h => absurd rfl (h.2 k hk)) (fun v w' H locs hp hW hS => ?_)
                  obtain ⟨ad8, dm8, ct8, rfl, hF8, k9, hk9, he9, hK8, rfl⟩ := hp
                  have he9 : k = k9 := nI_inj (by omega) (by omega) he9
                  subst he9
                  rw [hS2] at hK8
                  obtain ⟨adw3, dmw3, ctw3, hW, hJ⟩ : ∃ ad2 dm2 ct2, wd G A (ad2, dm2, ct2) _ ∧ J2 G a0 a1 ad2 dm2 ct2 S2 S1 := ⟨_, _, _, hW, hJ.one hF8 hK8⟩
                  refine ktop (y := nI u) (by rw [tak_2, g1]; try rfl) ?_
                  refine lv_iload_n hx hb dL_isPutSo_90 rfl (lv_at hl 6 rfl) ?_
                  refine lv_icmp_ne (tgt := 134) hx hb dL_isPutSo_91 (by decide) (fun c9 => ?_) (fun c9 => ?_)
                  · exact absurd rfl c9
                  · refine lv_aload_n hx hb dL_isPutSo_94 rfl (lv_at hl 4 rfl) ?_
                    refine lv_iload_n hx hb dL_isPutSo_95 rfl (lv_at hl 5 rfl) ?_
                    refine kc_Va 1 (s_take l G A (fun z => adw3 (sg z)) (fun z => dmw3 (sg z)) (fun z => ctw3 (sg z)) S1 hst hJ.2.1 _ I1 (nI k)) F hE (wd_sw hW) hS (0, 0) hJ.2.1.o0.1 hJ.2.1.o0.2 hJ.2.2.2.2 rfl [.int (nI k)] rfl kw_372 kw_373 kw_374 kw_1 kw_375 (by decide +kernel) rfl ⟨rfl, rfl⟩ ⟨Nat.le_of_ble_eq_true rfl, Nat.le_of_ble_eq_true rfl⟩ hl.1 rfl (Nat.le_of_ble_eq_true rfl) dL_isPutSo_96 ⟨Nat.le_of_ble_eq_true rfl, Nat.le_of_ble_eq_true rfl⟩ (fun _ _ _ _ _ h => absurd rfl (h.2 k hk)) (fun v w' H locs hp hW hS => ?_)
                    obtain ⟨ad8, dm8, ct8, rfl, hF8, k9, hk9, he9, hK8, rfl⟩ := hp
                    have he9 : k = k9 := nI_inj (by omega) (by omega) he9
                    subst he9
                    rw [hS2] at hK8
                    obtain ⟨adw4, dmw4, ctw4, hW, hJ⟩ : ∃ ad2 dm2 ct2, wd G A (ad2, dm2, ct2) _ ∧ J2 G a0 a1 ad2 dm2 ct2 S2 S2 := ⟨_, _, _, wd_sw hW, hJ.two hF8 hK8⟩
                    refine ktop (y := nI u) (by rw [tak_2, g1]; try rfl) ?_
                    refine lv_iload_n hx hb dL_isPutSo_99 rfl (lv_at hl 6 rfl) ?_
                    refine lv_icmp_ne (tgt := 134) hx hb dL_isPutSo_100 (by decide) (fun c9 => ?_) (fun c9 => ?_)
                    · exact absurd rfl c9
                    · refine lv_aload_n hx hb dL_isPutSo_103 rfl (lv_at hl 3 rfl) ?_
                      refine lv_iload_n hx hb dL_isPutSo_104 rfl (lv_at hl 5 rfl) ?_
                      refine kc_Va 1 (s_get l G A adw4 dmw4 ctw4 S2 hst hJ.1 _ I2 (nI k)) F hE hW hS (0, 0) hJ.1.o0.1 hJ.1.o0.2 hJ.2.2.2.1 rfl [.int (nI k)] rfl kw_510 kw_511 kw_512 kw_1 kw_513 (by decide +kernel) rfl ⟨rfl, rfl⟩ ⟨Nat.le_of_ble_eq_true rfl, Nat.le_of_ble_eq_true rfl⟩ hl.1 rfl (Nat.le_of_ble_eq_true rfl) dL_isPutSo_105 ⟨Nat.le_of_ble_eq_true rfl, Nat.le_of_ble_eq_true rfl⟩ (fun _ _ _ _ _ h => absurd rfl (h.2 k hk)) (fun v w' H locs hp hW hS => ?_)
                      obtain ⟨rfl, k9, hk9, he9, rfl⟩ := hp
                      obtain rfl : k = k9 := nI_inj (by omega) (by omega) he9
                      refine ktop (y := (-1)) (by rw [g2]; rfl) ?_
                      refine lv_iconst (v := (-1)) hx hb dL_isPutSo_108 (by decide) ?_
                      refine lv_icmp_ne (tgt := 134) hx hb dL_isPutSo_109 (by decide) (fun c9 => ?_) (fun c9 => ?_)
                      · exact absurd rfl c9
                      · refine lv_aload_n hx hb dL_isPutSo_112 rfl (lv_at hl 3 rfl) ?_
                        refine lv_iload_n hx hb dL_isPutSo_113 rfl (lv_at hl 5 rfl) ?_
                        refine kc_Va 1 (s_getByLeaves l G A adw4 dmw4 ctw4 S2 hst hJ.1 _ I2 (nI k)) F hE hW hS (0, 0) hJ.1.o0.1 hJ.1.o0.2 hJ.2.2.2.1 rfl [.int (nI k)] rfl kw_567 kw_568 kw_569 kw_1 kw_570 (by decide +kernel) rfl ⟨rfl, rfl⟩ ⟨Nat.le_of_ble_eq_true rfl, Nat.le_of_ble_eq_true rfl⟩ hl.1 rfl (Nat.le_of_ble_eq_true rfl) dL_isPutSo_114 ⟨Nat.le_of_ble_eq_true rfl, Nat.le_of_ble_eq_true rfl⟩ (fun _ _ _ _ _ h => absurd rfl (h.2 k hk)) (fun v w' H locs hp hW hS => ?_)
                        obtain ⟨rfl, k9, hk9, he9, rfl⟩ := hp
                        obtain rfl : k = k9 := nI_inj (by omega) (by omega) he9
                        refine ktop (y := (-1)) (by rw [g2]; rfl) ?_
                        refine lv_iconst (v := (-1)) hx hb dL_isPutSo_117 (by decide) ?_
                        refine lv_icmp_ne (tgt := 134) hx hb dL_isPutSo_118 (by decide) (fun c9 => ?_) (fun c9 => ?_)
                        · exact absurd rfl c9
                        · refine lv_aload_n hx hb dL_isPutSo_121 rfl (lv_at hl 3 rfl) ?_
                          refine lv_iload_n hx hb dL_isPutSo_122 rfl (lv_at hl 5 rfl) ?_
                          refine kc_Va 1 (s_take l G A adw4 dmw4 ctw4 S2 hst hJ.1 _ I2 (nI k)) F hE hW hS (0, 0) hJ.1.o0.1 hJ.1.o0.2 hJ.2.2.2.1 rfl [.int (nI k)] rfl kw_372 kw_373 kw_374 kw_1 kw_375 (by decide +kernel) rfl ⟨rfl, rfl⟩ ⟨Nat.le_of_ble_eq_true rfl, Nat.le_of_ble_eq_true rfl⟩ hl.1 rfl (Nat.le_of_ble_eq_true rfl) dL_isPutSo_123 ⟨Nat.le_of_ble_eq_true rfl, Nat.le_of_ble_eq_true rfl⟩ (fun _ _ _ _ _ h => absurd rfl (h.2 k hk)) (fun v w' H locs hp hW hS => ?_)
                          obtain ⟨ad8, dm8, ct8, rfl, hF8, k9, hk9, he9, hK8, rfl⟩ := hp
                          have he9 : k = k9 := nI_inj (by omega) (by omega) he9
                          subst he9
                          rw [s2] at hK8
                          obtain ⟨adw5, dmw5, ctw5, hW, hJ⟩ : ∃ ad2 dm2 ct2, wd G A (ad2, dm2, ct2) _ ∧ J2 G a0 a1 ad2 dm2 ct2 S2 S2 := ⟨_, _, _, hW, hJ.one hF8 hK8⟩
                          refine ktop (y := (-1)) (by rw [tak_2, g2]; try rfl) ?_
                          refine lv_iconst (v := (-1)) hx hb dL_isPutSo_126 (by decide) ?_
                          refine lv_icmp_ne (tgt := 134) hx hb dL_isPutSo_127 (by decide) (fun c9 => ?_) (fun c9 => ?_)
                          · exact absurd rfl c9
                          · refine lv_iconst (v := nI 1) hx hb dL_isPutSo_130 (by decide) ?_
                            refine lv_goto (tgt := 135) hx hb dL_isPutSo_131 (by decide) ?_
                            refine lv_istore (lv' := [(6, .int (nI 1)), (5, .int (-1)), (4, .int (nI (kcN S))), (0, .ref a0), (1, .ref a1), (2, .int (nI k)), (3, .int (nI u))]) hx hb dL_isPutSo_135 hl (by decide) rfl (fun ls hl => ?_)
                            refine lv_iload hx hb dL_isPutSo_137 (lv_at hl 1 rfl) ?_
                            refine lv_if_lt (tgt := 176) hx hb dL_isPutSo_139 (by decide) (fun c5 => ?_) (fun c5 => ?_)
                            · refine lv_iload hx hb dL_isPutSo_176 (lv_at hl 0 rfl) ?_
                              refine nz_eq (tgt := 204) hx hb dL_isPutSo_178 (by decide) (by decide) (fun c9 => ?_) (fun c9 => ?_)
                              · exact absurd c9 (by decide)
                              · refine lv_aload_n hx hb dL_isPutSo_181 rfl (lv_at hl 3 rfl) ?_
                                refine lv_iload_n hx hb dL_isPutSo_182 rfl (lv_at hl 5 rfl) ?_
                                refine kc_Va 1 (s_get l G A adw5 dmw5 ctw5 S2 hst hJ.1 _ I2 (nI k)) F hE hW hS (0, 0) hJ.1.o0.1 hJ.1.o0.2 hJ.2.2.2.1 rfl [.int (nI k)] rfl kw_510 kw_511 kw_512 kw_1 kw_513 (by decide +kernel) rfl ⟨rfl, rfl⟩ ⟨Nat.le_of_ble_eq_true rfl, Nat.le_of_ble_eq_true rfl⟩ hl.1 rfl (Nat.le_of_ble_eq_true rfl) dL_isPutSo_183 ⟨Nat.le_of_ble_eq_true rfl, Nat.le_of_ble_eq_true rfl⟩ (fun _ _ _ _ _ h => absurd rfl (h.2 k hk)) (fun v w' H locs hp hW hS => ?_)
                                obtain ⟨rfl, k9, hk9, he9, rfl⟩ := hp
                                obtain rfl : k = k9 := nI_inj (by omega) (by omega) he9
                                refine ktop (y := (-1)) (by rw [g2]; rfl) ?_
                                refine lv_iload hx hb dL_isPutSo_186 (lv_at hl 1 rfl) ?_
                                refine lv_icmp_ne (tgt := 204) hx hb dL_isPutSo_188 (by decide) (fun c9 => ?_) (fun c9 => ?_)
                                · exact absurd rfl c9
                                · refine lv_aload_n hx hb dL_isPutSo_191 rfl (lv_at hl 3 rfl) ?_
                                  refine kc_Va 0 (s_keys l G A adw5 dmw5 ctw5 S2 hJ.1) F hE hW hS (0, 0) hJ.1.o0.1 hJ.1.o0.2 hJ.2.2.2.1 rfl [] rfl kw_486 kw_487 kw_488 kw_1 kw_489 (by decide +kernel) rfl ⟨rfl, rfl⟩ ⟨Nat.le_of_ble_eq_true rfl, Nat.le_of_ble_eq_true rfl⟩ hl.1 rfl (Nat.le_of_ble_eq_true rfl) dL_isPutSo_192 ⟨Nat.le_of_ble_eq_true rfl, Nat.le_of_ble_eq_true rfl⟩ (fun _ _ _ _ _ h => h.elim) (fun v w' H locs hp hW hS => ?_)
                                  obtain ⟨rfl, rfl⟩ := hp
                                  refine lv_iload hx hb dL_isPutSo_195 (lv_at hl 2 rfl) ?_
                                  refine nc_ne (tgt := 204) hx hb dL_isPutSo_197 (by decide) (by omega) (by omega) (fun c6 => ?_) (fun c6 => ?_)
                                  · exfalso; omega
                                  · refine lv_iconst (v := nI 1) hx hb dL_isPutSo_200 (by decide) ?_
                                    refine lv_goto (tgt := 205) hx hb dL_isPutSo_201 (by decide) ?_
                                    exact kr_z F hr hlk hE hW hS (Nat.le_of_ble_eq_true rfl) (Nat.le_of_ble_eq_true rfl) rfl dL_isPutSo_205 (⟨_, _, _, _, rfl, hJ, inv_up I2 (by omega), N2, by omega, rfl⟩)
                            · exact absurd (by decide) c5
  | some b =>
    rw [hg] at q1
    have hbv := get_val hI hk hg
    have o1b : o1 (some b) = 0 := rfl
    refine lv_aload_n hx hb dL_isPutSo_0 rfl (lv_at hl 0 rfl) ?_
    refine kc_Va 0 (s_keys l G A ad dm ct S hJ.1) F hE hW hS (0, 0) hJ.1.o0.1 hJ.1.o0.2 hJ.2.2.2.1 rfl [] rfl kw_486 kw_487 kw_488 kw_1 kw_489 (by decide +kernel) rfl ⟨rfl, rfl⟩ ⟨Nat.le_of_ble_eq_true rfl, Nat.le_of_ble_eq_true rfl⟩ hl.1 rfl (Nat.le_of_ble_eq_true rfl) dL_isPutSo_1 ⟨Nat.le_of_ble_eq_true rfl, Nat.le_of_ble_eq_true rfl⟩ (fun _ _ _ _ _ h => h.elim) (fun v w' H locs hp hW hS => ?_)
    obtain ⟨rfl, rfl⟩ := hp
    refine lv_istore (lv' := [(4, .int (nI (kcN S))), (0, .ref a0), (1, .ref a1), (2, .int (nI k)), (3, .int (nI u))]) hx hb dL_isPutSo_4 hl (by decide) rfl (fun ls hl => ?_)
    refine lv_aload_n hx hb dL_isPutSo_6 rfl (lv_at hl 1 rfl) ?_
    refine lv_iload_n hx hb dL_isPutSo_7 rfl (lv_at hl 3 rfl) ?_
    refine kc_Va 1 (s_get l G A ad dm ct S hst hJ.1 _ hI (nI k)) F hE hW hS (0, 0) hJ.1.o0.1 hJ.1.o0.2 hJ.2.2.2.1 rfl [.int (nI k)] rfl kw_510 kw_511 kw_512 kw_1 kw_513 (by decide +kernel) rfl ⟨rfl, rfl⟩ ⟨Nat.le_of_ble_eq_true rfl, Nat.le_of_ble_eq_true rfl⟩ hl.1 rfl (Nat.le_of_ble_eq_true rfl) dL_isPutSo_8 ⟨Nat.le_of_ble_eq_true rfl, Nat.le_of_ble_eq_true rfl⟩ (fun _ _ _ _ _ h => absurd rfl (h.2 k hk)) (fun v w' H locs hp hW hS => ?_)
    obtain ⟨rfl, k9, hk9, he9, rfl⟩ := hp
    obtain rfl : k = k9 := nI_inj (by omega) (by omega) he9
    refine ktop (y := nI b) (by rw [hg]; rfl) ?_
    refine lv_istore (lv' := [(5, .int (nI b)), (4, .int (nI (kcN S))), (0, .ref a0), (1, .ref a1), (2, .int (nI k)), (3, .int (nI u))]) hx hb dL_isPutSo_11 hl (by decide) rfl (fun ls hl => ?_)
    refine lv_aload_n hx hb dL_isPutSo_13 rfl (lv_at hl 2 rfl) ?_
    refine lv_iload_n hx hb dL_isPutSo_14 rfl (lv_at hl 4 rfl) ?_
    refine lv_iload_n hx hb dL_isPutSo_15 rfl (lv_at hl 5 rfl) ?_
    refine kc_Va 2 (s_put l G A ad dm ct S hst hJ.1 _ hI (nI k) (nI u)) F hE hW hS (0, 0) hJ.1.o0.1 hJ.1.o0.2 hJ.2.2.2.1 rfl [.int (nI k), .int (nI u)] rfl kw_285 kw_286 kw_287 kw_1 kw_288 (by decide +kernel) rfl ⟨rfl, rfl⟩ ⟨Nat.le_of_ble_eq_true rfl, Nat.le_of_ble_eq_true rfl⟩ hl.1 rfl (Nat.le_of_ble_eq_true rfl) dL_isPutSo_16 ⟨Nat.le_of_ble_eq_true rfl, Nat.le_of_ble_eq_true rfl⟩ (fun _ _ _ _ _ h => h.2.elim (fun q => absurd rfl (q k hk)) (fun q => absurd rfl (q u (by omega)))) (fun v w' H locs hp hW hS => ?_)
    obtain ⟨ad8, dm8, ct8, rfl, hF8, k9, hk9, he9, u9, hu9, hf9, hK8, rfl⟩ := hp
    have he9 : k = k9 := nI_inj (by omega) (by omega) he9
    subst he9
    have hf9 : u = u9 := nI_inj (by omega) (by omega) hf9
    subst hf9
    rw [hS1] at hK8
    obtain ⟨adw1, dmw1, ctw1, hW, hJ⟩ : ∃ ad2 dm2 ct2, wd G A (ad2, dm2, ct2) _ ∧ J2 G a0 a1 ad2 dm2 ct2 S1 S := ⟨_, _, _, hW, hJ.one hF8 hK8⟩
    refine ktop (y := nI b) (by rw [put_2, hg]; try rfl) ?_
    refine lv_iload hx hb dL_isPutSo_19 (lv_at hl 0 rfl) ?_
    refine lv_icmp_ne (tgt := 77) hx hb dL_isPutSo_21 (by decide) (fun c9 => ?_) (fun c9 => ?_)
    · exact absurd rfl c9
    · refine lv_aload_n hx hb dL_isPutSo_24 rfl (lv_at hl 3 rfl) ?_
      refine lv_iload_n hx hb dL_isPutSo_25 rfl (lv_at hl 4 rfl) ?_
      refine lv_iload_n hx hb dL_isPutSo_26 rfl (lv_at hl 5 rfl) ?_
      refine kc_Va 2 (s_put l G A (fun z => adw1 (sg z)) (fun z => dmw1 (sg z)) (fun z => ctw1 (sg z)) S hst hJ.2.1 _ hI (nI k) (nI u)) F hE (wd_sw hW) hS (0, 0) hJ.2.1.o0.1 hJ.2.1.o0.2 hJ.2.2.2.2 rfl [.int (nI k), .int (nI u)] rfl kw_285 kw_286 kw_287 kw_1 kw_288 (by decide +kernel) rfl ⟨rfl, rfl⟩ ⟨Nat.le_of_ble_eq_true rfl, Nat.le_of_ble_eq_true rfl⟩ hl.1 rfl (Nat.le_of_ble_eq_true rfl) dL_isPutSo_27 ⟨Nat.le_of_ble_eq_true rfl, Nat.le_of_ble_eq_true rfl⟩ (fun _ _ _ _ _ h => h.2.elim (fun q => absurd rfl (q k hk)) (fun q => absurd rfl (q u (by omega)))) (fun v w' H locs hp hW hS => ?_)
      obtain ⟨ad8, dm8, ct8, rfl, hF8, k9, hk9, he9, u9, hu9, hf9, hK8, rfl⟩ := hp
      have he9 : k = k9 := nI_inj (by omega) (by omega) he9
      subst he9
      have hf9 : u = u9 := nI_inj (by omega) (by omega) hf9
      subst hf9
      rw [hS1] at hK8
      obtain ⟨adw2, dmw2, ctw2, hW, hJ⟩ : ∃ ad2 dm2 ct2, wd G A (ad2, dm2, ct2) _ ∧ J2 G a0 a1 ad2 dm2 ct2 S1 S1 := ⟨_, _, _, wd_sw hW, hJ.two hF8 hK8⟩
      refine ktop (y := nI b) (by rw [put_2, hg]; try rfl) ?_
      refine lv_iload hx hb dL_isPutSo_30 (lv_at hl 0 rfl) ?_
      refine lv_icmp_ne (tgt := 77) hx hb dL_isPutSo_32 (by decide) (fun c9 => ?_) (fun c9 => ?_)
      · exact absurd rfl c9
      · refine lv_aload_n hx hb dL_isPutSo_35 rfl (lv_at hl 2 rfl) ?_
        refine lv_iload_n hx hb dL_isPutSo_36 rfl (lv_at hl 4 rfl) ?_
        refine kc_Va 1 (s_get l G A adw2 dmw2 ctw2 S1 hst hJ.1 _ I1 (nI k)) F hE hW hS (0, 0) hJ.1.o0.1 hJ.1.o0.2 hJ.2.2.2.1 rfl [.int (nI k)] rfl kw_510 kw_511 kw_512 kw_1 kw_513 (by decide +kernel) rfl ⟨rfl, rfl⟩ ⟨Nat.le_of_ble_eq_true rfl, Nat.le_of_ble_eq_true rfl⟩ hl.1 rfl (Nat.le_of_ble_eq_true rfl) dL_isPutSo_37 ⟨Nat.le_of_ble_eq_true rfl, Nat.le_of_ble_eq_true rfl⟩ (fun _ _ _ _ _ h => absurd rfl (h.2 k hk)) (fun v w' H locs hp hW hS => ?_)
        obtain ⟨rfl, k9, hk9, he9, rfl⟩ := hp
        obtain rfl : k = k9 := nI_inj (by omega) (by omega) he9
        refine ktop (y := nI u) (by rw [g1]; rfl) ?_
        refine lv_iload_n hx hb dL_isPutSo_40 rfl (lv_at hl 5 rfl) ?_
        refine lv_icmp_ne (tgt := 77) hx hb dL_isPutSo_41 (by decide) (fun c9 => ?_) (fun c9 => ?_)
        · exact absurd rfl c9
        · refine lv_aload_n hx hb dL_isPutSo_44 rfl (lv_at hl 2 rfl) ?_
          refine lv_iload_n hx hb dL_isPutSo_45 rfl (lv_at hl 4 rfl) ?_
          refine kc_Va 1 (s_getByLeaves l G A adw2 dmw2 ctw2 S1 hst hJ.1 _ I1 (nI k)) F hE hW hS (0, 0) hJ.1.o0.1 hJ.1.o0.2 hJ.2.2.2.1 rfl [.int (nI k)] rfl kw_567 kw_568 kw_569 kw_1 kw_570 (by decide +kernel) rfl ⟨rfl, rfl⟩ ⟨Nat.le_of_ble_eq_true rfl, Nat.le_of_ble_eq_true rfl⟩ hl.1 rfl (Nat.le_of_ble_eq_true rfl) dL_isPutSo_46 ⟨Nat.le_of_ble_eq_true rfl, Nat.le_of_ble_eq_true rfl⟩ (fun _ _ _ _ _ h => absurd rfl (h.2 k hk)) (fun v w' H locs hp hW hS => ?_)
          obtain ⟨rfl, k9, hk9, he9, rfl⟩ := hp
          obtain rfl : k = k9 := nI_inj (by omega) (by omega) he9
          refine ktop (y := nI u) (by rw [g1]; rfl) ?_
          refine lv_iload_n hx hb dL_isPutSo_49 rfl (lv_at hl 5 rfl) ?_
          refine lv_icmp_ne (tgt := 77) hx hb dL_isPutSo_50 (by decide) (fun c9 => ?_) (fun c9 => ?_)
          · exact absurd rfl c9
          · refine lv_aload_n hx hb dL_isPutSo_53 rfl (lv_at hl 2 rfl) ?_
            refine kc_Va 0 (s_keys l G A adw2 dmw2 ctw2 S1 hJ.1) F hE hW hS (0, 0) hJ.1.o0.1 hJ.1.o0.2 hJ.2.2.2.1 rfl [] rfl kw_486 kw_487 kw_488 kw_1 kw_489 (by decide +kernel) rfl ⟨rfl, rfl⟩ ⟨Nat.le_of_ble_eq_true rfl, Nat.le_of_ble_eq_true rfl⟩ hl.1 rfl (Nat.le_of_ble_eq_true rfl) dL_isPutSo_54 ⟨Nat.le_of_ble_eq_true rfl, Nat.le_of_ble_eq_true rfl⟩ (fun _ _ _ _ _ h => h.elim) (fun v w' H locs hp hW hS => ?_)
            obtain ⟨rfl, rfl⟩ := hp
            refine lv_iload hx hb dL_isPutSo_57 (lv_at hl 1 rfl) ?_
            refine lv_iload hx hb dL_isPutSo_59 (lv_at hl 0 rfl) ?_
            refine nz_ge (tgt := 68) hx hb dL_isPutSo_61 (by decide) (by omega) ?_
            refine lv_iconst (v := nI 0) hx hb dL_isPutSo_68 (by decide) ?_
            refine lv_iadd hx hb dL_isPutSo_69 ?_
            refine ktop (nI_add _ _) ?_
            refine nc_ne (tgt := 77) hx hb dL_isPutSo_70 (by decide) (by omega) (by omega) (fun c4 => ?_) (fun c4 => ?_)
            · exfalso; omega
            · refine lv_iconst (v := nI 1) hx hb dL_isPutSo_73 (by decide) ?_
              refine lv_goto (tgt := 78) hx hb dL_isPutSo_74 (by decide) ?_
              refine lv_istore (lv' := [(6, .int (nI 1)), (5, .int (nI b)), (4, .int (nI (kcN S))), (0, .ref a0), (1, .ref a1), (2, .int (nI k)), (3, .int (nI u))]) hx hb dL_isPutSo_78 hl (by decide) rfl (fun ls hl => ?_)
              refine lv_iload hx hb dL_isPutSo_80 (lv_at hl 0 rfl) ?_
              refine nz_eq (tgt := 134) hx hb dL_isPutSo_82 (by decide) (by decide) (fun c9 => ?_) (fun c9 => ?_)
              · exact absurd c9 (by decide)
              · refine lv_aload_n hx hb dL_isPutSo_85 rfl (lv_at hl 3 rfl) ?_
                refine lv_iload_n hx hb dL_isPutSo_86 rfl (lv_at hl 5 rfl) ?_
                refine kc_Va 1 (s_take l G A adw2 dmw2 ctw2 S1 hst hJ.1 _ I1 (nI k)) F hE hW hS (0, 0) hJ.1.o0.1 hJ.1.o0.2 hJ.2.2.2.1 rfl [.int (nI k)] rfl kw_372 kw_373 kw_374 kw_1 kw_375 (by decide +kernel) rfl ⟨rfl, rfl⟩ ⟨Nat.le_of_ble_eq_true rfl, Nat.le_of_ble_eq_true rfl⟩ hl.1 rfl (Nat.le_of_ble_eq_true rfl) dL_isPutSo_87 ⟨Nat.le_of_ble_eq_true rfl, Nat.le_of_ble_eq_true rfl⟩ (fun _ _ _ _ _ h => absurd rfl (h.2 k hk)) (fun v w' H locs hp hW hS => ?_)
                obtain ⟨ad8, dm8, ct8, rfl, hF8, k9, hk9, he9, hK8, rfl⟩ := hp
                have he9 : k = k9 := nI_inj (by omega) (by omega) he9
                subst he9
                rw [hS2] at hK8
                obtain ⟨adw3, dmw3, ctw3, hW, hJ⟩ : ∃ ad2 dm2 ct2, wd G A (ad2, dm2, ct2) _ ∧ J2 G a0 a1 ad2 dm2 ct2 S2 S1 := ⟨_, _, _, hW, hJ.one hF8 hK8⟩
                refine ktop (y := nI u) (by rw [tak_2, g1]; try rfl) ?_
                refine lv_iload_n hx hb dL_isPutSo_90 rfl (lv_at hl 6 rfl) ?_
                refine lv_icmp_ne (tgt := 134) hx hb dL_isPutSo_91 (by decide) (fun c9 => ?_) (fun c9 => ?_)
                · exact absurd rfl c9
                · refine lv_aload_n hx hb dL_isPutSo_94 rfl (lv_at hl 4 rfl) ?_
                  refine lv_iload_n hx hb dL_isPutSo_95 rfl (lv_at hl 5 rfl) ?_
                  refine kc_Va 1 (s_take l G A (fun z => adw3 (sg z)) (fun z => dmw3 (sg z)) (fun z => ctw3 (sg z)) S1 hst hJ.2.1 _ I1 (nI k)) F hE (wd_sw hW) hS (0, 0) hJ.2.1.o0.1 hJ.2.1.o0.2 hJ.2.2.2.2 rfl [.int (nI k)] rfl kw_372 kw_373 kw_374 kw_1 kw_375 (by decide +kernel) rfl ⟨rfl, rfl⟩ ⟨Nat.le_of_ble_eq_true rfl, Nat.le_of_ble_eq_true rfl⟩ hl.1 rfl (Nat.le_of_ble_eq_true rfl) dL_isPutSo_96 ⟨Nat.le_of_ble_eq_true rfl, Nat.le_of_ble_eq_true rfl⟩ (fun _ _ _ _ _ h => absurd rfl (h.2 k hk)) (fun v w' H locs hp hW hS => ?_)
                  obtain ⟨ad8, dm8, ct8, rfl, hF8, k9, hk9, he9, hK8, rfl⟩ := hp
                  have he9 : k = k9 := nI_inj (by omega) (by omega) he9
                  subst he9
                  rw [hS2] at hK8
                  obtain ⟨adw4, dmw4, ctw4, hW, hJ⟩ : ∃ ad2 dm2 ct2, wd G A (ad2, dm2, ct2) _ ∧ J2 G a0 a1 ad2 dm2 ct2 S2 S2 := ⟨_, _, _, wd_sw hW, hJ.two hF8 hK8⟩
                  refine ktop (y := nI u) (by rw [tak_2, g1]; try rfl) ?_
                  refine lv_iload_n hx hb dL_isPutSo_99 rfl (lv_at hl 6 rfl) ?_
                  refine lv_icmp_ne (tgt := 134) hx hb dL_isPutSo_100 (by decide) (fun c9 => ?_) (fun c9 => ?_)
                  · exact absurd rfl c9
                  · refine lv_aload_n hx hb dL_isPutSo_103 rfl (lv_at hl 3 rfl) ?_
                    refine lv_iload_n hx hb dL_isPutSo_104 rfl (lv_at hl 5 rfl) ?_
                    refine kc_Va 1 (s_get l G A adw4 dmw4 ctw4 S2 hst hJ.1 _ I2 (nI k)) F hE hW hS (0, 0) hJ.1.o0.1 hJ.1.o0.2 hJ.2.2.2.1 rfl [.int (nI k)] rfl kw_510 kw_511 kw_512 kw_1 kw_513 (by decide +kernel) rfl ⟨rfl, rfl⟩ ⟨Nat.le_of_ble_eq_true rfl, Nat.le_of_ble_eq_true rfl⟩ hl.1 rfl (Nat.le_of_ble_eq_true rfl) dL_isPutSo_105 ⟨Nat.le_of_ble_eq_true rfl, Nat.le_of_ble_eq_true rfl⟩ (fun _ _ _ _ _ h => absurd rfl (h.2 k hk)) (fun v w' H locs hp hW hS => ?_)
                    obtain ⟨rfl, k9, hk9, he9, rfl⟩ := hp
                    obtain rfl : k = k9 := nI_inj (by omega) (by omega) he9
                    refine ktop (y := (-1)) (by rw [g2]; rfl) ?_
                    refine lv_iconst (v := (-1)) hx hb dL_isPutSo_108 (by decide) ?_
                    refine lv_icmp_ne (tgt := 134) hx hb dL_isPutSo_109 (by decide) (fun c9 => ?_) (fun c9 => ?_)
                    · exact absurd rfl c9
                    · refine lv_aload_n hx hb dL_isPutSo_112 rfl (lv_at hl 3 rfl) ?_
                      refine lv_iload_n hx hb dL_isPutSo_113 rfl (lv_at hl 5 rfl) ?_
                      refine kc_Va 1 (s_getByLeaves l G A adw4 dmw4 ctw4 S2 hst hJ.1 _ I2 (nI k)) F hE hW hS (0, 0) hJ.1.o0.1 hJ.1.o0.2 hJ.2.2.2.1 rfl [.int (nI k)] rfl kw_567 kw_568 kw_569 kw_1 kw_570 (by decide +kernel) rfl ⟨rfl, rfl⟩ ⟨Nat.le_of_ble_eq_true rfl, Nat.le_of_ble_eq_true rfl⟩ hl.1 rfl (Nat.le_of_ble_eq_true rfl) dL_isPutSo_114 ⟨Nat.le_of_ble_eq_true rfl, Nat.le_of_ble_eq_true rfl⟩ (fun _ _ _ _ _ h => absurd rfl (h.2 k hk)) (fun v w' H locs hp hW hS => ?_)
                      obtain ⟨rfl, k9, hk9, he9, rfl⟩ := hp
                      obtain rfl : k = k9 := nI_inj (by omega) (by omega) he9
                      refine ktop (y := (-1)) (by rw [g2]; rfl) ?_
                      refine lv_iconst (v := (-1)) hx hb dL_isPutSo_117 (by decide) ?_
                      refine lv_icmp_ne (tgt := 134) hx hb dL_isPutSo_118 (by decide) (fun c9 => ?_) (fun c9 => ?_)
                      · exact absurd rfl c9
                      · refine lv_aload_n hx hb dL_isPutSo_121 rfl (lv_at hl 3 rfl) ?_
                        refine lv_iload_n hx hb dL_isPutSo_122 rfl (lv_at hl 5 rfl) ?_
                        refine kc_Va 1 (s_take l G A adw4 dmw4 ctw4 S2 hst hJ.1 _ I2 (nI k)) F hE hW hS (0, 0) hJ.1.o0.1 hJ.1.o0.2 hJ.2.2.2.1 rfl [.int (nI k)] rfl kw_372 kw_373 kw_374 kw_1 kw_375 (by decide +kernel) rfl ⟨rfl, rfl⟩ ⟨Nat.le_of_ble_eq_true rfl, Nat.le_of_ble_eq_true rfl⟩ hl.1 rfl (Nat.le_of_ble_eq_true rfl) dL_isPutSo_123 ⟨Nat.le_of_ble_eq_true rfl, Nat.le_of_ble_eq_true rfl⟩ (fun _ _ _ _ _ h => absurd rfl (h.2 k hk)) (fun v w' H locs hp hW hS => ?_)
                        obtain ⟨ad8, dm8, ct8, rfl, hF8, k9, hk9, he9, hK8, rfl⟩ := hp
                        have he9 : k = k9 := nI_inj (by omega) (by omega) he9
                        subst he9
                        rw [s2] at hK8
                        obtain ⟨adw5, dmw5, ctw5, hW, hJ⟩ : ∃ ad2 dm2 ct2, wd G A (ad2, dm2, ct2) _ ∧ J2 G a0 a1 ad2 dm2 ct2 S2 S2 := ⟨_, _, _, hW, hJ.one hF8 hK8⟩
                        refine ktop (y := (-1)) (by rw [tak_2, g2]; try rfl) ?_
                        refine lv_iconst (v := (-1)) hx hb dL_isPutSo_126 (by decide) ?_
                        refine lv_icmp_ne (tgt := 134) hx hb dL_isPutSo_127 (by decide) (fun c9 => ?_) (fun c9 => ?_)
                        · exact absurd rfl c9
                        · refine lv_iconst (v := nI 1) hx hb dL_isPutSo_130 (by decide) ?_
                          refine lv_goto (tgt := 135) hx hb dL_isPutSo_131 (by decide) ?_
                          refine lv_istore (lv' := [(6, .int (nI 1)), (5, .int (nI b)), (4, .int (nI (kcN S))), (0, .ref a0), (1, .ref a1), (2, .int (nI k)), (3, .int (nI u))]) hx hb dL_isPutSo_135 hl (by decide) rfl (fun ls hl => ?_)
                          refine lv_iload hx hb dL_isPutSo_137 (lv_at hl 1 rfl) ?_
                          refine nz_lt (tgt := 176) hx hb dL_isPutSo_139 (by decide) (by omega) ?_
                          refine lv_iload hx hb dL_isPutSo_142 (lv_at hl 0 rfl) ?_
                          refine nz_eq (tgt := 173) hx hb dL_isPutSo_144 (by decide) (by decide) (fun c9 => ?_) (fun c9 => ?_)
                          · exact absurd c9 (by decide)
                          · refine lv_aload_n hx hb dL_isPutSo_147 rfl (lv_at hl 3 rfl) ?_
                            refine lv_iload_n hx hb dL_isPutSo_148 rfl (lv_at hl 5 rfl) ?_
                            refine lv_iload hx hb dL_isPutSo_149 (lv_at hl 1 rfl) ?_
                            obtain ⟨S3, hS3⟩ : ∃ S3, (putS S2 k b).1 = S3 := ⟨_, rfl⟩
                            have I3 := inv_put (s := S2) (v := b) I2 (by omega) hk hbv
                            have N3 := cn_put (v := b) I2 hk N2
                            have g3 := put_get (v := b) I2 (by omega) hk hbv
                            have q3 := put_kc (s := S2) (k := k) (v := b)
                            have P3 := put_P (s := S2) (k := k) (v := b)
                            rw [hS3] at I3 N3 g3 q3 P3
                            rw [g2] at q3
                            have c3 : kcN S3 ≤ 512 := by have := Inv_iff.mp I3; omega
                            have o1n : o1 none = 1 := rfl
                            refine kc_Va 2 (s_put l G A adw5 dmw5 ctw5 S2 hst hJ.1 _ I2 (nI k) (nI b)) F hE hW hS (0, 0) hJ.1.o0.1 hJ.1.o0.2 hJ.2.2.2.1 rfl [.int (nI k), .int (nI b)] rfl kw_285 kw_286 kw_287 kw_1 kw_288 (by decide +kernel) rfl ⟨rfl, rfl⟩ ⟨Nat.le_of_ble_eq_true rfl, Nat.le_of_ble_eq_true rfl⟩ hl.1 rfl (Nat.le_of_ble_eq_true rfl) dL_isPutSo_151 ⟨Nat.le_of_ble_eq_true rfl, Nat.le_of_ble_eq_true rfl⟩ (fun _ _ _ _ _ h => h.2.elim (fun q => absurd rfl (q k hk)) (fun q => absurd rfl (q b (by omega)))) (fun v w' H locs hp hW hS => ?_)
                            obtain ⟨ad8, dm8, ct8, rfl, hF8, k9, hk9, he9, u9, hu9, hf9, hK8, rfl⟩ := hp
                            have he9 : k = k9 := nI_inj (by omega) (by omega) he9
                            subst he9
                            have hf9 : b = u9 := nI_inj (by omega) (by omega) hf9
                            subst hf9
                            rw [hS3] at hK8
                            obtain ⟨adw6, dmw6, ctw6, hW, hJ⟩ : ∃ ad2 dm2 ct2, wd G A (ad2, dm2, ct2) _ ∧ J2 G a0 a1 ad2 dm2 ct2 S3 S2 := ⟨_, _, _, hW, hJ.one hF8 hK8⟩
                            refine ktop (y := (-1)) (by rw [put_2, g2]; try rfl) ?_
                            refine lv_iconst (v := (-1)) hx hb dL_isPutSo_154 (by decide) ?_
                            refine lv_icmp_ne (tgt := 173) hx hb dL_isPutSo_155 (by decide) (fun c9 => ?_) (fun c9 => ?_)
                            · exact absurd rfl c9
                            · refine lv_aload_n hx hb dL_isPutSo_158 rfl (lv_at hl 4 rfl) ?_
                              refine lv_iload_n hx hb dL_isPutSo_159 rfl (lv_at hl 5 rfl) ?_
                              refine lv_iload hx hb dL_isPutSo_160 (lv_at hl 1 rfl) ?_
                              refine kc_Va 2 (s_put l G A (fun z => adw6 (sg z)) (fun z => dmw6 (sg z)) (fun z => ctw6 (sg z)) S2 hst hJ.2.1 _ I2 (nI k) (nI b)) F hE (wd_sw hW) hS (0, 0) hJ.2.1.o0.1 hJ.2.1.o0.2 hJ.2.2.2.2 rfl [.int (nI k), .int (nI b)] rfl kw_285 kw_286 kw_287 kw_1 kw_288 (by decide +kernel) rfl ⟨rfl, rfl⟩ ⟨Nat.le_of_ble_eq_true rfl, Nat.le_of_ble_eq_true rfl⟩ hl.1 rfl (Nat.le_of_ble_eq_true rfl) dL_isPutSo_162 ⟨Nat.le_of_ble_eq_true rfl, Nat.le_of_ble_eq_true rfl⟩ (fun _ _ _ _ _ h => h.2.elim (fun q => absurd rfl (q k hk)) (fun q => absurd rfl (q b (by omega)))) (fun v w' H locs hp hW hS => ?_)
                              obtain ⟨ad8, dm8, ct8, rfl, hF8, k9, hk9, he9, u9, hu9, hf9, hK8, rfl⟩ := hp
                              have he9 : k = k9 := nI_inj (by omega) (by omega) he9
                              subst he9
                              have hf9 : b = u9 := nI_inj (by omega) (by omega) hf9
                              subst hf9
                              rw [hS3] at hK8
                              obtain ⟨adw7, dmw7, ctw7, hW, hJ⟩ : ∃ ad2 dm2 ct2, wd G A (ad2, dm2, ct2) _ ∧ J2 G a0 a1 ad2 dm2 ct2 S3 S3 := ⟨_, _, _, wd_sw hW, hJ.two hF8 hK8⟩
                              refine ktop (y := (-1)) (by rw [put_2, g2]; try rfl) ?_
                              refine lv_iconst (v := (-1)) hx hb dL_isPutSo_165 (by decide) ?_
                              refine lv_icmp_ne (tgt := 173) hx hb dL_isPutSo_166 (by decide) (fun c9 => ?_) (fun c9 => ?_)
                              · exact absurd rfl c9
                              · refine lv_iconst (v := nI 1) hx hb dL_isPutSo_169 (by decide) ?_
                                refine lv_goto (tgt := 174) hx hb dL_isPutSo_170 (by decide) ?_
                                refine lv_istore (lv' := [(6, .int (nI 1)), (5, .int (nI b)), (4, .int (nI (kcN S))), (0, .ref a0), (1, .ref a1), (2, .int (nI k)), (3, .int (nI u))]) hx hb dL_isPutSo_174 hl (by decide) rfl (fun ls hl => ?_)
                                refine lv_iload hx hb dL_isPutSo_176 (lv_at hl 0 rfl) ?_
                                refine nz_eq (tgt := 204) hx hb dL_isPutSo_178 (by decide) (by decide) (fun c9 => ?_) (fun c9 => ?_)
                                · exact absurd c9 (by decide)
                                · refine lv_aload_n hx hb dL_isPutSo_181 rfl (lv_at hl 3 rfl) ?_
                                  refine lv_iload_n hx hb dL_isPutSo_182 rfl (lv_at hl 5 rfl) ?_
                                  refine kc_Va 1 (s_get l G A adw7 dmw7 ctw7 S3 hst hJ.1 _ I3 (nI k)) F hE hW hS (0, 0) hJ.1.o0.1 hJ.1.o0.2 hJ.2.2.2.1 rfl [.int (nI k)] rfl kw_510 kw_511 kw_512 kw_1 kw_513 (by decide +kernel) rfl ⟨rfl, rfl⟩ ⟨Nat.le_of_ble_eq_true rfl, Nat.le_of_ble_eq_true rfl⟩ hl.1 rfl (Nat.le_of_ble_eq_true rfl) dL_isPutSo_183 ⟨Nat.le_of_ble_eq_true rfl, Nat.le_of_ble_eq_true rfl⟩ (fun _ _ _ _ _ h => absurd rfl (h.2 k hk)) (fun v w' H locs hp hW hS => ?_)
                                  obtain ⟨rfl, k9, hk9, he9, rfl⟩ := hp
                                  obtain rfl : k = k9 := nI_inj (by omega) (by omega) he9
                                  refine ktop (y := nI b) (by rw [g3]; rfl) ?_
                                  refine lv_iload hx hb dL_isPutSo_186 (lv_at hl 1 rfl) ?_
                                  refine lv_icmp_ne (tgt := 204) hx hb dL_isPutSo_188 (by decide) (fun c9 => ?_) (fun c9 => ?_)
                                  · exact absurd rfl c9
                                  · refine lv_aload_n hx hb dL_isPutSo_191 rfl (lv_at hl 3 rfl) ?_
                                    refine kc_Va 0 (s_keys l G A adw7 dmw7 ctw7 S3 hJ.1) F hE hW hS (0, 0) hJ.1.o0.1 hJ.1.o0.2 hJ.2.2.2.1 rfl [] rfl kw_486 kw_487 kw_488 kw_1 kw_489 (by decide +kernel) rfl ⟨rfl, rfl⟩ ⟨Nat.le_of_ble_eq_true rfl, Nat.le_of_ble_eq_true rfl⟩ hl.1 rfl (Nat.le_of_ble_eq_true rfl) dL_isPutSo_192 ⟨Nat.le_of_ble_eq_true rfl, Nat.le_of_ble_eq_true rfl⟩ (fun _ _ _ _ _ h => h.elim) (fun v w' H locs hp hW hS => ?_)
                                    obtain ⟨rfl, rfl⟩ := hp
                                    refine lv_iload hx hb dL_isPutSo_195 (lv_at hl 2 rfl) ?_
                                    refine nc_ne (tgt := 204) hx hb dL_isPutSo_197 (by decide) (by omega) (by omega) (fun c6 => ?_) (fun c6 => ?_)
                                    · exfalso; omega
                                    · refine lv_iconst (v := nI 1) hx hb dL_isPutSo_200 (by decide) ?_
                                      refine lv_goto (tgt := 205) hx hb dL_isPutSo_201 (by decide) ?_
                                      exact kr_z F hr hlk hE hW hS (Nat.le_of_ble_eq_true rfl) (Nat.le_of_ble_eq_true rfl) rfl dL_isPutSo_205 (⟨_, _, _, _, rfl, hJ, I3, N3, by omega, rfl⟩)
