/-! The law's areAlike: two objects in one state. -/
theorem wd_ws {G : GG} {A : Nat → Prop} {ad : Lb → Nat} {dm : Lb → Prop} {ct : Lb → va_E} {H : Heap} (h : wd G A (fun z => ad (sg z), fun z => dm (sg z), fun z => ct (sg z)) H) : wd G A (ad, dm, ct) H := by
  have h2 := wd_sw h
  simpa only [sg_sg] using h2
set_option maxRecDepth 100000 in
set_option maxHeartbeats 4000000 in
theorem c_L_areAlike (l : Launch) (G : GG) (A : Nat → Prop) (ad : Lb → Nat) (dm : Lb → Prop) (ct : Lb → va_E) (S : SG) (t0 : Nat) (hst : l.stackTraces = false) (hK : HK G ad dm ct S) (hKs : HK G (fun z => ad (sg z)) (fun z => dm (sg z)) (fun z => ct (sg z)) S) (hI : Inv S t0) :
    CT l yL_areAlike cL_areAlike 4 (some FieldType.boolean) { frames := 9, cells := 376, slots := 2256, locals := 165 } [.ref (ad (0, 0)), .ref (ad (100, 0))] G A (ad, dm, ct) (fun v w' => (ad, dm, ct) = w' ∧ v = some (.int (nI 1))) (fun _ => False) (376) (2256) := by
  obtain ⟨lv, lev, lo, hi, ri, sz, ky, vl, go, rt, ep, wq, wn, cn, op, cl, ca, ce, kc, nb⟩ := S
  have hH : HKF G ad dm ct lv lev lo hi ri sz ky vl go rt ep wq wn cn op cl ca ce kc nb := hK
  have hHs : HKF G (fun z => ad (sg z)) (fun z => dm (sg z)) (fun z => ct (sg z)) lv lev lo hi ri sz ky vl go rt ep wq wn cn op cl ca ce kc nb := hKs
  have hI0 := hI
  have hI : InvF lv lev lo hi ri sz ky vl go rt ep wq wn cn op cl ca ce kc nb 800 t0 := hI
  have hP := hI.1
  have hnb := inv_nb hI0
  have hb9 : nb ≤ 513 := hnb.1
  have hj8 : ∀ j, lv j = true → j < 800 := fun j hj => by have := (hP.1 j hj).1; omega
  refine ct_of (by decide) (Nat.le_of_ble_eq_true rfl) ?_
  intro p e s m below meth c ls F hr hlk hnm hex hE hW hl
  have hx := F.1
  have hb := F.2.1
  have hS : va_S A s.heap s.heap [] := va_S.rf
  have hl : lv_has ls 4 [(0, .ref (ad (0, 0))), (1, .ref (ad (100, 0)))] := hl
  refine lv_aload_n hx hb dL_areAlike_0 rfl (lv_at hl 0 rfl) ?_
  refine kc_V 0 (c_X2_keys l G A ad dm ct lv lev lo hi ri sz ky vl go rt ep wq wn cn op cl ca ce kc nb hH ) F hE hW hS (0, 0) hH.1.1 hH.2.1 rfl [] rfl kw_486 kw_487 kw_488 kw_1 kw_489 (by decide +kernel) rfl ⟨rfl, rfl⟩ ⟨Nat.le_of_ble_eq_true rfl, Nat.le_of_ble_eq_true rfl⟩ hl.1 rfl (Nat.le_of_ble_eq_true rfl) dL_areAlike_1 ⟨Nat.le_of_ble_eq_true rfl, Nat.le_of_ble_eq_true rfl⟩ (fun _ _ _ _ _ h => h.elim) (fun v w' H locs hp hW hS => ?_)
  obtain ⟨rfl, rfl⟩ := hp
  refine lv_aload_n hx hb dL_areAlike_4 rfl (lv_at hl 1 rfl) ?_
  refine kc_V 0 (c_X2_keys l G A (fun z => ad (sg z)) (fun z => dm (sg z)) (fun z => ct (sg z)) lv lev lo hi ri sz ky vl go rt ep wq wn cn op cl ca ce kc nb hHs ) F hE (wd_sw hW) hS (0, 0) hHs.1.1 hHs.2.1 rfl [] rfl kw_486 kw_487 kw_488 kw_1 kw_489 (by decide +kernel) rfl ⟨rfl, rfl⟩ ⟨Nat.le_of_ble_eq_true rfl, Nat.le_of_ble_eq_true rfl⟩ hl.1 rfl (Nat.le_of_ble_eq_true rfl) dL_areAlike_5 ⟨Nat.le_of_ble_eq_true rfl, Nat.le_of_ble_eq_true rfl⟩ (fun _ _ _ _ _ h => h.elim) (fun v w' H locs hp hW hS => ?_)
  obtain ⟨rfl, rfl⟩ := hp
  have hW := wd_ws hW
  refine lv_icmp_ne (tgt := 70) hx hb dL_areAlike_8 (by decide) (fun c9 => ?_) (fun c9 => ?_)
  · exact absurd rfl c9
  · refine lv_aload_n hx hb dL_areAlike_11 rfl (lv_at hl 0 rfl) ?_
    refine kc_V 0 (c_X2_pages l G A ad dm ct lv lev lo hi ri sz ky vl go rt ep wq wn cn op cl ca ce kc nb hH t0 hI) F hE hW hS (0, 0) hH.1.1 hH.2.1 rfl [] rfl kw_490 kw_491 kw_492 kw_1 kw_493 (by decide +kernel) rfl ⟨rfl, rfl⟩ ⟨Nat.le_of_ble_eq_true rfl, Nat.le_of_ble_eq_true rfl⟩ hl.1 rfl (Nat.le_of_ble_eq_true rfl) dL_areAlike_12 ⟨Nat.le_of_ble_eq_true rfl, Nat.le_of_ble_eq_true rfl⟩ (fun _ _ _ _ _ h => h.elim) (fun v w' H locs hp hW hS => ?_)
    obtain ⟨rfl, rfl⟩ := hp
    refine lv_aload_n hx hb dL_areAlike_15 rfl (lv_at hl 1 rfl) ?_
    refine kc_V 0 (c_X2_pages l G A (fun z => ad (sg z)) (fun z => dm (sg z)) (fun z => ct (sg z)) lv lev lo hi ri sz ky vl go rt ep wq wn cn op cl ca ce kc nb hHs t0 hI) F hE (wd_sw hW) hS (0, 0) hHs.1.1 hHs.2.1 rfl [] rfl kw_490 kw_491 kw_492 kw_1 kw_493 (by decide +kernel) rfl ⟨rfl, rfl⟩ ⟨Nat.le_of_ble_eq_true rfl, Nat.le_of_ble_eq_true rfl⟩ hl.1 rfl (Nat.le_of_ble_eq_true rfl) dL_areAlike_16 ⟨Nat.le_of_ble_eq_true rfl, Nat.le_of_ble_eq_true rfl⟩ (fun _ _ _ _ _ h => h.elim) (fun v w' H locs hp hW hS => ?_)
    obtain ⟨rfl, rfl⟩ := hp
    have hW := wd_ws hW
    refine lv_icmp_ne (tgt := 70) hx hb dL_areAlike_19 (by decide) (fun c9 => ?_) (fun c9 => ?_)
    · exact absurd rfl c9
    · refine lv_aload_n hx hb dL_areAlike_22 rfl (lv_at hl 0 rfl) ?_
      refine kc_V 0 (c_X2_dead l G A ad dm ct lv lev lo hi ri sz ky vl go rt ep wq wn cn op cl ca ce kc nb hH t0 hI) F hE hW hS (0, 0) hH.1.1 hH.2.1 rfl [] rfl kw_494 kw_495 kw_496 kw_1 kw_497 (by decide +kernel) rfl ⟨rfl, rfl⟩ ⟨Nat.le_of_ble_eq_true rfl, Nat.le_of_ble_eq_true rfl⟩ hl.1 rfl (Nat.le_of_ble_eq_true rfl) dL_areAlike_23 ⟨Nat.le_of_ble_eq_true rfl, Nat.le_of_ble_eq_true rfl⟩ (fun _ _ _ _ _ h => h.elim) (fun v w' H locs hp hW hS => ?_)
      obtain ⟨rfl, rfl⟩ := hp
      refine lv_aload_n hx hb dL_areAlike_26 rfl (lv_at hl 1 rfl) ?_
      refine kc_V 0 (c_X2_dead l G A (fun z => ad (sg z)) (fun z => dm (sg z)) (fun z => ct (sg z)) lv lev lo hi ri sz ky vl go rt ep wq wn cn op cl ca ce kc nb hHs t0 hI) F hE (wd_sw hW) hS (0, 0) hHs.1.1 hHs.2.1 rfl [] rfl kw_494 kw_495 kw_496 kw_1 kw_497 (by decide +kernel) rfl ⟨rfl, rfl⟩ ⟨Nat.le_of_ble_eq_true rfl, Nat.le_of_ble_eq_true rfl⟩ hl.1 rfl (Nat.le_of_ble_eq_true rfl) dL_areAlike_27 ⟨Nat.le_of_ble_eq_true rfl, Nat.le_of_ble_eq_true rfl⟩ (fun _ _ _ _ _ h => h.elim) (fun v w' H locs hp hW hS => ?_)
      obtain ⟨rfl, rfl⟩ := hp
      have hW := wd_ws hW
      refine lv_icmp_ne (tgt := 70) hx hb dL_areAlike_30 (by decide) (fun c9 => ?_) (fun c9 => ?_)
      · exact absurd rfl c9
      · refine lv_aload_n hx hb dL_areAlike_33 rfl (lv_at hl 0 rfl) ?_
        refine kc_V 0 (c_X2_epoch l G A ad dm ct lv lev lo hi ri sz ky vl go rt ep wq wn cn op cl ca ce kc nb hH ) F hE hW hS (0, 0) hH.1.1 hH.2.1 rfl [] rfl kw_498 kw_499 kw_500 kw_1 kw_501 (by decide +kernel) rfl ⟨rfl, rfl⟩ ⟨Nat.le_of_ble_eq_true rfl, Nat.le_of_ble_eq_true rfl⟩ hl.1 rfl (Nat.le_of_ble_eq_true rfl) dL_areAlike_34 ⟨Nat.le_of_ble_eq_true rfl, Nat.le_of_ble_eq_true rfl⟩ (fun _ _ _ _ _ h => h.elim) (fun v w' H locs hp hW hS => ?_)
        obtain ⟨rfl, rfl⟩ := hp
        refine lv_aload_n hx hb dL_areAlike_37 rfl (lv_at hl 1 rfl) ?_
        refine kc_V 0 (c_X2_epoch l G A (fun z => ad (sg z)) (fun z => dm (sg z)) (fun z => ct (sg z)) lv lev lo hi ri sz ky vl go rt ep wq wn cn op cl ca ce kc nb hHs ) F hE (wd_sw hW) hS (0, 0) hHs.1.1 hHs.2.1 rfl [] rfl kw_498 kw_499 kw_500 kw_1 kw_501 (by decide +kernel) rfl ⟨rfl, rfl⟩ ⟨Nat.le_of_ble_eq_true rfl, Nat.le_of_ble_eq_true rfl⟩ hl.1 rfl (Nat.le_of_ble_eq_true rfl) dL_areAlike_38 ⟨Nat.le_of_ble_eq_true rfl, Nat.le_of_ble_eq_true rfl⟩ (fun _ _ _ _ _ h => h.elim) (fun v w' H locs hp hW hS => ?_)
        obtain ⟨rfl, rfl⟩ := hp
        have hW := wd_ws hW
        refine lv_icmp_ne (tgt := 70) hx hb dL_areAlike_41 (by decide) (fun c9 => ?_) (fun c9 => ?_)
        · exact absurd rfl c9
        · refine lv_aload_n hx hb dL_areAlike_44 rfl (lv_at hl 0 rfl) ?_
          refine kc_V 0 (c_X2_root l G A ad dm ct lv lev lo hi ri sz ky vl go rt ep wq wn cn op cl ca ce kc nb hH hP.2.2.2.2.2.2.2.1.1.1) F hE hW hS (0, 0) hH.1.1 hH.2.1 rfl [] rfl kw_502 kw_503 kw_504 kw_1 kw_505 (by decide +kernel) rfl ⟨rfl, rfl⟩ ⟨Nat.le_of_ble_eq_true rfl, Nat.le_of_ble_eq_true rfl⟩ hl.1 rfl (Nat.le_of_ble_eq_true rfl) dL_areAlike_45 ⟨Nat.le_of_ble_eq_true rfl, Nat.le_of_ble_eq_true rfl⟩ (fun _ _ _ _ _ h => h.elim) (fun v w' H locs hp hW hS => ?_)
          obtain ⟨rfl, rfl⟩ := hp
          refine lv_aload_n hx hb dL_areAlike_48 rfl (lv_at hl 1 rfl) ?_
          refine kc_V 0 (c_X2_root l G A (fun z => ad (sg z)) (fun z => dm (sg z)) (fun z => ct (sg z)) lv lev lo hi ri sz ky vl go rt ep wq wn cn op cl ca ce kc nb hHs hP.2.2.2.2.2.2.2.1.1.1) F hE (wd_sw hW) hS (0, 0) hHs.1.1 hHs.2.1 rfl [] rfl kw_502 kw_503 kw_504 kw_1 kw_505 (by decide +kernel) rfl ⟨rfl, rfl⟩ ⟨Nat.le_of_ble_eq_true rfl, Nat.le_of_ble_eq_true rfl⟩ hl.1 rfl (Nat.le_of_ble_eq_true rfl) dL_areAlike_49 ⟨Nat.le_of_ble_eq_true rfl, Nat.le_of_ble_eq_true rfl⟩ (fun _ _ _ _ _ h => h.elim) (fun v w' H locs hp hW hS => ?_)
          obtain ⟨rfl, rfl⟩ := hp
          have hW := wd_ws hW
          refine lv_icmp_ne (tgt := 70) hx hb dL_areAlike_52 (by decide) (fun c9 => ?_) (fun c9 => ?_)
          · exact absurd rfl c9
          · refine lv_aload_n hx hb dL_areAlike_55 rfl (lv_at hl 0 rfl) ?_
            refine kc_V 0 (c_X2_waiting l G A ad dm ct lv lev lo hi ri sz ky vl go rt ep wq wn cn op cl ca ce kc nb hH ) F hE hW hS (0, 0) hH.1.1 hH.2.1 rfl [] rfl kw_506 kw_507 kw_508 kw_1 kw_509 (by decide +kernel) rfl ⟨rfl, rfl⟩ ⟨Nat.le_of_ble_eq_true rfl, Nat.le_of_ble_eq_true rfl⟩ hl.1 rfl (Nat.le_of_ble_eq_true rfl) dL_areAlike_56 ⟨Nat.le_of_ble_eq_true rfl, Nat.le_of_ble_eq_true rfl⟩ (fun _ _ _ _ _ h => h.elim) (fun v w' H locs hp hW hS => ?_)
            obtain ⟨rfl, rfl⟩ := hp
            refine lv_aload_n hx hb dL_areAlike_59 rfl (lv_at hl 1 rfl) ?_
            refine kc_V 0 (c_X2_waiting l G A (fun z => ad (sg z)) (fun z => dm (sg z)) (fun z => ct (sg z)) lv lev lo hi ri sz ky vl go rt ep wq wn cn op cl ca ce kc nb hHs ) F hE (wd_sw hW) hS (0, 0) hHs.1.1 hHs.2.1 rfl [] rfl kw_506 kw_507 kw_508 kw_1 kw_509 (by decide +kernel) rfl ⟨rfl, rfl⟩ ⟨Nat.le_of_ble_eq_true rfl, Nat.le_of_ble_eq_true rfl⟩ hl.1 rfl (Nat.le_of_ble_eq_true rfl) dL_areAlike_60 ⟨Nat.le_of_ble_eq_true rfl, Nat.le_of_ble_eq_true rfl⟩ (fun _ _ _ _ _ h => h.elim) (fun v w' H locs hp hW hS => ?_)
            obtain ⟨rfl, rfl⟩ := hp
            have hW := wd_ws hW
            refine lv_icmp_ne (tgt := 70) hx hb dL_areAlike_63 (by decide) (fun c9 => ?_) (fun c9 => ?_)
            · exact absurd rfl c9
            · refine lv_iconst (v := nI 1) hx hb dL_areAlike_66 (by decide) ?_
              refine lv_goto (tgt := 71) hx hb dL_areAlike_67 (by decide) ?_
              refine lv_istore_n (lv' := [(2, .int (nI 1)), (0, .ref (ad (0, 0))), (1, .ref (ad (100, 0)))]) hx hb dL_areAlike_71 rfl hl (by decide) rfl (fun ls hl => ?_)
              refine lv_iconst (v := nI 0) hx hb dL_areAlike_72 (by decide) ?_
              refine lv_istore_n (lv' := [(3, .int (nI 0)), (2, .int (nI 1)), (0, .ref (ad (0, 0))), (1, .ref (ad (100, 0)))]) hx hb dL_areAlike_73 rfl hl (by decide) rfl (fun ls hl => ?_)
              suffices loop1 : ∀ (d i : Nat) (H : Heap) (locs : List Loc) (ls : Array Slot) (cells slots : Nat), i + d = 29 → cells ≤ 4 * i → slots ≤ 24 * i → wd G A (ad, dm, ct) H → va_S A s.heap H locs → lv_has ls 4 [(3, .int (nI (7 * i))), (2, .int (nI 1)), (0, .ref (ad (0, 0))), (1, .ref (ad (100, 0)))] → W p l e { frames := 9, cells := 376, slots := 2256, locals := 165 } s m #[.ref (ad (0, 0)), .ref (ad (100, 0))] below meth c H locs cells slots (vx_MQ below (QK G A (fun v w' => (ad, dm, ct) = w' ∧ v = some (.int (nI 1)))) (XK G A (ad, dm, ct) (fun _ => False)) #[.ref (ad (0, 0)), .ref (ad (100, 0))] s (376) (2256) A) (F0 m 74 ls []) by
                exact loop1 29 0 _ _ _ _ _ (by decide) (Nat.le_of_ble_eq_true rfl) (Nat.le_of_ble_eq_true rfl) hW hS hl
              suffices loop2 : ∀ (d k : Nat) (H : Heap) (locs : List Loc) (ls : Array Slot) (cells slots : Nat), k + d = 20 → cells ≤ 116 + 13 * k → slots ≤ 696 + 78 * k → wd G A (ad, dm, ct) H → va_S A s.heap H locs → lv_has ls 4 [(3, .int (nI k)), (2, .int (nI 1)), (0, .ref (ad (0, 0))), (1, .ref (ad (100, 0)))] → W p l e { frames := 9, cells := 376, slots := 2256, locals := 165 } s m #[.ref (ad (0, 0)), .ref (ad (100, 0))] below meth c H locs cells slots (vx_MQ below (QK G A (fun v w' => (ad, dm, ct) = w' ∧ v = some (.int (nI 1)))) (XK G A (ad, dm, ct) (fun _ => False)) #[.ref (ad (0, 0)), .ref (ad (100, 0))] s (376) (2256) A) (F0 m 125 ls []) by
                clear hl hS hW
                intro d
                induction d with
                | zero =>
                  intro i H locs ls cells slots hd9 hc9 hs9 hW hS hl
                  refine lv_iload_n hx hb dL_areAlike_74 rfl (lv_at hl 0 rfl) ?_
                  refine lv_sipush (v := nI 200) hx hb dL_areAlike_75 (by decide) ?_
                  refine nc_ge (tgt := 123) hx hb dL_areAlike_78 (by decide) (by omega) (by omega) (fun c1 => ?_) (fun c1 => ?_)
                  · refine lv_iconst (v := nI 0) hx hb dL_areAlike_123 (by decide) ?_
                    refine lv_istore_n (lv' := [(3, .int (nI 0)), (2, .int (nI 1)), (0, .ref (ad (0, 0))), (1, .ref (ad (100, 0)))]) hx hb dL_areAlike_124 rfl hl (by decide) rfl (fun ls hl => ?_)
                    exact loop2 20 0 _ _ _ _ _ (by decide) (by omega) (by omega) hW hS hl
                  · exfalso; omega
                | succ d ih =>
                  intro i H locs ls cells slots hd9 hc9 hs9 hW hS hl
                  refine lv_iload_n hx hb dL_areAlike_74 rfl (lv_at hl 0 rfl) ?_
                  refine lv_sipush (v := nI 200) hx hb dL_areAlike_75 (by decide) ?_
                  refine nc_ge (tgt := 123) hx hb dL_areAlike_78 (by decide) (by omega) (by omega) (fun c1 => ?_) (fun c1 => ?_)
                  · refine lv_iconst (v := nI 0) hx hb dL_areAlike_123 (by decide) ?_
                    refine lv_istore_n (lv' := [(3, .int (nI 0)), (2, .int (nI 1)), (0, .ref (ad (0, 0))), (1, .ref (ad (100, 0)))]) hx hb dL_areAlike_124 rfl hl (by decide) rfl (fun ls hl => ?_)
                    exact loop2 20 0 _ _ _ _ _ (by decide) (by omega) (by omega) hW hS hl
                  · refine lv_iload_n hx hb dL_areAlike_81 rfl (lv_at hl 1 rfl) ?_
                    refine nz_eq (tgt := 123) hx hb dL_areAlike_82 (by decide) (by decide) (fun c9 => ?_) (fun c9 => ?_)
                    · exact absurd c9 (by decide)
                    · refine lv_aload_n hx hb dL_areAlike_85 rfl (lv_at hl 2 rfl) ?_
                      refine lv_iload_n hx hb dL_areAlike_86 rfl (lv_at hl 0 rfl) ?_
                      refine kc_V 1 (c_X2_get l G A ad dm ct lv lev lo hi ri sz ky vl go rt ep wq wn cn op cl ca ce kc nb hst hH t0 hI (nI (7 * i))) F hE hW hS (0, 0) hH.1.1 hH.2.1 rfl [.int (nI (7 * i))] rfl kw_510 kw_511 kw_512 kw_1 kw_513 (by decide +kernel) rfl ⟨rfl, rfl⟩ ⟨Nat.le_of_ble_eq_true rfl, Nat.le_of_ble_eq_true rfl⟩ hl.1 rfl (Nat.le_of_ble_eq_true rfl) dL_areAlike_87 ⟨(by show _ ≤ 376; omega), (by show _ ≤ 2256; omega)⟩ (fun _ _ _ _ _ h => absurd rfl (h.2 (7 * i) c1)) (fun v w' H locs hp hW hS => ?_)
                      obtain ⟨rfl, k9, hk9, he9, rfl⟩ := hp
                      obtain rfl : 7 * i = k9 := nI_inj (by omega) (by omega) he9
                      refine lv_aload_n hx hb dL_areAlike_90 rfl (lv_at hl 3 rfl) ?_
                      refine lv_iload_n hx hb dL_areAlike_91 rfl (lv_at hl 0 rfl) ?_
                      refine kc_V 1 (c_X2_get l G A (fun z => ad (sg z)) (fun z => dm (sg z)) (fun z => ct (sg z)) lv lev lo hi ri sz ky vl go rt ep wq wn cn op cl ca ce kc nb hst hHs t0 hI (nI (7 * i))) F hE (wd_sw hW) hS (0, 0) hHs.1.1 hHs.2.1 rfl [.int (nI (7 * i))] rfl kw_510 kw_511 kw_512 kw_1 kw_513 (by decide +kernel) rfl ⟨rfl, rfl⟩ ⟨Nat.le_of_ble_eq_true rfl, Nat.le_of_ble_eq_true rfl⟩ hl.1 rfl (Nat.le_of_ble_eq_true rfl) dL_areAlike_92 ⟨(by show _ ≤ 376; omega), (by show _ ≤ 2256; omega)⟩ (fun _ _ _ _ _ h => absurd rfl (h.2 (7 * i) c1)) (fun v w' H locs hp hW hS => ?_)
                      obtain ⟨rfl, k9, hk9, he9, rfl⟩ := hp
                      obtain rfl : 7 * i = k9 := nI_inj (by omega) (by omega) he9
                      have hW := wd_ws hW
                      refine lv_icmp_ne (tgt := 115) hx hb dL_areAlike_95 (by decide) (fun c9 => ?_) (fun c9 => ?_)
                      · exact absurd rfl c9
                      · refine lv_aload_n hx hb dL_areAlike_98 rfl (lv_at hl 2 rfl) ?_
                        refine lv_iload_n hx hb dL_areAlike_99 rfl (lv_at hl 0 rfl) ?_
                        refine kc_V 1 (c_X2_links l G A ad dm ct lv lev lo hi ri sz ky vl go rt ep wq wn cn op cl ca ce kc nb hst hH t0 hI (nI (7 * i))) F hE hW hS (0, 0) hH.1.1 hH.2.1 rfl [.int (nI (7 * i))] rfl kw_514 kw_515 kw_516 kw_1 kw_517 (by decide +kernel) rfl ⟨rfl, rfl⟩ ⟨Nat.le_of_ble_eq_true rfl, Nat.le_of_ble_eq_true rfl⟩ hl.1 rfl (Nat.le_of_ble_eq_true rfl) dL_areAlike_100 ⟨(by show _ ≤ 376; omega), (by show _ ≤ 2256; omega)⟩ (fun _ _ _ _ _ h => absurd rfl (h.2 (7 * i) c1)) (fun v w' H locs hp hW hS => ?_)
                        obtain ⟨rfl, k9, hk9, he9, rfl⟩ := hp
                        obtain rfl : 7 * i = k9 := nI_inj (by omega) (by omega) he9
                        refine lv_aload_n hx hb dL_areAlike_103 rfl (lv_at hl 3 rfl) ?_
                        refine lv_iload_n hx hb dL_areAlike_104 rfl (lv_at hl 0 rfl) ?_
                        refine kc_V 1 (c_X2_links l G A (fun z => ad (sg z)) (fun z => dm (sg z)) (fun z => ct (sg z)) lv lev lo hi ri sz ky vl go rt ep wq wn cn op cl ca ce kc nb hst hHs t0 hI (nI (7 * i))) F hE (wd_sw hW) hS (0, 0) hHs.1.1 hHs.2.1 rfl [.int (nI (7 * i))] rfl kw_514 kw_515 kw_516 kw_1 kw_517 (by decide +kernel) rfl ⟨rfl, rfl⟩ ⟨Nat.le_of_ble_eq_true rfl, Nat.le_of_ble_eq_true rfl⟩ hl.1 rfl (Nat.le_of_ble_eq_true rfl) dL_areAlike_105 ⟨(by show _ ≤ 376; omega), (by show _ ≤ 2256; omega)⟩ (fun _ _ _ _ _ h => absurd rfl (h.2 (7 * i) c1)) (fun v w' H locs hp hW hS => ?_)
                        obtain ⟨rfl, k9, hk9, he9, rfl⟩ := hp
                        obtain rfl : 7 * i = k9 := nI_inj (by omega) (by omega) he9
                        have hW := wd_ws hW
                        refine lv_icmp_ne (tgt := 115) hx hb dL_areAlike_108 (by decide) (fun c9 => ?_) (fun c9 => ?_)
                        · exact absurd rfl c9
                        · refine lv_iconst (v := nI 1) hx hb dL_areAlike_111 (by decide) ?_
                          refine lv_goto (tgt := 116) hx hb dL_areAlike_112 (by decide) ?_
                          refine lv_istore_n (lv' := [(2, .int (nI 1)), (3, .int (nI (7 * i))), (0, .ref (ad (0, 0))), (1, .ref (ad (100, 0)))]) hx hb dL_areAlike_116 rfl hl (by decide) rfl (fun ls hl => ?_)
                          refine lv_iinc (v := nI (7 * i + 7)) (lv' := [(3, .int (nI (7 * i + 7))), (2, .int (nI 1)), (0, .ref (ad (0, 0))), (1, .ref (ad (100, 0)))]) hx hb dL_areAlike_117 hl (k := 1) rfl (nI_add _ _) (by decide) rfl (fun ls hl => ?_)
                          refine lv_goto (tgt := 74) hx hb dL_areAlike_120 (by decide) ?_
                          exact ih (i + 1) _ _ _ _ _ (by omega) (by omega) (by omega) hW hS (by rw [Nat.mul_succ]; exact lv_sub hl [0, 1, 2, 3] rfl)
              clear hl hS hW
              intro d
              induction d with
              | zero =>
                intro k H locs ls cells slots hd9 hc9 hs9 hW hS hl
                refine lv_iload_n hx hb dL_areAlike_125 rfl (lv_at hl 0 rfl) ?_
                refine lv_bipush (v := nI 20) hx hb dL_areAlike_126 (by decide) ?_
                refine nc_ge (tgt := 222) hx hb dL_areAlike_128 (by decide) (by omega) (by omega) (fun c1 => ?_) (fun c1 => ?_)
                · refine lv_iload_n hx hb dL_areAlike_222 rfl (lv_at hl 1 rfl) ?_
                  exact kr_z F hr hlk hE hW hS (by omega) (by omega) rfl dL_areAlike_223 (⟨rfl, rfl⟩)
                · exfalso; omega
              | succ d ih =>
                intro k H locs ls cells slots hd9 hc9 hs9 hW hS hl
                refine lv_iload_n hx hb dL_areAlike_125 rfl (lv_at hl 0 rfl) ?_
                refine lv_bipush (v := nI 20) hx hb dL_areAlike_126 (by decide) ?_
                refine nc_ge (tgt := 222) hx hb dL_areAlike_128 (by decide) (by omega) (by omega) (fun c1 => ?_) (fun c1 => ?_)
                · refine lv_iload_n hx hb dL_areAlike_222 rfl (lv_at hl 1 rfl) ?_
                  exact kr_z F hr hlk hE hW hS (by omega) (by omega) rfl dL_areAlike_223 (⟨rfl, rfl⟩)
                · refine lv_iload_n hx hb dL_areAlike_131 rfl (lv_at hl 1 rfl) ?_
                  refine nz_eq (tgt := 222) hx hb dL_areAlike_132 (by decide) (by decide) (fun c9 => ?_) (fun c9 => ?_)
                  · exact absurd c9 (by decide)
                  · refine lv_aload_n hx hb dL_areAlike_135 rfl (lv_at hl 2 rfl) ?_
                    refine lv_iload_n hx hb dL_areAlike_136 rfl (lv_at hl 0 rfl) ?_
                    refine kc_SH 2 (c_L_level l G A ad dm ct (lv, lev, lo, hi, ri, sz, ky, vl, go, rt, ep, wq, wn, cn, op, cl, ca, ce, kc, nb) t0 hst hH hI0 (nI k)) F hE hW hS kw_518 kw_519 kw_0 kw_520 (by decide +kernel) rfl ⟨rfl, rfl⟩ ⟨Nat.le_of_ble_eq_true rfl, Nat.le_of_ble_eq_true rfl⟩ hl.1 rfl (Nat.le_of_ble_eq_true rfl) dL_areAlike_137 ⟨(by show _ ≤ 376; omega), (by show _ ≤ 2256; omega)⟩ (fun v w' H locs hp hW hS => ?_)
                    obtain ⟨rfl, rfl⟩ := hp
                    refine lv_aload_n hx hb dL_areAlike_140 rfl (lv_at hl 3 rfl) ?_
                    refine lv_iload_n hx hb dL_areAlike_141 rfl (lv_at hl 0 rfl) ?_
                    refine kc_SH 2 (c_L_level l G A (fun z => ad (sg z)) (fun z => dm (sg z)) (fun z => ct (sg z)) (lv, lev, lo, hi, ri, sz, ky, vl, go, rt, ep, wq, wn, cn, op, cl, ca, ce, kc, nb) t0 hst hHs hI0 (nI k)) F hE (wd_sw hW) hS kw_518 kw_519 kw_0 kw_520 (by decide +kernel) rfl ⟨rfl, rfl⟩ ⟨Nat.le_of_ble_eq_true rfl, Nat.le_of_ble_eq_true rfl⟩ hl.1 rfl (Nat.le_of_ble_eq_true rfl) dL_areAlike_142 ⟨(by show _ ≤ 376; omega), (by show _ ≤ 2256; omega)⟩ (fun v w' H locs hp hW hS => ?_)
                    obtain ⟨rfl, rfl⟩ := hp
                    have hW := wd_ws hW
                    refine lv_icmp_ne (tgt := 214) hx hb dL_areAlike_145 (by decide) (fun c9 => ?_) (fun c9 => ?_)
                    · exact absurd rfl c9
                    · refine lv_aload_n hx hb dL_areAlike_148 rfl (lv_at hl 2 rfl) ?_
                      refine lv_iload_n hx hb dL_areAlike_149 rfl (lv_at hl 0 rfl) ?_
                      refine kc_SH 2 (c_L_level l G A ad dm ct (lv, lev, lo, hi, ri, sz, ky, vl, go, rt, ep, wq, wn, cn, op, cl, ca, ce, kc, nb) t0 hst hH hI0 (nI k)) F hE hW hS kw_518 kw_519 kw_0 kw_520 (by decide +kernel) rfl ⟨rfl, rfl⟩ ⟨Nat.le_of_ble_eq_true rfl, Nat.le_of_ble_eq_true rfl⟩ hl.1 rfl (Nat.le_of_ble_eq_true rfl) dL_areAlike_150 ⟨(by show _ ≤ 376; omega), (by show _ ≤ 2256; omega)⟩ (fun v w' H locs hp hW hS => ?_)
                      obtain ⟨rfl, rfl⟩ := hp
                      by_cases hv9 : lv k = true
                      · refine ktop (y := nI (lev k)) (lwF_some (s := (lv, lev, lo, hi, ri, sz, ky, vl, go, rt, ep, wq, wn, cn, op, cl, ca, ce, kc, nb)) hv9 (by omega)) ?_
                        have hlv9 : lev k < 2 ^ 31 := by have := (hP.1 k hv9).2.1; have := hP.2.2.2.2.2.2.2.2.2; omega
                        refine nz_lt (tgt := 210) hx hb dL_areAlike_153 (by decide) hlv9 ?_
                        refine lv_aload_n hx hb dL_areAlike_156 rfl (lv_at hl 2 rfl) ?_
                        refine lv_iload_n hx hb dL_areAlike_157 rfl (lv_at hl 0 rfl) ?_
                        refine kc_V 1 (c_X2_size l G A ad dm ct lv lev lo hi ri sz ky vl go rt ep wq wn cn op cl ca ce kc nb hst hH t0 hI (nI k)) F hE hW hS (0, 0) hH.1.1 hH.2.1 rfl [.int (nI k)] rfl kw_530 kw_531 kw_532 kw_1 kw_533 (by decide +kernel) rfl ⟨rfl, rfl⟩ ⟨Nat.le_of_ble_eq_true rfl, Nat.le_of_ble_eq_true rfl⟩ hl.1 rfl (Nat.le_of_ble_eq_true rfl) dL_areAlike_158 ⟨(by show _ ≤ 376; omega), (by show _ ≤ 2256; omega)⟩ (fun _ _ _ _ _ h => absurd rfl (h.2 k hv9)) (fun v w' H locs hp hW hS => ?_)
                        obtain ⟨rfl, j9, he9, hl9, rfl⟩ := hp
                        have he9 : k = j9 := nI_inj (by have := hj8 _ hv9; omega) (by have := hj8 _ hl9; omega) he9
                        subst he9
                        refine lv_aload_n hx hb dL_areAlike_161 rfl (lv_at hl 3 rfl) ?_
                        refine lv_iload_n hx hb dL_areAlike_162 rfl (lv_at hl 0 rfl) ?_
                        refine kc_V 1 (c_X2_size l G A (fun z => ad (sg z)) (fun z => dm (sg z)) (fun z => ct (sg z)) lv lev lo hi ri sz ky vl go rt ep wq wn cn op cl ca ce kc nb hst hHs t0 hI (nI k)) F hE (wd_sw hW) hS (0, 0) hHs.1.1 hHs.2.1 rfl [.int (nI k)] rfl kw_530 kw_531 kw_532 kw_1 kw_533 (by decide +kernel) rfl ⟨rfl, rfl⟩ ⟨Nat.le_of_ble_eq_true rfl, Nat.le_of_ble_eq_true rfl⟩ hl.1 rfl (Nat.le_of_ble_eq_true rfl) dL_areAlike_163 ⟨(by show _ ≤ 376; omega), (by show _ ≤ 2256; omega)⟩ (fun _ _ _ _ _ h => absurd rfl (h.2 k hv9)) (fun v w' H locs hp hW hS => ?_)
                        obtain ⟨rfl, j9, he9, hl9, rfl⟩ := hp
                        have he9 : k = j9 := nI_inj (by have := hj8 _ hv9; omega) (by have := hj8 _ hl9; omega) he9
                        subst he9
                        have hW := wd_ws hW
                        refine lv_icmp_ne (tgt := 214) hx hb dL_areAlike_166 (by decide) (fun c9 => ?_) (fun c9 => ?_)
                        · exact absurd rfl c9
                        · refine lv_aload_n hx hb dL_areAlike_169 rfl (lv_at hl 2 rfl) ?_
                          refine lv_iload_n hx hb dL_areAlike_170 rfl (lv_at hl 0 rfl) ?_
                          refine kc_V 1 (c_X2_high l G A ad dm ct lv lev lo hi ri sz ky vl go rt ep wq wn cn op cl ca ce kc nb hst hH t0 hI (nI k)) F hE hW hS (0, 0) hH.1.1 hH.2.1 rfl [.int (nI k)] rfl kw_534 kw_535 kw_536 kw_1 kw_537 (by decide +kernel) rfl ⟨rfl, rfl⟩ ⟨Nat.le_of_ble_eq_true rfl, Nat.le_of_ble_eq_true rfl⟩ hl.1 rfl (Nat.le_of_ble_eq_true rfl) dL_areAlike_171 ⟨(by show _ ≤ 376; omega), (by show _ ≤ 2256; omega)⟩ (fun _ _ _ _ _ h => absurd rfl (h.2 k hv9)) (fun v w' H locs hp hW hS => ?_)
                          obtain ⟨rfl, j9, he9, hl9, rfl⟩ := hp
                          have he9 : k = j9 := nI_inj (by have := hj8 _ hv9; omega) (by have := hj8 _ hl9; omega) he9
                          subst he9
                          refine lv_aload_n hx hb dL_areAlike_174 rfl (lv_at hl 3 rfl) ?_
                          refine lv_iload_n hx hb dL_areAlike_175 rfl (lv_at hl 0 rfl) ?_
                          refine kc_V 1 (c_X2_high l G A (fun z => ad (sg z)) (fun z => dm (sg z)) (fun z => ct (sg z)) lv lev lo hi ri sz ky vl go rt ep wq wn cn op cl ca ce kc nb hst hHs t0 hI (nI k)) F hE (wd_sw hW) hS (0, 0) hHs.1.1 hHs.2.1 rfl [.int (nI k)] rfl kw_534 kw_535 kw_536 kw_1 kw_537 (by decide +kernel) rfl ⟨rfl, rfl⟩ ⟨Nat.le_of_ble_eq_true rfl, Nat.le_of_ble_eq_true rfl⟩ hl.1 rfl (Nat.le_of_ble_eq_true rfl) dL_areAlike_176 ⟨(by show _ ≤ 376; omega), (by show _ ≤ 2256; omega)⟩ (fun _ _ _ _ _ h => absurd rfl (h.2 k hv9)) (fun v w' H locs hp hW hS => ?_)
                          obtain ⟨rfl, j9, he9, hl9, rfl⟩ := hp
                          have he9 : k = j9 := nI_inj (by have := hj8 _ hv9; omega) (by have := hj8 _ hl9; omega) he9
                          subst he9
                          have hW := wd_ws hW
                          refine lv_icmp_ne (tgt := 214) hx hb dL_areAlike_179 (by decide) (fun c9 => ?_) (fun c9 => ?_)
                          · exact absurd rfl c9
                          · refine lv_aload_n hx hb dL_areAlike_182 rfl (lv_at hl 2 rfl) ?_
                            refine lv_iload_n hx hb dL_areAlike_183 rfl (lv_at hl 0 rfl) ?_
                            refine kc_V 1 (c_X2_right l G A ad dm ct lv lev lo hi ri sz ky vl go rt ep wq wn cn op cl ca ce kc nb hst hH t0 hI (nI k)) F hE hW hS (0, 0) hH.1.1 hH.2.1 rfl [.int (nI k)] rfl kw_538 kw_539 kw_540 kw_1 kw_541 (by decide +kernel) rfl ⟨rfl, rfl⟩ ⟨Nat.le_of_ble_eq_true rfl, Nat.le_of_ble_eq_true rfl⟩ hl.1 rfl (Nat.le_of_ble_eq_true rfl) dL_areAlike_184 ⟨(by show _ ≤ 376; omega), (by show _ ≤ 2256; omega)⟩ (fun _ _ _ _ _ h => absurd rfl (h.2 k hv9)) (fun v w' H locs hp hW hS => ?_)
                            obtain ⟨rfl, j9, he9, hl9, rfl⟩ := hp
                            have he9 : k = j9 := nI_inj (by have := hj8 _ hv9; omega) (by have := hj8 _ hl9; omega) he9
                            subst he9
                            refine lv_aload_n hx hb dL_areAlike_187 rfl (lv_at hl 3 rfl) ?_
                            refine lv_iload_n hx hb dL_areAlike_188 rfl (lv_at hl 0 rfl) ?_
                            refine kc_V 1 (c_X2_right l G A (fun z => ad (sg z)) (fun z => dm (sg z)) (fun z => ct (sg z)) lv lev lo hi ri sz ky vl go rt ep wq wn cn op cl ca ce kc nb hst hHs t0 hI (nI k)) F hE (wd_sw hW) hS (0, 0) hHs.1.1 hHs.2.1 rfl [.int (nI k)] rfl kw_538 kw_539 kw_540 kw_1 kw_541 (by decide +kernel) rfl ⟨rfl, rfl⟩ ⟨Nat.le_of_ble_eq_true rfl, Nat.le_of_ble_eq_true rfl⟩ hl.1 rfl (Nat.le_of_ble_eq_true rfl) dL_areAlike_189 ⟨(by show _ ≤ 376; omega), (by show _ ≤ 2256; omega)⟩ (fun _ _ _ _ _ h => absurd rfl (h.2 k hv9)) (fun v w' H locs hp hW hS => ?_)
                            obtain ⟨rfl, j9, he9, hl9, rfl⟩ := hp
                            have he9 : k = j9 := nI_inj (by have := hj8 _ hv9; omega) (by have := hj8 _ hl9; omega) he9
                            subst he9
                            have hW := wd_ws hW
                            refine lv_icmp_ne (tgt := 214) hx hb dL_areAlike_192 (by decide) (fun c9 => ?_) (fun c9 => ?_)
                            · exact absurd rfl c9
                            · refine lv_aload_n hx hb dL_areAlike_195 rfl (lv_at hl 2 rfl) ?_
                              refine lv_iload_n hx hb dL_areAlike_196 rfl (lv_at hl 0 rfl) ?_
                              refine lv_iconst (v := nI 0) hx hb dL_areAlike_197 (by decide) ?_
                              refine kc_V 2 (c_X2_keyAt l G A ad dm ct lv lev lo hi ri sz ky vl go rt ep wq wn cn op cl ca ce kc nb hst hH t0 hI (nI k) (nI 0)) F hE hW hS (0, 0) hH.1.1 hH.2.1 rfl [.int (nI k), .int (nI 0)] rfl kw_545 kw_546 kw_547 kw_1 kw_548 (by decide +kernel) rfl ⟨rfl, rfl⟩ ⟨Nat.le_of_ble_eq_true rfl, Nat.le_of_ble_eq_true rfl⟩ hl.1 rfl (Nat.le_of_ble_eq_true rfl) dL_areAlike_198 ⟨(by show _ ≤ 376; omega), (by show _ ≤ 2256; omega)⟩ (fun _ _ _ _ _ h => h.2.elim (fun q => absurd rfl (q k hv9)) (fun q => absurd q (nI_pos (n := 0) (by omega)))) (fun v w' H locs hp hW hS => ?_)
                              obtain ⟨rfl, j9, k9, he9, hl9, hk9, hf9, rfl⟩ := hp
                              have he9 : k = j9 := nI_inj (by have := hj8 _ hv9; omega) (by have := hj8 _ hl9; omega) he9
                              subst he9
                              have hf9 : 0 = k9 := nI_inj (by omega) hk9 hf9
                              subst hf9
                              refine lv_aload_n hx hb dL_areAlike_201 rfl (lv_at hl 3 rfl) ?_
                              refine lv_iload_n hx hb dL_areAlike_202 rfl (lv_at hl 0 rfl) ?_
                              refine lv_iconst (v := nI 0) hx hb dL_areAlike_203 (by decide) ?_
                              refine kc_V 2 (c_X2_keyAt l G A (fun z => ad (sg z)) (fun z => dm (sg z)) (fun z => ct (sg z)) lv lev lo hi ri sz ky vl go rt ep wq wn cn op cl ca ce kc nb hst hHs t0 hI (nI k) (nI 0)) F hE (wd_sw hW) hS (0, 0) hHs.1.1 hHs.2.1 rfl [.int (nI k), .int (nI 0)] rfl kw_545 kw_546 kw_547 kw_1 kw_548 (by decide +kernel) rfl ⟨rfl, rfl⟩ ⟨Nat.le_of_ble_eq_true rfl, Nat.le_of_ble_eq_true rfl⟩ hl.1 rfl (Nat.le_of_ble_eq_true rfl) dL_areAlike_204 ⟨(by show _ ≤ 376; omega), (by show _ ≤ 2256; omega)⟩ (fun _ _ _ _ _ h => h.2.elim (fun q => absurd rfl (q k hv9)) (fun q => absurd q (nI_pos (n := 0) (by omega)))) (fun v w' H locs hp hW hS => ?_)
                              obtain ⟨rfl, j9, k9, he9, hl9, hk9, hf9, rfl⟩ := hp
                              have he9 : k = j9 := nI_inj (by have := hj8 _ hv9; omega) (by have := hj8 _ hl9; omega) he9
                              subst he9
                              have hf9 : 0 = k9 := nI_inj (by omega) hk9 hf9
                              subst hf9
                              have hW := wd_ws hW
                              refine lv_icmp_ne (tgt := 214) hx hb dL_areAlike_207 (by decide) (fun c9 => ?_) (fun c9 => ?_)
                              · exact absurd rfl c9
                              · refine lv_iconst (v := nI 1) hx hb dL_areAlike_210 (by decide) ?_
                                refine lv_goto (tgt := 215) hx hb dL_areAlike_211 (by decide) ?_
                                refine lv_istore_n (lv' := [(2, .int (nI 1)), (3, .int (nI k)), (0, .ref (ad (0, 0))), (1, .ref (ad (100, 0)))]) hx hb dL_areAlike_215 rfl hl (by decide) rfl (fun ls hl => ?_)
                                refine lv_iinc (v := nI (k + 1)) (lv' := [(3, .int (nI (k + 1))), (2, .int (nI 1)), (0, .ref (ad (0, 0))), (1, .ref (ad (100, 0)))]) hx hb dL_areAlike_216 hl (k := 1) rfl (ki1 _) (by decide) rfl (fun ls hl => ?_)
                                refine lv_goto (tgt := 125) hx hb dL_areAlike_219 (by decide) ?_
                                exact ih (k + 1) _ _ _ _ _ (by omega) (by omega) (by omega) hW hS (lv_sub hl [0, 1, 2, 3] rfl)
                      · refine ktop (y := (-99999)) (lwF_none (s := (lv, lev, lo, hi, ri, sz, ky, vl, go, rt, ep, wq, wn, cn, op, cl, ca, ce, kc, nb)) (fun j hj e => hv9 (by rw [nI_inj (by omega) (by have := hj8 _ hj; omega) e]; exact hj))) ?_
                        refine lv_if_lt (tgt := 210) hx hb dL_areAlike_153 (by decide) (fun c2 => ?_) (fun c2 => ?_)
                        · refine lv_iconst (v := nI 1) hx hb dL_areAlike_210 (by decide) ?_
                          refine lv_goto (tgt := 215) hx hb dL_areAlike_211 (by decide) ?_
                          refine lv_istore_n (lv' := [(2, .int (nI 1)), (3, .int (nI k)), (0, .ref (ad (0, 0))), (1, .ref (ad (100, 0)))]) hx hb dL_areAlike_215 rfl hl (by decide) rfl (fun ls hl => ?_)
                          refine lv_iinc (v := nI (k + 1)) (lv' := [(3, .int (nI (k + 1))), (2, .int (nI 1)), (0, .ref (ad (0, 0))), (1, .ref (ad (100, 0)))]) hx hb dL_areAlike_216 hl (k := 1) rfl (ki1 _) (by decide) rfl (fun ls hl => ?_)
                          refine lv_goto (tgt := 125) hx hb dL_areAlike_219 (by decide) ?_
                          exact ih (k + 1) _ _ _ _ _ (by omega) (by omega) (by omega) hW hS (lv_sub hl [0, 1, 2, 3] rfl)
                        · exact absurd (by decide) c2
