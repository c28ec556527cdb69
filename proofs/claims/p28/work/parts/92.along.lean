/-! The law's along: one level, from its first page on. -/
theorem sumN_mono {n : Nat} {f g : Nat → Nat} (h : ∀ k, k < n → f k ≤ g k) : sumN n f ≤ sumN n g := by
  induction n with
  | zero => exact Nat.le_refl _
  | succ n ih =>
    have h1 := ih (fun k hk => h k (by omega))
    have h2 := h n (by omega)
    show sumN n f + f n ≤ sumN n g + g n
    omega
theorem lI_nle {lb k : Nat} (h : lb ≤ k) (hk : k < 2 ^ 30) : ¬ nI k ≤ lI lb := by
  intro q
  have h1 := Int32.le_iff_toInt_le.mp q
  unfold lI at h1
  rw [nI_toInt (by omega), pk_sub_toInt (by omega) (by decide)] at h1
  omega
set_option maxRecDepth 100000 in
set_option maxHeartbeats 4000000 in
theorem c_L_along (l : Launch) (G : GG) (A : Nat → Prop) (ad : Lb → Nat) (dm : Lb → Prop) (ct : Lb → va_E) (lv : Nat → Bool) (lev : Nat → Nat) (lo : Nat → Nat) (hi : Nat → Nat) (ri : Nat → Option Nat) (sz : Nat → Nat) (ky : Nat → Nat) (vl : Nat → Nat) (go : Nat → Option Nat) (rt : Nat) (ep : Nat) (wq : Nat → Nat) (wn : Nat) (cn : Nat) (op : Nat → Bool) (cl : Nat → Nat) (ca : Nat → Nat) (ce : Nat → Nat) (kc : Nat) (nb : Nat) (t0 : Nat) (hst : l.stackTraces = false) (hH : HKF G ad dm ct lv lev lo hi ri sz ky vl go rt ep wq wn cn op cl ca ce kc nb) (hI0 : Inv (lv, lev, lo, hi, ri, sz, ky, vl, go, rt, ep, wq, wn, cn, op, cl, ca, ce, kc, nb) t0) (f : Nat) (hf : Al lv go f) (hf0 : lo f = 0) :
    CT l yL_along cL_along 12 (some FieldType.int) { frames := 9, cells := 38 * sumN 800 (lvF lv lev go (fun _ => 1) (lev f)), slots := 228 * sumN 800 (lvF lv lev go (fun _ => 1) (lev f)), locals := 165 } [.ref (ad (0, 0)), .int (nI f)] G A (ad, dm, ct) (fun v w' => (ad, dm, ct) = w' ∧ v = some (.int (nI (1000 * sumN 800 (lvF lv lev go sz (lev f)) + sumN 800 (lvF lv lev go (fun _ => 1) (lev f)))))) (fun _ => False) (38 * sumN 800 (lvF lv lev go (fun _ => 1) (lev f))) (228 * sumN 800 (lvF lv lev go (fun _ => 1) (lev f))) := by
  have hI : InvF lv lev lo hi ri sz ky vl go rt ep wq wn cn op cl ca ce kc nb 800 t0 := hI0
  have hP := hI.1
  have hnb := inv_nb hI0
  have hb9 : nb ≤ 513 := hnb.1
  have hj8 : ∀ j, lv j = true → j < 800 := fun j hj => by have := (hP.1 j hj).1; omega
  refine ct_of (by decide) (Nat.le_of_ble_eq_true rfl) ?_
  intro p e s m below meth c ls F hr hlk hnm hex hE hW hl
  have hx := F.1
  have hb := F.2.1
  have hS : va_S A s.heap s.heap [] := va_S.rf
  have hl : lv_has ls 12 [(0, .ref (ad (0, 0))), (1, .int (nI f))] := hl
  have hcap : ∀ x, sumN 800 (chF lv lev lo go (fun _ => 1) (lev f) x) ≤ sumN 800 (lvF lv lev go (fun _ => 1) (lev f)) := fun x => sumN_mono (fun k _ => by unfold chF lvF; split; rename_i q; rw [if_pos ⟨q.1, q.2.1⟩]; exact Nat.le_refl _; exact Nat.zero_le _)
  refine lv_iconst (v := nI 0) hx hb dL_along_0 (by decide) ?_
  refine lv_istore_n (lv' := [(2, .int (nI 0)), (0, .ref (ad (0, 0))), (1, .int (nI f))]) hx hb dL_along_1 rfl hl (by decide) rfl (fun ls hl => ?_)
  refine lv_iconst (v := nI 0) hx hb dL_along_2 (by decide) ?_
  refine lv_istore_n (lv' := [(3, .int (nI 0)), (2, .int (nI 0)), (0, .ref (ad (0, 0))), (1, .int (nI f))]) hx hb dL_along_3 rfl hl (by decide) rfl (fun ls hl => ?_)
  refine lv_iconst (v := nI 0) hx hb dL_along_4 (by decide) ?_
  refine lv_istore (lv' := [(4, .int (nI 0)), (3, .int (nI 0)), (2, .int (nI 0)), (0, .ref (ad (0, 0))), (1, .int (nI f))]) hx hb dL_along_5 hl (by decide) rfl (fun ls hl => ?_)
  refine lv_iload_n hx hb dL_along_7 rfl (lv_at hl 4 rfl) ?_
  refine lv_istore (lv' := [(5, .int (nI f)), (4, .int (nI 0)), (3, .int (nI 0)), (2, .int (nI 0)), (0, .ref (ad (0, 0))), (1, .int (nI f))]) hx hb dL_along_8 hl (by decide) rfl (fun ls hl => ?_)
  refine lv_iconst (v := nI 1) hx hb dL_along_10 (by decide) ?_
  refine lv_istore (lv' := [(6, .int (nI 1)), (5, .int (nI f)), (4, .int (nI 0)), (3, .int (nI 0)), (2, .int (nI 0)), (0, .ref (ad (0, 0))), (1, .int (nI f))]) hx hb dL_along_11 hl (by decide) rfl (fun ls hl => ?_)
  suffices loop : ∀ (d pp : Nat) (H : Heap) (locs : List Loc) (ls : Array Slot) (cells slots : Nat), Al lv go pp → lev pp = lev f → 200 - lo pp < d → cells ≤ 38 * sumN 800 (chF lv lev lo go (fun _ => 1) (lev f) (lo pp)) → slots ≤ 228 * sumN 800 (chF lv lev lo go (fun _ => 1) (lev f) (lo pp)) → wd G A (ad, dm, ct) H → va_S A s.heap H locs → lv_has ls 12 [(6, .int (nI 1)), (5, .int (nI pp)), (4, .int (nI (sumN 800 (chF lv lev lo go sz (lev f) (lo pp))))), (3, .int (nI (sumN 800 (chF lv lev lo go (fun _ => 1) (lev f) (lo pp))))), (2, .int (nI (lo pp))), (0, .ref (ad (0, 0))), (1, .int (nI f))] → W p l e { frames := 9, cells := 38 * sumN 800 (lvF lv lev go (fun _ => 1) (lev f)), slots := 228 * sumN 800 (lvF lv lev go (fun _ => 1) (lev f)), locals := 165 } s m #[.ref (ad (0, 0)), .int (nI f)] below meth c H locs cells slots (vx_MQ below (QK G A (fun v w' => (ad, dm, ct) = w' ∧ v = some (.int (nI (1000 * sumN 800 (lvF lv lev go sz (lev f)) + sumN 800 (lvF lv lev go (fun _ => 1) (lev f))))))) (XK G A (ad, dm, ct) (fun _ => False)) #[.ref (ad (0, 0)), .int (nI f)] s (38 * sumN 800 (lvF lv lev go (fun _ => 1) (lev f))) (228 * sumN 800 (lvF lv lev go (fun _ => 1) (lev f))) A) (F0 m 13 ls []) by
    exact loop 201 f _ _ _ _ _ hf rfl (by omega) (Nat.zero_le _) (Nat.zero_le _) hW hS (by rw [hf0, ch_zero, ch_zero]; exact lv_sub hl [0, 1, 2, 3, 4, 5, 6] rfl)
  clear hl hS hW
  intro d
  induction d with
  | zero =>
    intro pp H locs ls cells slots hA hlev hd9 hc9 hs9 hW hS hl
    exfalso; omega
  | succ d ih =>
    intro pp H locs ls cells slots hA hlev hd9 hc9 hs9 hW hS hl
    have hv := hA.1
    have hp1 := hP.1 pp hv
    have hs4 := pgi_s4 hP hb9 hv
    have hp8 := hj8 pp hv
    have hrt := hP.2.2.2.2.2.2.2.2.2
    have hcp := hcap (hi pp)
    have st1 := ch_step (g := sz) hP hb9 hA
    have st2 := ch_step (g := fun _ => 1) hP hb9 hA
    rw [hlev] at st1 st2
    have hkcap : sumN 800 (chF lv lev lo go sz (lev f) (lo pp)) ≤ 800 * 4 := ch_cap (fun n hn => pgi_s4 hP hb9 hn.1)
    have hpcap : sumN 800 (chF lv lev lo go (fun _ => 1) (lev f) (lo pp)) ≤ 800 * 1 := ch_cap (fun n _ => Nat.le_refl 1)
    refine lv_iload hx hb dL_along_13 (lv_at hl 1 rfl) ?_
    refine nz_lt (tgt := 283) hx hb dL_along_15 (by decide) (by omega) ?_
    refine lv_iload hx hb dL_along_18 (lv_at hl 0 rfl) ?_
    refine nz_eq (tgt := 283) hx hb dL_along_20 (by decide) (by decide) (fun c9 => ?_) (fun c9 => ?_)
    · exact absurd c9 (by decide)
    · refine lv_aload_n hx hb dL_along_23 rfl (lv_at hl 5 rfl) ?_
      refine lv_iload hx hb dL_along_24 (lv_at hl 1 rfl) ?_
      refine kc_V 1 (c_X2_size l G A ad dm ct lv lev lo hi ri sz ky vl go rt ep wq wn cn op cl ca ce kc nb hst hH t0 hI (nI pp)) F hE hW hS (0, 0) hH.1.1 hH.2.1 rfl [.int (nI pp)] rfl kw_530 kw_531 kw_532 kw_1 kw_533 (by decide +kernel) rfl ⟨rfl, rfl⟩ ⟨Nat.le_of_ble_eq_true rfl, Nat.le_of_ble_eq_true rfl⟩ hl.1 rfl (Nat.le_of_ble_eq_true rfl) dL_along_26 ⟨(by show _ ≤ 38 * sumN 800 (lvF lv lev go (fun _ => 1) (lev f)); omega), (by show _ ≤ 228 * sumN 800 (lvF lv lev go (fun _ => 1) (lev f)); omega)⟩ (fun _ _ _ _ _ h => absurd rfl (h.2 pp hv)) (fun v w' H locs hp hW hS => ?_)
      obtain ⟨rfl, j9, he9, hl9, rfl⟩ := hp
      have he9 : pp = j9 := nI_inj (by have := hj8 _ hv; omega) (by have := hj8 _ hl9; omega) he9
      subst he9
      refine lv_istore (lv' := [(7, .int (nI (sz pp))), (6, .int (nI 1)), (5, .int (nI pp)), (4, .int (nI (sumN 800 (chF lv lev lo go sz (lev f) (lo pp))))), (3, .int (nI (sumN 800 (chF lv lev lo go (fun _ => 1) (lev f) (lo pp))))), (2, .int (nI (lo pp))), (0, .ref (ad (0, 0))), (1, .int (nI f))]) hx hb dL_along_29 hl (by decide) rfl (fun ls hl => ?_)
      refine lv_aload_n hx hb dL_along_31 rfl (lv_at hl 6 rfl) ?_
      refine lv_iload hx hb dL_along_32 (lv_at hl 2 rfl) ?_
      refine kc_V 1 (c_X2_high l G A ad dm ct lv lev lo hi ri sz ky vl go rt ep wq wn cn op cl ca ce kc nb hst hH t0 hI (nI pp)) F hE hW hS (0, 0) hH.1.1 hH.2.1 rfl [.int (nI pp)] rfl kw_534 kw_535 kw_536 kw_1 kw_537 (by decide +kernel) rfl ⟨rfl, rfl⟩ ⟨Nat.le_of_ble_eq_true rfl, Nat.le_of_ble_eq_true rfl⟩ hl.1 rfl (Nat.le_of_ble_eq_true rfl) dL_along_34 ⟨(by show _ ≤ 38 * sumN 800 (lvF lv lev go (fun _ => 1) (lev f)); omega), (by show _ ≤ 228 * sumN 800 (lvF lv lev go (fun _ => 1) (lev f)); omega)⟩ (fun _ _ _ _ _ h => absurd rfl (h.2 pp hv)) (fun v w' H locs hp hW hS => ?_)
      obtain ⟨rfl, j9, he9, hl9, rfl⟩ := hp
      have he9 : pp = j9 := nI_inj (by have := hj8 _ hv; omega) (by have := hj8 _ hl9; omega) he9
      subst he9
      refine lv_istore (lv' := [(8, .int (nI (hi pp))), (7, .int (nI (sz pp))), (6, .int (nI 1)), (5, .int (nI pp)), (4, .int (nI (sumN 800 (chF lv lev lo go sz (lev f) (lo pp))))), (3, .int (nI (sumN 800 (chF lv lev lo go (fun _ => 1) (lev f) (lo pp))))), (2, .int (nI (lo pp))), (0, .ref (ad (0, 0))), (1, .int (nI f))]) hx hb dL_along_37 hl (by decide) rfl (fun ls hl => ?_)
      refine lv_iload_n hx hb dL_along_39 rfl (lv_at hl 6 rfl) ?_
      refine lv_iconst (v := nI 1) hx hb dL_along_40 (by decide) ?_
      refine lv_isub hx hb dL_along_41 ?_
      refine ktop (y := lI (lo pp)) rfl ?_
      refine lv_istore (lv' := [(9, .int (lI (lo pp))), (8, .int (nI (hi pp))), (7, .int (nI (sz pp))), (6, .int (nI 1)), (5, .int (nI pp)), (4, .int (nI (sumN 800 (chF lv lev lo go sz (lev f) (lo pp))))), (3, .int (nI (sumN 800 (chF lv lev lo go (fun _ => 1) (lev f) (lo pp))))), (2, .int (nI (lo pp))), (0, .ref (ad (0, 0))), (1, .int (nI f))]) hx hb dL_along_42 hl (by decide) rfl (fun ls hl => ?_)
      refine lv_iload hx hb dL_along_44 (lv_at hl 1 rfl) ?_
      refine lv_iload_n hx hb dL_along_46 rfl (lv_at hl 7 rfl) ?_
      refine nc_le (tgt := 119) hx hb dL_along_47 (by decide) (by omega) (by omega) (fun c2 => ?_) (fun c2 => ?_)
      · exfalso; omega
      · refine lv_iload hx hb dL_along_50 (lv_at hl 1 rfl) ?_
        refine lv_sipush (v := nI 200) hx hb dL_along_52 (by decide) ?_
        refine nc_gt (tgt := 119) hx hb dL_along_55 (by decide) (by omega) (by omega) (fun c3 => ?_) (fun c3 => ?_)
        · exfalso; omega
        · refine lv_iload hx hb dL_along_58 (lv_at hl 2 rfl) ?_
          refine lv_iconst (v := nI 4) hx hb dL_along_60 (by decide) ?_
          refine nc_gt (tgt := 119) hx hb dL_along_61 (by decide) (by omega) (by omega) (fun c4 => ?_) (fun c4 => ?_)
          · exfalso; omega
          · refine lv_aload_n hx hb dL_along_64 rfl (lv_at hl 8 rfl) ?_
            refine lv_iload hx hb dL_along_65 (lv_at hl 4 rfl) ?_
            refine kc_V 1 (c_X2_level l G A ad dm ct lv lev lo hi ri sz ky vl go rt ep wq wn cn op cl ca ce kc nb hst hH t0 hI (nI pp)) F hE hW hS (0, 0) hH.1.1 hH.2.1 rfl [.int (nI pp)] rfl kw_521 kw_522 kw_523 kw_1 kw_524 (by decide +kernel) rfl ⟨rfl, rfl⟩ ⟨Nat.le_of_ble_eq_true rfl, Nat.le_of_ble_eq_true rfl⟩ hl.1 rfl (Nat.le_of_ble_eq_true rfl) dL_along_67 ⟨(by show _ ≤ 38 * sumN 800 (lvF lv lev go (fun _ => 1) (lev f)); omega), (by show _ ≤ 228 * sumN 800 (lvF lv lev go (fun _ => 1) (lev f)); omega)⟩ (fun _ _ _ _ _ h => absurd rfl (h.2 pp hv)) (fun v w' H locs hp hW hS => ?_)
            obtain ⟨rfl, j9, he9, hl9, rfl⟩ := hp
            have he9 : pp = j9 := nI_inj (by have := hj8 _ hv; omega) (by have := hj8 _ hl9; omega) he9
            subst he9
            refine lv_aload_n hx hb dL_along_70 rfl (lv_at hl 8 rfl) ?_
            refine lv_iload_n hx hb dL_along_71 rfl (lv_at hl 9 rfl) ?_
            refine kc_V 1 (c_X2_level l G A ad dm ct lv lev lo hi ri sz ky vl go rt ep wq wn cn op cl ca ce kc nb hst hH t0 hI (nI f)) F hE hW hS (0, 0) hH.1.1 hH.2.1 rfl [.int (nI f)] rfl kw_521 kw_522 kw_523 kw_1 kw_524 (by decide +kernel) rfl ⟨rfl, rfl⟩ ⟨Nat.le_of_ble_eq_true rfl, Nat.le_of_ble_eq_true rfl⟩ hl.1 rfl (Nat.le_of_ble_eq_true rfl) dL_along_72 ⟨(by show _ ≤ 38 * sumN 800 (lvF lv lev go (fun _ => 1) (lev f)); omega), (by show _ ≤ 228 * sumN 800 (lvF lv lev go (fun _ => 1) (lev f)); omega)⟩ (fun _ _ _ _ _ h => absurd rfl (h.2 f hf.1)) (fun v w' H locs hp hW hS => ?_)
            obtain ⟨rfl, j9, he9, hl9, rfl⟩ := hp
            have he9 : f = j9 := nI_inj (by have := hj8 _ hf.1; omega) (by have := hj8 _ hl9; omega) he9
            subst he9
            refine nc_ne (tgt := 119) hx hb dL_along_75 (by decide) (by omega) (by omega) (fun c5 => ?_) (fun c5 => ?_)
            · exact absurd hlev c5
            · suffices key103 : ∀ (H : Heap) (locs : List Loc) (ls : Array Slot) (cells2 slots2 : Nat), cells2 ≤ cells + 7 → slots2 ≤ slots + 42 → wd G A (ad, dm, ct) H → va_S A s.heap H locs → lv_has ls 12 [(9, .int (lI (lo pp))), (8, .int (nI (hi pp))), (7, .int (nI (sz pp))), (6, .int (nI 1)), (5, .int (nI pp)), (4, .int (nI (sumN 800 (chF lv lev lo go sz (lev f) (lo pp))))), (3, .int (nI (sumN 800 (chF lv lev lo go (fun _ => 1) (lev f) (lo pp))))), (2, .int (nI (lo pp))), (0, .ref (ad (0, 0))), (1, .int (nI f))] → W p l e { frames := 9, cells := 38 * sumN 800 (lvF lv lev go (fun _ => 1) (lev f)), slots := 228 * sumN 800 (lvF lv lev go (fun _ => 1) (lev f)), locals := 165 } s m #[.ref (ad (0, 0)), .int (nI f)] below meth c H locs cells2 slots2 (vx_MQ below (QK G A (fun v w' => (ad, dm, ct) = w' ∧ v = some (.int (nI (1000 * sumN 800 (lvF lv lev go sz (lev f)) + sumN 800 (lvF lv lev go (fun _ => 1) (lev f))))))) (XK G A (ad, dm, ct) (fun _ => False)) #[.ref (ad (0, 0)), .int (nI f)] s (38 * sumN 800 (lvF lv lev go (fun _ => 1) (lev f))) (228 * sumN 800 (lvF lv lev go (fun _ => 1) (lev f))) A) (F0 m 103 ls []) by
                refine lv_aload_n hx hb dL_along_78 rfl (lv_at hl 8 rfl) ?_
                refine lv_iload hx hb dL_along_79 (lv_at hl 4 rfl) ?_
                refine kc_V 1 (c_X2_level l G A ad dm ct lv lev lo hi ri sz ky vl go rt ep wq wn cn op cl ca ce kc nb hst hH t0 hI (nI pp)) F hE hW hS (0, 0) hH.1.1 hH.2.1 rfl [.int (nI pp)] rfl kw_521 kw_522 kw_523 kw_1 kw_524 (by decide +kernel) rfl ⟨rfl, rfl⟩ ⟨Nat.le_of_ble_eq_true rfl, Nat.le_of_ble_eq_true rfl⟩ hl.1 rfl (Nat.le_of_ble_eq_true rfl) dL_along_81 ⟨(by show _ ≤ 38 * sumN 800 (lvF lv lev go (fun _ => 1) (lev f)); omega), (by show _ ≤ 228 * sumN 800 (lvF lv lev go (fun _ => 1) (lev f)); omega)⟩ (fun _ _ _ _ _ h => absurd rfl (h.2 pp hv)) (fun v w' H locs hp hW hS => ?_)
                obtain ⟨rfl, j9, he9, hl9, rfl⟩ := hp
                have he9 : pp = j9 := nI_inj (by have := hj8 _ hv; omega) (by have := hj8 _ hl9; omega) he9
                subst he9
                refine nz_eq (tgt := 103) hx hb dL_along_84 (by decide) (by omega) (fun c6 => ?_) (fun c6 => ?_)
                · exact key103 _ _ _ _ _ (by omega) (by omega) hW hS (lv_sub hl [0, 1, 2, 3, 4, 5, 6, 7, 8, 9] rfl)
                · obtain ⟨e1, e2, e3⟩ := hP.2.2.2.2.2.1 pp hA (by omega)
                  refine lv_iload hx hb dL_along_87 (lv_at hl 2 rfl) ?_
                  refine nz_le (tgt := 119) hx hb dL_along_89 (by decide) (by omega) (fun c7 => ?_) (fun c7 => ?_)
                  · exfalso; omega
                  · refine lv_aload_n hx hb dL_along_92 rfl (lv_at hl 8 rfl) ?_
                    refine lv_iload hx hb dL_along_93 (lv_at hl 4 rfl) ?_
                    refine lv_iconst (v := nI 0) hx hb dL_along_95 (by decide) ?_
                    refine kc_V 2 (c_X2_keyAt l G A ad dm ct lv lev lo hi ri sz ky vl go rt ep wq wn cn op cl ca ce kc nb hst hH t0 hI (nI pp) (nI 0)) F hE hW hS (0, 0) hH.1.1 hH.2.1 rfl [.int (nI pp), .int (nI 0)] rfl kw_545 kw_546 kw_547 kw_1 kw_548 (by decide +kernel) rfl ⟨rfl, rfl⟩ ⟨Nat.le_of_ble_eq_true rfl, Nat.le_of_ble_eq_true rfl⟩ hl.1 rfl (Nat.le_of_ble_eq_true rfl) dL_along_96 ⟨(by show _ ≤ 38 * sumN 800 (lvF lv lev go (fun _ => 1) (lev f)); omega), (by show _ ≤ 228 * sumN 800 (lvF lv lev go (fun _ => 1) (lev f)); omega)⟩ (fun _ _ _ _ _ h => h.2.elim (fun q => absurd rfl (q pp hv)) (fun q => absurd q (nI_pos (n := 0) (by omega)))) (fun v w' H locs hp hW hS => ?_)
                    obtain ⟨rfl, j9, k9, he9, hl9, hk9, hf9, rfl⟩ := hp
                    have he9 : pp = j9 := nI_inj (by have := hj8 _ hv; omega) (by have := hj8 _ hl9; omega) he9
                    subst he9
                    have hf9 : 0 = k9 := nI_inj (by omega) hk9 hf9
                    subst hf9
                    refine ktop (y := nI (lo pp)) (by unfold kyA; rw [if_pos (by omega)]; exact congrArg nI e2) ?_
                    refine lv_iload_n hx hb dL_along_99 rfl (lv_at hl 7 rfl) ?_
                    refine lv_icmp_ne (tgt := 119) hx hb dL_along_100 (by decide) (fun c9 => ?_) (fun c9 => ?_)
                    · exact absurd rfl c9
                    · exact key103 _ _ _ _ _ (by omega) (by omega) hW hS (lv_sub hl [0, 1, 2, 3, 4, 5, 6, 7, 8, 9] rfl)
              clear hl hS hW
              intro H locs ls cells2 slots2 hc2 hs2 hW hS hl
              refine lv_aload_n hx hb dL_along_103 rfl (lv_at hl 8 rfl) ?_
              refine lv_iload hx hb dL_along_104 (lv_at hl 4 rfl) ?_
              refine lv_iload hx hb dL_along_106 (lv_at hl 2 rfl) ?_
              refine kc_V 2 (c_X2_keyAt l G A ad dm ct lv lev lo hi ri sz ky vl go rt ep wq wn cn op cl ca ce kc nb hst hH t0 hI (nI pp) (nI (sz pp))) F hE hW hS (0, 0) hH.1.1 hH.2.1 rfl [.int (nI pp), .int (nI (sz pp))] rfl kw_545 kw_546 kw_547 kw_1 kw_548 (by decide +kernel) rfl ⟨rfl, rfl⟩ ⟨Nat.le_of_ble_eq_true rfl, Nat.le_of_ble_eq_true rfl⟩ hl.1 rfl (Nat.le_of_ble_eq_true rfl) dL_along_108 ⟨(by show _ ≤ 38 * sumN 800 (lvF lv lev go (fun _ => 1) (lev f)); omega), (by show _ ≤ 228 * sumN 800 (lvF lv lev go (fun _ => 1) (lev f)); omega)⟩ (fun _ _ _ _ _ h => h.2.elim (fun q => absurd rfl (q pp hv)) (fun q => absurd q (nI_pos (n := sz pp) (by omega)))) (fun v w' H locs hp hW hS => ?_)
              obtain ⟨rfl, j9, k9, he9, hl9, hk9, hf9, rfl⟩ := hp
              have he9 : pp = j9 := nI_inj (by have := hj8 _ hv; omega) (by have := hj8 _ hl9; omega) he9
              subst he9
              have hf9 : sz pp = k9 := nI_inj (by omega) hk9 hf9
              subst hf9
              refine ktop (y := (-1)) (by unfold kyA; rw [if_neg (Nat.lt_irrefl _)]; rfl) ?_
              refine lv_iconst (v := (-1)) hx hb dL_along_111 (by decide) ?_
              refine lv_icmp_ne (tgt := 119) hx hb dL_along_112 (by decide) (fun c9 => ?_) (fun c9 => ?_)
              · exact absurd rfl c9
              · refine lv_iconst (v := nI 1) hx hb dL_along_115 (by decide) ?_
                refine lv_goto (tgt := 120) hx hb dL_along_116 (by decide) ?_
                refine lv_istore (lv' := [(6, .int (nI 1)), (9, .int (lI (lo pp))), (8, .int (nI (hi pp))), (7, .int (nI (sz pp))), (5, .int (nI pp)), (4, .int (nI (sumN 800 (chF lv lev lo go sz (lev f) (lo pp))))), (3, .int (nI (sumN 800 (chF lv lev lo go (fun _ => 1) (lev f) (lo pp))))), (2, .int (nI (lo pp))), (0, .ref (ad (0, 0))), (1, .int (nI f))]) hx hb dL_along_120 hl (by decide) rfl (fun ls hl => ?_)
                refine lv_iconst (v := nI 0) hx hb dL_along_122 (by decide) ?_
                refine lv_istore (lv' := [(10, .int (nI 0)), (6, .int (nI 1)), (9, .int (lI (lo pp))), (8, .int (nI (hi pp))), (7, .int (nI (sz pp))), (5, .int (nI pp)), (4, .int (nI (sumN 800 (chF lv lev lo go sz (lev f) (lo pp))))), (3, .int (nI (sumN 800 (chF lv lev lo go (fun _ => 1) (lev f) (lo pp))))), (2, .int (nI (lo pp))), (0, .ref (ad (0, 0))), (1, .int (nI f))]) hx hb dL_along_123 hl (by decide) rfl (fun ls hl => ?_)
                suffices inner : ∀ (ee j lb : Nat) (H : Heap) (locs : List Loc) (ls : Array Slot) (cells3 slots3 : Nat), j + ee = sz pp → (j < sz pp → lb ≤ ky (5 * pp + j)) → cells3 ≤ cells + 9 + 7 * j → slots3 ≤ slots + 54 + 42 * j → wd G A (ad, dm, ct) H → va_S A s.heap H locs → lv_has ls 12 [(10, .int (nI j)), (9, .int (lI lb)), (8, .int (nI (hi pp))), (7, .int (nI (sz pp))), (6, .int (nI 1)), (5, .int (nI pp)), (4, .int (nI (sumN 800 (chF lv lev lo go sz (lev f) (lo pp))))), (3, .int (nI (sumN 800 (chF lv lev lo go (fun _ => 1) (lev f) (lo pp))))), (2, .int (nI (lo pp))), (0, .ref (ad (0, 0))), (1, .int (nI f))] → W p l e { frames := 9, cells := 38 * sumN 800 (lvF lv lev go (fun _ => 1) (lev f)), slots := 228 * sumN 800 (lvF lv lev go (fun _ => 1) (lev f)), locals := 165 } s m #[.ref (ad (0, 0)), .int (nI f)] below meth c H locs cells3 slots3 (vx_MQ below (QK G A (fun v w' => (ad, dm, ct) = w' ∧ v = some (.int (nI (1000 * sumN 800 (lvF lv lev go sz (lev f)) + sumN 800 (lvF lv lev go (fun _ => 1) (lev f))))))) (XK G A (ad, dm, ct) (fun _ => False)) #[.ref (ad (0, 0)), .int (nI f)] s (38 * sumN 800 (lvF lv lev go (fun _ => 1) (lev f))) (228 * sumN 800 (lvF lv lev go (fun _ => 1) (lev f))) A) (F0 m 125 ls []) by
                  exact inner (sz pp) 0 (lo pp) _ _ _ _ _ (Nat.zero_add _) (fun h => (hP.2.1 pp hv 0 h).1) (by omega) (by omega) hW hS (lv_sub hl [0, 2, 3, 4, 1, 5, 6, 7, 8, 9, 10] rfl)
                suffices key234 : ∀ (H : Heap) (locs : List Loc) (ls : Array Slot) (cells3 slots3 : Nat), cells3 ≤ cells + 37 → slots3 ≤ slots + 222 → wd G A (ad, dm, ct) H → va_S A s.heap H locs → lv_has ls 12 [(8, .int (nI (hi pp))), (7, .int (nI (sz pp))), (6, .int (nI 1)), (5, .int (nI pp)), (4, .int (nI (sumN 800 (chF lv lev lo go sz (lev f) (lo pp))))), (3, .int (nI (sumN 800 (chF lv lev lo go (fun _ => 1) (lev f) (lo pp))))), (2, .int (nI (lo pp))), (0, .ref (ad (0, 0))), (1, .int (nI f))] → W p l e { frames := 9, cells := 38 * sumN 800 (lvF lv lev go (fun _ => 1) (lev f)), slots := 228 * sumN 800 (lvF lv lev go (fun _ => 1) (lev f)), locals := 165 } s m #[.ref (ad (0, 0)), .int (nI f)] below meth c H locs cells3 slots3 (vx_MQ below (QK G A (fun v w' => (ad, dm, ct) = w' ∧ v = some (.int (nI (1000 * sumN 800 (lvF lv lev go sz (lev f)) + sumN 800 (lvF lv lev go (fun _ => 1) (lev f))))))) (XK G A (ad, dm, ct) (fun _ => False)) #[.ref (ad (0, 0)), .int (nI f)] s (38 * sumN 800 (lvF lv lev go (fun _ => 1) (lev f))) (228 * sumN 800 (lvF lv lev go (fun _ => 1) (lev f))) A) (F0 m 234 ls []) by
                  clear hl hS hW
                  intro ee
                  induction ee with
                  | zero =>
                    intro j lb H locs ls cells3 slots3 hj9 hlb hc3 hs3 hW hS hl
                    refine lv_iload hx hb dL_along_125 (lv_at hl 0 rfl) ?_
                    refine lv_iload hx hb dL_along_127 (lv_at hl 3 rfl) ?_
                    refine nc_ge (tgt := 234) hx hb dL_along_129 (by decide) (by omega) (by omega) (fun c8 => ?_) (fun c8 => ?_)
                    · exact key234 _ _ _ _ _ (by omega) (by omega) hW hS (lv_sub hl [2, 3, 4, 5, 6, 7, 8, 9, 10] rfl)
                    · exfalso; omega
                  | succ ee ihe =>
                    intro j lb H locs ls cells3 slots3 hj9 hlb hc3 hs3 hW hS hl
                    refine lv_iload hx hb dL_along_125 (lv_at hl 0 rfl) ?_
                    refine lv_iload hx hb dL_along_127 (lv_at hl 3 rfl) ?_
                    refine nc_ge (tgt := 234) hx hb dL_along_129 (by decide) (by omega) (by omega) (fun c8 => ?_) (fun c8 => ?_)
                    · exact key234 _ _ _ _ _ (by omega) (by omega) hW hS (lv_sub hl [2, 3, 4, 5, 6, 7, 8, 9, 10] rfl)
                    · refine lv_iload hx hb dL_along_132 (lv_at hl 4 rfl) ?_
                      refine nz_eq (tgt := 234) hx hb dL_along_134 (by decide) (by decide) (fun c9 => ?_) (fun c9 => ?_)
                      · exact absurd c9 (by decide)
                      · refine lv_aload_n hx hb dL_along_137 rfl (lv_at hl 9 rfl) ?_
                        refine lv_iload hx hb dL_along_138 (lv_at hl 5 rfl) ?_
                        refine lv_iload hx hb dL_along_140 (lv_at hl 0 rfl) ?_
                        obtain ⟨k1, k2, k3, k4⟩ := hP.2.1 pp hv j c8
                        have hlb2 := hlb c8
                        refine kc_V 2 (c_X2_keyAt l G A ad dm ct lv lev lo hi ri sz ky vl go rt ep wq wn cn op cl ca ce kc nb hst hH t0 hI (nI pp) (nI j)) F hE hW hS (0, 0) hH.1.1 hH.2.1 rfl [.int (nI pp), .int (nI j)] rfl kw_545 kw_546 kw_547 kw_1 kw_548 (by decide +kernel) rfl ⟨rfl, rfl⟩ ⟨Nat.le_of_ble_eq_true rfl, Nat.le_of_ble_eq_true rfl⟩ hl.1 rfl (Nat.le_of_ble_eq_true rfl) dL_along_142 ⟨(by show _ ≤ 38 * sumN 800 (lvF lv lev go (fun _ => 1) (lev f)); omega), (by show _ ≤ 228 * sumN 800 (lvF lv lev go (fun _ => 1) (lev f)); omega)⟩ (fun _ _ _ _ _ h => h.2.elim (fun q => absurd rfl (q pp hv)) (fun q => absurd q (nI_pos (n := j) (by omega)))) (fun v w' H locs hp hW hS => ?_)
                        obtain ⟨rfl, j9, k9, he9, hl9, hk9, hf9, rfl⟩ := hp
                        have he9 : pp = j9 := nI_inj (by have := hj8 _ hv; omega) (by have := hj8 _ hl9; omega) he9
                        subst he9
                        have hf9 : j = k9 := nI_inj (by omega) hk9 hf9
                        subst hf9
                        refine ktop (y := nI (ky (5 * pp + j))) (by unfold kyA; rw [if_pos c8]; rfl) ?_
                        refine lv_istore (lv' := [(11, .int (nI (ky (5 * pp + j)))), (10, .int (nI j)), (9, .int (lI lb)), (8, .int (nI (hi pp))), (7, .int (nI (sz pp))), (6, .int (nI 1)), (5, .int (nI pp)), (4, .int (nI (sumN 800 (chF lv lev lo go sz (lev f) (lo pp))))), (3, .int (nI (sumN 800 (chF lv lev lo go (fun _ => 1) (lev f) (lo pp))))), (2, .int (nI (lo pp))), (0, .ref (ad (0, 0))), (1, .int (nI f))]) hx hb dL_along_145 hl (by decide) rfl (fun ls hl => ?_)
                        refine lv_iload hx hb dL_along_147 (lv_at hl 0 rfl) ?_
                        refine lv_iload hx hb dL_along_149 (lv_at hl 2 rfl) ?_
                        refine lv_icmp_le (tgt := 221) hx hb dL_along_151 (by decide) (fun c9 => ?_) (fun c9 => ?_)
                        · exact absurd c9 (lI_nle hlb2 (by omega))
                        · refine lv_iload hx hb dL_along_154 (lv_at hl 0 rfl) ?_
                          refine lv_iload hx hb dL_along_156 (lv_at hl 3 rfl) ?_
                          refine nc_ge (tgt := 221) hx hb dL_along_158 (by decide) (by omega) (by omega) (fun c10 => ?_) (fun c10 => ?_)
                          · exfalso; omega
                          · refine lv_aload_n hx hb dL_along_161 rfl (lv_at hl 10 rfl) ?_
                            refine lv_iload hx hb dL_along_162 (lv_at hl 6 rfl) ?_
                            refine kc_V 1 (c_X2_level l G A ad dm ct lv lev lo hi ri sz ky vl go rt ep wq wn cn op cl ca ce kc nb hst hH t0 hI (nI pp)) F hE hW hS (0, 0) hH.1.1 hH.2.1 rfl [.int (nI pp)] rfl kw_521 kw_522 kw_523 kw_1 kw_524 (by decide +kernel) rfl ⟨rfl, rfl⟩ ⟨Nat.le_of_ble_eq_true rfl, Nat.le_of_ble_eq_true rfl⟩ hl.1 rfl (Nat.le_of_ble_eq_true rfl) dL_along_164 ⟨(by show _ ≤ 38 * sumN 800 (lvF lv lev go (fun _ => 1) (lev f)); omega), (by show _ ≤ 228 * sumN 800 (lvF lv lev go (fun _ => 1) (lev f)); omega)⟩ (fun _ _ _ _ _ h => absurd rfl (h.2 pp hv)) (fun v w' H locs hp hW hS => ?_)
                            obtain ⟨rfl, j9, he9, hl9, rfl⟩ := hp
                            have he9 : pp = j9 := nI_inj (by have := hj8 _ hv; omega) (by have := hj8 _ hl9; omega) he9
                            subst he9
                            refine nz_ne (tgt := 194) hx hb dL_along_167 (by decide) (by omega) (fun c11 => ?_) (fun c11 => ?_)
                            · obtain ⟨e1, e2, e3⟩ := hP.2.2.2.2.2.1 pp hA (by omega)
                              obtain ⟨f1, f2, f3⟩ := e3 j c8
                              refine lv_aload_n hx hb dL_along_194 rfl (lv_at hl 10 rfl) ?_
                              refine lv_aload_n hx hb dL_along_195 rfl (lv_at hl 10 rfl) ?_
                              refine lv_iload hx hb dL_along_196 (lv_at hl 6 rfl) ?_
                              refine lv_iload hx hb dL_along_198 (lv_at hl 1 rfl) ?_
                              refine kc_V 2 (c_X2_below l G A ad dm ct lv lev lo hi ri sz ky vl go rt ep wq wn cn op cl ca ce kc nb hst hH t0 hI (nI pp) (nI j)) F hE hW hS (0, 0) hH.1.1 hH.2.1 rfl [.int (nI pp), .int (nI j)] rfl kw_560 kw_561 kw_562 kw_1 kw_563 (by decide +kernel) rfl ⟨rfl, rfl⟩ ⟨Nat.le_of_ble_eq_true rfl, Nat.le_of_ble_eq_true rfl⟩ hl.1 rfl (Nat.le_of_ble_eq_true rfl) dL_along_200 ⟨(by show _ ≤ 38 * sumN 800 (lvF lv lev go (fun _ => 1) (lev f)); omega), (by show _ ≤ 228 * sumN 800 (lvF lv lev go (fun _ => 1) (lev f)); omega)⟩ (fun _ _ _ _ _ h => h.2.elim (fun q => absurd rfl (q pp hv)) (fun q => absurd q (nI_pos (n := j) (by omega)))) (fun v w' H locs hp hW hS => ?_)
                              obtain ⟨rfl, j9, k9, he9, hl9, hk9, hf9, rfl⟩ := hp
                              have he9 : pp = j9 := nI_inj (by have := hj8 _ hv; omega) (by have := hj8 _ hl9; omega) he9
                              subst he9
                              have hf9 : j = k9 := nI_inj (by omega) hk9 hf9
                              subst hf9
                              refine ktop (y := nI (vl (5 * pp + j))) (by unfold blA; rw [if_pos ⟨c8, by omega⟩]; rfl) ?_
                              refine kc_SH 2 (c_L_level l G A ad dm ct (lv, lev, lo, hi, ri, sz, ky, vl, go, rt, ep, wq, wn, cn, op, cl, ca, ce, kc, nb) t0 hst hH hI0 (nI (vl (5 * pp + j)))) F hE hW hS kw_518 kw_519 kw_0 kw_520 (by decide +kernel) rfl ⟨rfl, rfl⟩ ⟨Nat.le_of_ble_eq_true rfl, Nat.le_of_ble_eq_true rfl⟩ hl.1 rfl (Nat.le_of_ble_eq_true rfl) dL_along_203 ⟨(by show _ ≤ 38 * sumN 800 (lvF lv lev go (fun _ => 1) (lev f)); omega), (by show _ ≤ 228 * sumN 800 (lvF lv lev go (fun _ => 1) (lev f)); omega)⟩ (fun v w' H locs hp hW hS => ?_)
                              obtain ⟨rfl, rfl⟩ := hp
                              refine ktop (y := nI (lev (vl (5 * pp + j)))) (lwF_some (s := (lv, lev, lo, hi, ri, sz, ky, vl, go, rt, ep, wq, wn, cn, op, cl, ca, ce, kc, nb)) f1.1 (hj8 _ f1.1)) ?_
                              refine lv_aload_n hx hb dL_along_206 rfl (lv_at hl 10 rfl) ?_
                              refine lv_iload hx hb dL_along_207 (lv_at hl 6 rfl) ?_
                              refine kc_V 1 (c_X2_level l G A ad dm ct lv lev lo hi ri sz ky vl go rt ep wq wn cn op cl ca ce kc nb hst hH t0 hI (nI pp)) F hE hW hS (0, 0) hH.1.1 hH.2.1 rfl [.int (nI pp)] rfl kw_521 kw_522 kw_523 kw_1 kw_524 (by decide +kernel) rfl ⟨rfl, rfl⟩ ⟨Nat.le_of_ble_eq_true rfl, Nat.le_of_ble_eq_true rfl⟩ hl.1 rfl (Nat.le_of_ble_eq_true rfl) dL_along_209 ⟨(by show _ ≤ 38 * sumN 800 (lvF lv lev go (fun _ => 1) (lev f)); omega), (by show _ ≤ 228 * sumN 800 (lvF lv lev go (fun _ => 1) (lev f)); omega)⟩ (fun _ _ _ _ _ h => absurd rfl (h.2 pp hv)) (fun v w' H locs hp hW hS => ?_)
                              obtain ⟨rfl, j9, he9, hl9, rfl⟩ := hp
                              have he9 : pp = j9 := nI_inj (by have := hj8 _ hv; omega) (by have := hj8 _ hl9; omega) he9
                              subst he9
                              refine lv_iconst (v := nI 1) hx hb dL_along_212 (by decide) ?_
                              refine lv_isub hx hb dL_along_213 ?_
                              refine ktop (y := nI (lev (vl (5 * pp + j)))) (by rw [← f2, pk_sub (by omega)]; rfl) ?_
                              refine lv_icmp_ne (tgt := 221) hx hb dL_along_214 (by decide) (fun c9 => ?_) (fun c9 => ?_)
                              · exact absurd rfl c9
                              · refine lv_iconst (v := nI 1) hx hb dL_along_217 (by decide) ?_
                                refine lv_goto (tgt := 222) hx hb dL_along_218 (by decide) ?_
                                refine lv_istore (lv' := [(6, .int (nI 1)), (11, .int (nI (ky (5 * pp + j)))), (10, .int (nI j)), (9, .int (lI lb)), (8, .int (nI (hi pp))), (7, .int (nI (sz pp))), (5, .int (nI pp)), (4, .int (nI (sumN 800 (chF lv lev lo go sz (lev f) (lo pp))))), (3, .int (nI (sumN 800 (chF lv lev lo go (fun _ => 1) (lev f) (lo pp))))), (2, .int (nI (lo pp))), (0, .ref (ad (0, 0))), (1, .int (nI f))]) hx hb dL_along_222 hl (by decide) rfl (fun ls hl => ?_)
                                refine lv_iload hx hb dL_along_224 (lv_at hl 1 rfl) ?_
                                refine lv_istore (lv' := [(9, .int (nI (ky (5 * pp + j)))), (6, .int (nI 1)), (11, .int (nI (ky (5 * pp + j)))), (10, .int (nI j)), (8, .int (nI (hi pp))), (7, .int (nI (sz pp))), (5, .int (nI pp)), (4, .int (nI (sumN 800 (chF lv lev lo go sz (lev f) (lo pp))))), (3, .int (nI (sumN 800 (chF lv lev lo go (fun _ => 1) (lev f) (lo pp))))), (2, .int (nI (lo pp))), (0, .ref (ad (0, 0))), (1, .int (nI f))]) hx hb dL_along_226 hl (by decide) rfl (fun ls hl => ?_)
                                refine lv_iinc (v := nI (j + 1)) (lv' := [(10, .int (nI (j + 1))), (9, .int (nI (ky (5 * pp + j)))), (6, .int (nI 1)), (11, .int (nI (ky (5 * pp + j)))), (8, .int (nI (hi pp))), (7, .int (nI (sz pp))), (5, .int (nI pp)), (4, .int (nI (sumN 800 (chF lv lev lo go sz (lev f) (lo pp))))), (3, .int (nI (sumN 800 (chF lv lev lo go (fun _ => 1) (lev f) (lo pp))))), (2, .int (nI (lo pp))), (0, .ref (ad (0, 0))), (1, .int (nI f))]) hx hb dL_along_228 hl (k := 3) rfl (ki1 _) (by decide) rfl (fun ls hl => ?_)
                                refine lv_goto (tgt := 125) hx hb dL_along_231 (by decide) ?_
                                exact ihe (j + 1) (ky (5 * pp + j) + 1) _ _ _ _ _ (by omega) (fun h => (hP.2.1 pp hv (j + 1) h).2.2.2 j (by omega)) (by omega) (by omega) hW hS (by rw [lI_s]; exact lv_sub hl [0, 1, 4, 5, 2, 6, 7, 8, 9, 10, 11] rfl)
                            · refine lv_aload_n hx hb dL_along_170 rfl (lv_at hl 10 rfl) ?_
                              refine lv_iload hx hb dL_along_171 (lv_at hl 6 rfl) ?_
                              refine lv_iload hx hb dL_along_173 (lv_at hl 1 rfl) ?_
                              refine kc_V 2 (c_X2_below l G A ad dm ct lv lev lo hi ri sz ky vl go rt ep wq wn cn op cl ca ce kc nb hst hH t0 hI (nI pp) (nI j)) F hE hW hS (0, 0) hH.1.1 hH.2.1 rfl [.int (nI pp), .int (nI j)] rfl kw_560 kw_561 kw_562 kw_1 kw_563 (by decide +kernel) rfl ⟨rfl, rfl⟩ ⟨Nat.le_of_ble_eq_true rfl, Nat.le_of_ble_eq_true rfl⟩ hl.1 rfl (Nat.le_of_ble_eq_true rfl) dL_along_175 ⟨(by show _ ≤ 38 * sumN 800 (lvF lv lev go (fun _ => 1) (lev f)); omega), (by show _ ≤ 228 * sumN 800 (lvF lv lev go (fun _ => 1) (lev f)); omega)⟩ (fun _ _ _ _ _ h => h.2.elim (fun q => absurd rfl (q pp hv)) (fun q => absurd q (nI_pos (n := j) (by omega)))) (fun v w' H locs hp hW hS => ?_)
                              obtain ⟨rfl, j9, k9, he9, hl9, hk9, hf9, rfl⟩ := hp
                              have he9 : pp = j9 := nI_inj (by have := hj8 _ hv; omega) (by have := hj8 _ hl9; omega) he9
                              subst he9
                              have hf9 : j = k9 := nI_inj (by omega) hk9 hf9
                              subst hf9
                              refine ktop (y := (-1)) (by unfold blA; rw [if_neg (by omega)]; rfl) ?_
                              refine lv_iconst (v := (-1)) hx hb dL_along_178 (by decide) ?_
                              refine lv_icmp_ne (tgt := 221) hx hb dL_along_179 (by decide) (fun c9 => ?_) (fun c9 => ?_)
                              · exact absurd rfl c9
                              · refine lv_aload_n hx hb dL_along_182 rfl (lv_at hl 10 rfl) ?_
                                refine lv_iload hx hb dL_along_183 (lv_at hl 0 rfl) ?_
                                refine kc_V 1 (c_X2_get l G A ad dm ct lv lev lo hi ri sz ky vl go rt ep wq wn cn op cl ca ce kc nb hst hH t0 hI (nI (ky (5 * pp + j)))) F hE hW hS (0, 0) hH.1.1 hH.2.1 rfl [.int (nI (ky (5 * pp + j)))] rfl kw_510 kw_511 kw_512 kw_1 kw_513 (by decide +kernel) rfl ⟨rfl, rfl⟩ ⟨Nat.le_of_ble_eq_true rfl, Nat.le_of_ble_eq_true rfl⟩ hl.1 rfl (Nat.le_of_ble_eq_true rfl) dL_along_185 ⟨(by show _ ≤ 38 * sumN 800 (lvF lv lev go (fun _ => 1) (lev f)); omega), (by show _ ≤ 228 * sumN 800 (lvF lv lev go (fun _ => 1) (lev f)); omega)⟩ (fun _ _ _ _ _ h => absurd rfl (h.2 (ky (5 * pp + j)) (by omega))) (fun v w' H locs hp hW hS => ?_)
                                obtain ⟨rfl, k9, hk9, he9, rfl⟩ := hp
                                obtain rfl : ky (5 * pp + j) = k9 := nI_inj (by omega) (by omega) he9
                                have hg9 : getS (lv, lev, lo, hi, ri, sz, ky, vl, go, rt, ep, wq, wn, cn, op, cl, ca, ce, kc, nb) (ky (5 * pp + j)) = some (vl (5 * pp + j)) := (get_hs hP hb9 (by omega)).mpr ⟨pp, j, hA, c11, c8, rfl, rfl⟩
                                refine ktop (y := nI (vl (5 * pp + j))) (by rw [hg9]; rfl) ?_
                                refine nz_lt (tgt := 221) hx hb dL_along_188 (by decide) (by omega) ?_
                                refine lv_goto (tgt := 217) hx hb dL_along_191 (by decide) ?_
                                refine lv_iconst (v := nI 1) hx hb dL_along_217 (by decide) ?_
                                refine lv_goto (tgt := 222) hx hb dL_along_218 (by decide) ?_
                                refine lv_istore (lv' := [(6, .int (nI 1)), (11, .int (nI (ky (5 * pp + j)))), (10, .int (nI j)), (9, .int (lI lb)), (8, .int (nI (hi pp))), (7, .int (nI (sz pp))), (5, .int (nI pp)), (4, .int (nI (sumN 800 (chF lv lev lo go sz (lev f) (lo pp))))), (3, .int (nI (sumN 800 (chF lv lev lo go (fun _ => 1) (lev f) (lo pp))))), (2, .int (nI (lo pp))), (0, .ref (ad (0, 0))), (1, .int (nI f))]) hx hb dL_along_222 hl (by decide) rfl (fun ls hl => ?_)
                                refine lv_iload hx hb dL_along_224 (lv_at hl 1 rfl) ?_
                                refine lv_istore (lv' := [(9, .int (nI (ky (5 * pp + j)))), (6, .int (nI 1)), (11, .int (nI (ky (5 * pp + j)))), (10, .int (nI j)), (8, .int (nI (hi pp))), (7, .int (nI (sz pp))), (5, .int (nI pp)), (4, .int (nI (sumN 800 (chF lv lev lo go sz (lev f) (lo pp))))), (3, .int (nI (sumN 800 (chF lv lev lo go (fun _ => 1) (lev f) (lo pp))))), (2, .int (nI (lo pp))), (0, .ref (ad (0, 0))), (1, .int (nI f))]) hx hb dL_along_226 hl (by decide) rfl (fun ls hl => ?_)
                                refine lv_iinc (v := nI (j + 1)) (lv' := [(10, .int (nI (j + 1))), (9, .int (nI (ky (5 * pp + j)))), (6, .int (nI 1)), (11, .int (nI (ky (5 * pp + j)))), (8, .int (nI (hi pp))), (7, .int (nI (sz pp))), (5, .int (nI pp)), (4, .int (nI (sumN 800 (chF lv lev lo go sz (lev f) (lo pp))))), (3, .int (nI (sumN 800 (chF lv lev lo go (fun _ => 1) (lev f) (lo pp))))), (2, .int (nI (lo pp))), (0, .ref (ad (0, 0))), (1, .int (nI f))]) hx hb dL_along_228 hl (k := 3) rfl (ki1 _) (by decide) rfl (fun ls hl => ?_)
                                refine lv_goto (tgt := 125) hx hb dL_along_231 (by decide) ?_
                                exact ihe (j + 1) (ky (5 * pp + j) + 1) _ _ _ _ _ (by omega) (fun h => (hP.2.1 pp hv (j + 1) h).2.2.2 j (by omega)) (by omega) (by omega) hW hS (by rw [lI_s]; exact lv_sub hl [0, 1, 4, 5, 2, 6, 7, 8, 9, 10, 11] rfl)
                clear hl hS hW
                intro H locs ls cells3 slots3 hc3 hs3 hW hS hl
                refine lv_iinc (v := nI (sumN 800 (chF lv lev lo go (fun _ => 1) (lev f) (lo pp)) + 1)) (lv' := [(3, .int (nI (sumN 800 (chF lv lev lo go (fun _ => 1) (lev f) (lo pp)) + 1))), (8, .int (nI (hi pp))), (7, .int (nI (sz pp))), (6, .int (nI 1)), (5, .int (nI pp)), (4, .int (nI (sumN 800 (chF lv lev lo go sz (lev f) (lo pp))))), (2, .int (nI (lo pp))), (0, .ref (ad (0, 0))), (1, .int (nI f))]) hx hb dL_along_234 hl (k := 5) rfl (ki1 _) (by decide) rfl (fun ls hl => ?_)
                refine lv_iload hx hb dL_along_237 (lv_at hl 5 rfl) ?_
                refine lv_iload hx hb dL_along_239 (lv_at hl 2 rfl) ?_
                refine lv_iadd hx hb dL_along_241 ?_
                refine ktop (nI_add _ _) ?_
                refine lv_istore (lv' := [(4, .int (nI ((sumN 800 (chF lv lev lo go sz (lev f) (lo pp))) + (sz pp)))), (3, .int (nI (sumN 800 (chF lv lev lo go (fun _ => 1) (lev f) (lo pp)) + 1))), (8, .int (nI (hi pp))), (7, .int (nI (sz pp))), (6, .int (nI 1)), (5, .int (nI pp)), (2, .int (nI (lo pp))), (0, .ref (ad (0, 0))), (1, .int (nI f))]) hx hb dL_along_242 hl (by decide) rfl (fun ls hl => ?_)
                refine lv_iload hx hb dL_along_244 (lv_at hl 2 rfl) ?_
                refine lv_istore_n (lv' := [(2, .int (nI (hi pp))), (4, .int (nI ((sumN 800 (chF lv lev lo go sz (lev f) (lo pp))) + (sz pp)))), (3, .int (nI (sumN 800 (chF lv lev lo go (fun _ => 1) (lev f) (lo pp)) + 1))), (8, .int (nI (hi pp))), (7, .int (nI (sz pp))), (6, .int (nI 1)), (5, .int (nI pp)), (0, .ref (ad (0, 0))), (1, .int (nI f))]) hx hb dL_along_246 rfl hl (by decide) rfl (fun ls hl => ?_)
                refine lv_aload_n hx hb dL_along_247 rfl (lv_at hl 7 rfl) ?_
                refine lv_iload hx hb dL_along_248 (lv_at hl 6 rfl) ?_
                refine kc_V 1 (c_X2_right l G A ad dm ct lv lev lo hi ri sz ky vl go rt ep wq wn cn op cl ca ce kc nb hst hH t0 hI (nI pp)) F hE hW hS (0, 0) hH.1.1 hH.2.1 rfl [.int (nI pp)] rfl kw_538 kw_539 kw_540 kw_1 kw_541 (by decide +kernel) rfl ⟨rfl, rfl⟩ ⟨Nat.le_of_ble_eq_true rfl, Nat.le_of_ble_eq_true rfl⟩ hl.1 rfl (Nat.le_of_ble_eq_true rfl) dL_along_250 ⟨(by show _ ≤ 38 * sumN 800 (lvF lv lev go (fun _ => 1) (lev f)); omega), (by show _ ≤ 228 * sumN 800 (lvF lv lev go (fun _ => 1) (lev f)); omega)⟩ (fun _ _ _ _ _ h => absurd rfl (h.2 pp hv)) (fun v w' H locs hp hW hS => ?_)
                obtain ⟨rfl, j9, he9, hl9, rfl⟩ := hp
                have he9 : pp = j9 := nI_inj (by have := hj8 _ hv; omega) (by have := hj8 _ hl9; omega) he9
                subst he9
                cases hri : ri pp with
                | none =>
                  refine ktop (y := (-1)) rfl ?_
                  have h200 := hP.2.2.1 pp hv hri
                  rw [h200, ch_end hP] at st1 st2
                  refine lv_istore (lv' := [(5, .int (-1)), (2, .int (nI (hi pp))), (4, .int (nI ((sumN 800 (chF lv lev lo go sz (lev f) (lo pp))) + (sz pp)))), (3, .int (nI (sumN 800 (chF lv lev lo go (fun _ => 1) (lev f) (lo pp)) + 1))), (8, .int (nI (hi pp))), (7, .int (nI (sz pp))), (6, .int (nI 1)), (0, .ref (ad (0, 0))), (1, .int (nI f))]) hx hb dL_along_253 hl (by decide) rfl (fun ls hl => ?_)
                  refine lv_iload hx hb dL_along_255 (lv_at hl 6 rfl) ?_
                  refine nz_eq (tgt := 277) hx hb dL_along_257 (by decide) (by decide) (fun c9 => ?_) (fun c9 => ?_)
                  · exact absurd c9 (by decide)
                  · refine lv_iload hx hb dL_along_260 (lv_at hl 0 rfl) ?_
                    refine lv_if_ge (tgt := 273) hx hb dL_along_262 (by decide) (fun c13 => ?_) (fun c13 => ?_)
                    · exact absurd c13 (by decide)
                    · refine lv_iload hx hb dL_along_265 (lv_at hl 4 rfl) ?_
                      refine lv_sipush (v := nI 200) hx hb dL_along_267 (by decide) ?_
                      refine nc_ne (tgt := 277) hx hb dL_along_270 (by decide) (by omega) (by omega) (fun c14 => ?_) (fun c14 => ?_)
                      · exact absurd h200 c14
                      · refine lv_iconst (v := nI 1) hx hb dL_along_273 (by decide) ?_
                        refine lv_goto (tgt := 278) hx hb dL_along_274 (by decide) ?_
                        refine lv_istore (lv' := [(6, .int (nI 1)), (5, .int (-1)), (2, .int (nI (hi pp))), (4, .int (nI ((sumN 800 (chF lv lev lo go sz (lev f) (lo pp))) + (sz pp)))), (3, .int (nI (sumN 800 (chF lv lev lo go (fun _ => 1) (lev f) (lo pp)) + 1))), (8, .int (nI (hi pp))), (7, .int (nI (sz pp))), (0, .ref (ad (0, 0))), (1, .int (nI f))]) hx hb dL_along_278 hl (by decide) rfl (fun ls hl => ?_)
                        refine lv_goto (tgt := 13) hx hb dL_along_280 (by decide) ?_
                        refine lv_iload hx hb dL_along_13 (lv_at hl 1 rfl) ?_
                        refine lv_if_lt (tgt := 283) hx hb dL_along_15 (by decide) (fun c15 => ?_) (fun c15 => ?_)
                        · refine lv_iload hx hb dL_along_283 (lv_at hl 0 rfl) ?_
                          refine nz_eq (tgt := 299) hx hb dL_along_285 (by decide) (by decide) (fun c9 => ?_) (fun c9 => ?_)
                          · exact absurd c9 (by decide)
                          · refine lv_sipush (v := nI 1000) hx hb dL_along_288 (by decide) ?_
                            refine lv_iload hx hb dL_along_291 (lv_at hl 3 rfl) ?_
                            refine lv_imul hx hb dL_along_293 ?_
                            refine ktop (pk_mul _ _) ?_
                            refine lv_iload_n hx hb dL_along_294 rfl (lv_at hl 4 rfl) ?_
                            refine lv_iadd hx hb dL_along_295 ?_
                            refine ktop (nI_add _ _) ?_
                            refine lv_goto (tgt := 300) hx hb dL_along_296 (by decide) ?_
                            refine ktop (y := nI (1000 * sumN 800 (lvF lv lev go sz (lev f)) + sumN 800 (lvF lv lev go (fun _ => 1) (lev f)))) (congrArg nI (by omega)) ?_
                            exact kr_i F hr hlk hE hW hS (by omega) (by omega) dL_along_300 (⟨rfl, rfl⟩)
                        · exact absurd (by decide) c15
                | some r9 =>
                  obtain ⟨g1, g2, g3, g4, g5⟩ := hP.2.2.2.1 pp r9 hv hri
                  refine ktop (y := nI r9) rfl ?_
                  refine lv_istore (lv' := [(5, .int (nI r9)), (2, .int (nI (hi pp))), (4, .int (nI ((sumN 800 (chF lv lev lo go sz (lev f) (lo pp))) + (sz pp)))), (3, .int (nI (sumN 800 (chF lv lev lo go (fun _ => 1) (lev f) (lo pp)) + 1))), (8, .int (nI (hi pp))), (7, .int (nI (sz pp))), (6, .int (nI 1)), (0, .ref (ad (0, 0))), (1, .int (nI f))]) hx hb dL_along_253 hl (by decide) rfl (fun ls hl => ?_)
                  refine lv_iload hx hb dL_along_255 (lv_at hl 6 rfl) ?_
                  refine nz_eq (tgt := 277) hx hb dL_along_257 (by decide) (by decide) (fun c9 => ?_) (fun c9 => ?_)
                  · exact absurd c9 (by decide)
                  · refine lv_iload hx hb dL_along_260 (lv_at hl 0 rfl) ?_
                    refine nz_ge (tgt := 273) hx hb dL_along_262 (by decide) (by have := hj8 _ g1; omega) ?_
                    refine lv_iconst (v := nI 1) hx hb dL_along_273 (by decide) ?_
                    refine lv_goto (tgt := 278) hx hb dL_along_274 (by decide) ?_
                    refine lv_istore (lv' := [(6, .int (nI 1)), (5, .int (nI r9)), (2, .int (nI (hi pp))), (4, .int (nI ((sumN 800 (chF lv lev lo go sz (lev f) (lo pp))) + (sz pp)))), (3, .int (nI (sumN 800 (chF lv lev lo go (fun _ => 1) (lev f) (lo pp)) + 1))), (8, .int (nI (hi pp))), (7, .int (nI (sz pp))), (0, .ref (ad (0, 0))), (1, .int (nI f))]) hx hb dL_along_278 hl (by decide) rfl (fun ls hl => ?_)
                    refine lv_goto (tgt := 13) hx hb dL_along_280 (by decide) ?_
                    exact ih r9 _ _ _ _ _ ⟨g1, g4 hA.2⟩ (g2.trans hlev) (by omega) (by rw [g3]; omega) (by rw [g3]; omega) hW hS (by rw [g3, st1, st2]; exact lv_sub hl [0, 1, 3, 4, 2, 7, 8] rfl)
