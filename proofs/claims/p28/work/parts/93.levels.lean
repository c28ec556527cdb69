/-! The law's areLevelsSo: all levels, from the root down. -/
theorem lI_dec (d : Nat) : nI d + Int32.ofInt (-1) = lI d := by
  unfold lI
  rw [Int32.sub_eq_add_neg]
  rfl
set_option maxRecDepth 100000 in
set_option maxHeartbeats 4000000 in
theorem c_L_areLevelsSoF (l : Launch) (G : GG) (A : Nat → Prop) (ad : Lb → Nat) (dm : Lb → Prop) (ct : Lb → va_E) (lv : Nat → Bool) (lev : Nat → Nat) (lo : Nat → Nat) (hi : Nat → Nat) (ri : Nat → Option Nat) (sz : Nat → Nat) (ky : Nat → Nat) (vl : Nat → Nat) (go : Nat → Option Nat) (rt : Nat) (ep : Nat) (wq : Nat → Nat) (wn : Nat) (cn : Nat) (op : Nat → Bool) (cl : Nat → Nat) (ca : Nat → Nat) (ce : Nat → Nat) (kc : Nat) (nb : Nat) (t0 : Nat) (hst : l.stackTraces = false) (hH : HKF G ad dm ct lv lev lo hi ri sz ky vl go rt ep wq wn cn op cl ca ce kc nb) (hI0 : Inv (lv, lev, lo, hi, ri, sz, ky, vl, go, rt, ep, wq, wn, cn, op, cl, ca, ce, kc, nb) t0) (hN0 : CN (lv, lev, lo, hi, ri, sz, ky, vl, go, rt, ep, wq, wn, cn, op, cl, ca, ce, kc, nb)) :
    CT l yL_areLevelsSo cL_areLevelsSo 8 (some FieldType.boolean) { frames := 10, cells := 2 + 41 * nb, slots := 12 + 246 * nb, locals := 196 } [.ref (ad (0, 0))] G A (ad, dm, ct) (fun v w' => (ad, dm, ct) = w' ∧ v = some (.int (nI 1))) (fun _ => False) (2 + 41 * nb) (12 + 246 * nb) := by
  have hI : InvF lv lev lo hi ri sz ky vl go rt ep wq wn cn op cl ca ce kc nb 800 t0 := hI0
  have hP := hI.1
  have hnb := inv_nb hI0
  have hb9 : nb ≤ 513 := hnb.1
  have hj8 : ∀ j, lv j = true → j < 800 := fun j hj => by have := (hP.1 j hj).1; omega
  refine ct_of (by decide) (Nat.le_of_ble_eq_true rfl) ?_
  intro p e s m below meth c ls F hr hlk hnm hex hE hW hl
  have hx := F.1
  have hb := F.2.1
  have hS : va_S A s.heap s.heap [] := va_S.rf
  have hl : lv_has ls 8 [(0, .ref (ad (0, 0)))] := hl
  have hkt : kc ≤ 512 := by
    have h9 := Inv_iff.mp hI0
    have h8 : kc ≤ t0 := h9.2.2.2.2.2
    omega
  have hkc : kc = sumN 800 (kcF lv lev sz) := hI.2.2.2.1
  have hwn : nb + wn ≤ 1 + t0 := hnb.2.1
  have ht9 := hnb.2.2
  have hN : CNF lv lev sz go wn := hN0
  unfold CNF at hN
  have hAn : ∀ x, sumN 800 (abF lv lev go (fun _ => 1) x) ≤ nb := fun x => ab_nb hP hb9
  have hEn : ∀ x, sumN 800 (abF lv lev go sz (x - 1 + 1)) ≤ 800 * 4 := fun x => ab_cap (fun n hn => pgi_s4 hP hb9 hn.1)
  have hKn : ∀ x, sumN 800 (lvF lv lev go sz x) ≤ 800 * 4 := fun x => lv_cap (fun n hn => pgi_s4 hP hb9 hn.1)
  have hPn : ∀ x, sumN 800 (lvF lv lev go (fun _ => 1) x) ≤ 800 * 1 := fun x => lv_cap (fun n _ => Nat.le_refl 1)
  have hrt := hP.2.2.2.2.2.2.2.2.2
  have hrA := hP.2.2.2.2.2.2.2.1
  have hr1 := hP.1 rt hrA.1.1
  have hr8 := hj8 rt hrA.1.1
  have hcb := cntB_le 800 lv
  have hca := cnt_al (lv := lv) (go := go) 800
  have hA0 : sumN 800 (abF lv lev go (fun _ => 1) 0) = sumN 800 (alF lv go) := by rw [ab_all]
  have hE0 : sumN 800 (abF lv lev go sz (0 - 1 + 1)) = sumN 800 (enF lv lev sz) := by show sumN 800 (abF lv lev go sz 1) = _; rw [ab_ent hP]
  refine lv_aload_n hx hb dL_areLevelsSo_0 rfl (lv_at hl 0 rfl) ?_
  refine kc_V 0 (c_X2_root l G A ad dm ct lv lev lo hi ri sz ky vl go rt ep wq wn cn op cl ca ce kc nb hH hP.2.2.2.2.2.2.2.1.1.1) F hE hW hS (0, 0) hH.1.1 hH.2.1 rfl [] rfl kw_502 kw_503 kw_504 kw_1 kw_505 (by decide +kernel) rfl ⟨rfl, rfl⟩ ⟨Nat.le_of_ble_eq_true rfl, Nat.le_of_ble_eq_true rfl⟩ hl.1 rfl (Nat.le_of_ble_eq_true rfl) dL_areLevelsSo_1 ⟨(by show _ ≤ 2 + 41 * nb; omega), (by show _ ≤ 12 + 246 * nb; omega)⟩ (fun _ _ _ _ _ h => h.elim) (fun v w' H locs hp hW hS => ?_)
  obtain ⟨rfl, rfl⟩ := hp
  refine lv_istore_n (lv' := [(1, .int (nI rt)), (0, .ref (ad (0, 0)))]) hx hb dL_areLevelsSo_4 rfl hl (by decide) rfl (fun ls hl => ?_)
  refine lv_iconst (v := nI 0) hx hb dL_areLevelsSo_5 (by decide) ?_
  refine lv_istore_n (lv' := [(2, .int (nI 0)), (1, .int (nI rt)), (0, .ref (ad (0, 0)))]) hx hb dL_areLevelsSo_6 rfl hl (by decide) rfl (fun ls hl => ?_)
  refine lv_iconst (v := nI 0) hx hb dL_areLevelsSo_7 (by decide) ?_
  refine lv_istore_n (lv' := [(3, .int (nI 0)), (2, .int (nI 0)), (1, .int (nI rt)), (0, .ref (ad (0, 0)))]) hx hb dL_areLevelsSo_8 rfl hl (by decide) rfl (fun ls hl => ?_)
  refine lv_iconst (v := nI 0) hx hb dL_areLevelsSo_9 (by decide) ?_
  refine lv_istore (lv' := [(4, .int (nI 0)), (3, .int (nI 0)), (2, .int (nI 0)), (1, .int (nI rt)), (0, .ref (ad (0, 0)))]) hx hb dL_areLevelsSo_10 hl (by decide) rfl (fun ls hl => ?_)
  refine lv_aload_n hx hb dL_areLevelsSo_12 rfl (lv_at hl 4 rfl) ?_
  refine lv_iload_n hx hb dL_areLevelsSo_13 rfl (lv_at hl 3 rfl) ?_
  refine kc_V 1 (c_X2_high l G A ad dm ct lv lev lo hi ri sz ky vl go rt ep wq wn cn op cl ca ce kc nb hst hH t0 hI (nI rt)) F hE hW hS (0, 0) hH.1.1 hH.2.1 rfl [.int (nI rt)] rfl kw_534 kw_535 kw_536 kw_1 kw_537 (by decide +kernel) rfl ⟨rfl, rfl⟩ ⟨Nat.le_of_ble_eq_true rfl, Nat.le_of_ble_eq_true rfl⟩ hl.1 rfl (Nat.le_of_ble_eq_true rfl) dL_areLevelsSo_14 ⟨(by show _ ≤ 2 + 41 * nb; omega), (by show _ ≤ 12 + 246 * nb; omega)⟩ (fun _ _ _ _ _ h => absurd rfl (h.2 rt hrA.1.1)) (fun v w' H locs hp hW hS => ?_)
  obtain ⟨rfl, j9, he9, hl9, rfl⟩ := hp
  have he9 : rt = j9 := nI_inj (by have := hj8 _ hrA.1.1; omega) (by have := hj8 _ hl9; omega) he9
  subst he9
  refine lv_sipush (v := nI 200) hx hb dL_areLevelsSo_17 (by decide) ?_
  refine nc_gt (tgt := 27) hx hb dL_areLevelsSo_20 (by decide) (by omega) (by omega) (fun c1 => ?_) (fun c1 => ?_)
  · exfalso; omega
  · refine lv_iconst (v := nI 1) hx hb dL_areLevelsSo_23 (by decide) ?_
    refine lv_goto (tgt := 28) hx hb dL_areLevelsSo_24 (by decide) ?_
    refine lv_istore (lv' := [(5, .int (nI 1)), (4, .int (nI 0)), (3, .int (nI 0)), (2, .int (nI 0)), (1, .int (nI rt)), (0, .ref (ad (0, 0)))]) hx hb dL_areLevelsSo_28 hl (by decide) rfl (fun ls hl => ?_)
    refine lv_aload_n hx hb dL_areLevelsSo_30 rfl (lv_at hl 5 rfl) ?_
    refine lv_iload_n hx hb dL_areLevelsSo_31 rfl (lv_at hl 4 rfl) ?_
    refine kc_V 1 (c_X2_level l G A ad dm ct lv lev lo hi ri sz ky vl go rt ep wq wn cn op cl ca ce kc nb hst hH t0 hI (nI rt)) F hE hW hS (0, 0) hH.1.1 hH.2.1 rfl [.int (nI rt)] rfl kw_521 kw_522 kw_523 kw_1 kw_524 (by decide +kernel) rfl ⟨rfl, rfl⟩ ⟨Nat.le_of_ble_eq_true rfl, Nat.le_of_ble_eq_true rfl⟩ hl.1 rfl (Nat.le_of_ble_eq_true rfl) dL_areLevelsSo_32 ⟨(by show _ ≤ 2 + 41 * nb; omega), (by show _ ≤ 12 + 246 * nb; omega)⟩ (fun _ _ _ _ _ h => absurd rfl (h.2 rt hrA.1.1)) (fun v w' H locs hp hW hS => ?_)
    obtain ⟨rfl, j9, he9, hl9, rfl⟩ := hp
    have he9 : rt = j9 := nI_inj (by have := hj8 _ hrA.1.1; omega) (by have := hj8 _ hl9; omega) he9
    subst he9
    refine lv_istore (lv' := [(6, .int (nI (lev rt))), (5, .int (nI 1)), (4, .int (nI 0)), (3, .int (nI 0)), (2, .int (nI 0)), (1, .int (nI rt)), (0, .ref (ad (0, 0)))]) hx hb dL_areLevelsSo_35 hl (by decide) rfl (fun ls hl => ?_)
    suffices loop : ∀ (d pp : Nat) (H : Heap) (locs : List Loc) (ls : Array Slot) (cells slots : Nat), (0 < d → Al lv go pp ∧ lev pp + 1 = d ∧ lo pp = 0) → d ≤ lev rt + 1 → cells ≤ 2 + 38 * sumN 800 (abF lv lev go (fun _ => 1) d) + 3 * (lev rt + 1 - d) → slots ≤ 12 + 228 * sumN 800 (abF lv lev go (fun _ => 1) d) + 18 * (lev rt + 1 - d) → wd G A (ad, dm, ct) H → va_S A s.heap H locs → lv_has ls 8 [(6, .int (lI d)), (5, .int (nI 1)), (4, .int (nI (sumN 800 (abF lv lev go (fun _ => 1) d)))), (3, .int (nI (sumN 800 (abF lv lev go sz (d - 1 + 1))))), (2, .int (nI (sumN 800 (abF lv lev go (fun _ => 1) d)))), (1, .int (nI pp)), (0, .ref (ad (0, 0)))] → W p l e { frames := 10, cells := 2 + 41 * nb, slots := 12 + 246 * nb, locals := 196 } s m #[.ref (ad (0, 0))] below meth c H locs cells slots (vx_MQ below (QK G A (fun v w' => (ad, dm, ct) = w' ∧ v = some (.int (nI 1)))) (XK G A (ad, dm, ct) (fun _ => False)) #[.ref (ad (0, 0))] s (2 + 41 * nb) (12 + 246 * nb) A) (F0 m 37 ls []) by
      have q1 : sumN 800 (abF lv lev go (fun _ => 1) (lev rt + 1)) = 0 := ab_top hP (by omega)
      have q2 : sumN 800 (abF lv lev go sz ((lev rt + 1) - 1 + 1)) = 0 := ab_top hP (by omega)
      exact loop (lev rt + 1) rt _ _ _ _ _ (fun _ => ⟨hrA.1, rfl, hrA.2⟩) (Nat.le_refl _) (by omega) (by omega) hW hS (by rw [lI_s, q1, q2]; exact lv_sub hl [0, 1, 2, 3, 4, 5, 6] rfl)
    clear hl hS hW
    intro d
    induction d with
    | zero =>
      intro pp H locs ls cells slots hpp hd9 hc9 hs9 hW hS hl
      have hA1 := hAn 0
      have hE1 := hEn 0
      refine lv_iload hx hb dL_areLevelsSo_37 (lv_at hl 0 rfl) ?_
      refine lv_if_lt (tgt := 194) hx hb dL_areLevelsSo_39 (by decide) (fun c2 => ?_) (fun c2 => ?_)
      · refine lv_iload hx hb dL_areLevelsSo_194 (lv_at hl 1 rfl) ?_
        refine nz_eq (tgt := 229) hx hb dL_areLevelsSo_196 (by decide) (by decide) (fun c9 => ?_) (fun c9 => ?_)
        · exact absurd c9 (by decide)
        · refine lv_iload_n hx hb dL_areLevelsSo_199 rfl (lv_at hl 4 rfl) ?_
          refine lv_aload_n hx hb dL_areLevelsSo_200 rfl (lv_at hl 6 rfl) ?_
          refine kc_V 0 (c_X2_pages l G A ad dm ct lv lev lo hi ri sz ky vl go rt ep wq wn cn op cl ca ce kc nb hH t0 hI) F hE hW hS (0, 0) hH.1.1 hH.2.1 rfl [] rfl kw_490 kw_491 kw_492 kw_1 kw_493 (by decide +kernel) rfl ⟨rfl, rfl⟩ ⟨Nat.le_of_ble_eq_true rfl, Nat.le_of_ble_eq_true rfl⟩ hl.1 rfl (Nat.le_of_ble_eq_true rfl) dL_areLevelsSo_201 ⟨(by show _ ≤ 2 + 41 * nb; omega), (by show _ ≤ 12 + 246 * nb; omega)⟩ (fun _ _ _ _ _ h => h.elim) (fun v w' H locs hp hW hS => ?_)
          obtain ⟨rfl, rfl⟩ := hp
          refine lv_aload_n hx hb dL_areLevelsSo_204 rfl (lv_at hl 6 rfl) ?_
          refine kc_V 0 (c_X2_dead l G A ad dm ct lv lev lo hi ri sz ky vl go rt ep wq wn cn op cl ca ce kc nb hH t0 hI) F hE hW hS (0, 0) hH.1.1 hH.2.1 rfl [] rfl kw_494 kw_495 kw_496 kw_1 kw_497 (by decide +kernel) rfl ⟨rfl, rfl⟩ ⟨Nat.le_of_ble_eq_true rfl, Nat.le_of_ble_eq_true rfl⟩ hl.1 rfl (Nat.le_of_ble_eq_true rfl) dL_areLevelsSo_205 ⟨(by show _ ≤ 2 + 41 * nb; omega), (by show _ ≤ 12 + 246 * nb; omega)⟩ (fun _ _ _ _ _ h => h.elim) (fun v w' H locs hp hW hS => ?_)
          obtain ⟨rfl, rfl⟩ := hp
          refine lv_isub hx hb dL_areLevelsSo_208 ?_
          refine ktop (pk_sub (by omega)) ?_
          refine nc_ne (tgt := 229) hx hb dL_areLevelsSo_209 (by decide) (by omega) (by omega) (fun c3 => ?_) (fun c3 => ?_)
          · exfalso; omega
          · refine lv_iload hx hb dL_areLevelsSo_212 (lv_at hl 2 rfl) ?_
            refine lv_iload_n hx hb dL_areLevelsSo_214 rfl (lv_at hl 3 rfl) ?_
            refine lv_isub hx hb dL_areLevelsSo_215 ?_
            refine ktop (pk_sub (by omega)) ?_
            refine lv_iconst (v := nI 1) hx hb dL_areLevelsSo_216 (by decide) ?_
            refine lv_isub hx hb dL_areLevelsSo_217 ?_
            refine ktop (pk_sub (by omega)) ?_
            refine lv_aload_n hx hb dL_areLevelsSo_218 rfl (lv_at hl 6 rfl) ?_
            refine kc_V 0 (c_X2_waiting l G A ad dm ct lv lev lo hi ri sz ky vl go rt ep wq wn cn op cl ca ce kc nb hH ) F hE hW hS (0, 0) hH.1.1 hH.2.1 rfl [] rfl kw_506 kw_507 kw_508 kw_1 kw_509 (by decide +kernel) rfl ⟨rfl, rfl⟩ ⟨Nat.le_of_ble_eq_true rfl, Nat.le_of_ble_eq_true rfl⟩ hl.1 rfl (Nat.le_of_ble_eq_true rfl) dL_areLevelsSo_219 ⟨(by show _ ≤ 2 + 41 * nb; omega), (by show _ ≤ 12 + 246 * nb; omega)⟩ (fun _ _ _ _ _ h => h.elim) (fun v w' H locs hp hW hS => ?_)
            obtain ⟨rfl, rfl⟩ := hp
            refine nc_ne (tgt := 229) hx hb dL_areLevelsSo_222 (by decide) (by omega) (by omega) (fun c4 => ?_) (fun c4 => ?_)
            · exfalso; omega
            · refine lv_iconst (v := nI 1) hx hb dL_areLevelsSo_225 (by decide) ?_
              refine lv_goto (tgt := 230) hx hb dL_areLevelsSo_226 (by decide) ?_
              exact kr_z F hr hlk hE hW hS (by omega) (by omega) rfl dL_areLevelsSo_230 (⟨rfl, rfl⟩)
      · exact absurd (by decide) c2
    | succ d ih =>
      intro pp H locs ls cells slots hpp hd9 hc9 hs9 hW hS hl
      have hA1 := hAn (d + 1)
      have hE1 := hEn (d + 1)
      rw [lI_s] at hl
      obtain ⟨hA, hlv, hlo⟩ := hpp (Nat.succ_pos d)
      have hlv : lev pp = d := by omega
      have hp8 := hj8 pp hA.1
      have eP : sumN 800 (lvF lv lev go (fun _ => 1) (lev pp)) = sumN 800 (lvF lv lev go (fun _ => 1) d) := by rw [hlv]
      have eK : sumN 800 (lvF lv lev go sz (lev pp)) = sumN 800 (lvF lv lev go sz d) := by rw [hlv]
      have sP := ab_step (lv := lv) (lev := lev) (go := go) (g := fun _ => 1) (d := d)
      have sK := ab_step (lv := lv) (lev := lev) (go := go) (g := sz) (d := d)
      have hk1 := hKn d
      have hq1 := hPn d
      have hA2 := hAn d
      have hE2 := hEn d
      have hE3 : sumN 800 (abF lv lev go sz ((d + 1) - 1 + 1)) = sumN 800 (abF lv lev go sz (d + 1)) := rfl
      refine lv_iload hx hb dL_areLevelsSo_37 (lv_at hl 0 rfl) ?_
      refine nz_lt (tgt := 194) hx hb dL_areLevelsSo_39 (by decide) (by omega) ?_
      refine lv_iload hx hb dL_areLevelsSo_42 (lv_at hl 1 rfl) ?_
      refine nz_eq (tgt := 194) hx hb dL_areLevelsSo_44 (by decide) (by decide) (fun c9 => ?_) (fun c9 => ?_)
      · exact absurd c9 (by decide)
      · refine lv_aload_n hx hb dL_areLevelsSo_47 rfl (lv_at hl 6 rfl) ?_
        refine lv_iload_n hx hb dL_areLevelsSo_48 rfl (lv_at hl 5 rfl) ?_
        refine kc_S 2 (c_L_along l G A ad dm ct lv lev lo hi ri sz ky vl go rt ep wq wn cn op cl ca ce kc nb t0 hst hH hI0 pp hA hlo) F hE hW hS kw_557 kw_558 kw_0 kw_559 (by decide +kernel) rfl ⟨rfl, rfl⟩ ⟨Nat.le_of_ble_eq_true rfl, Nat.le_of_ble_eq_true rfl⟩ hl.1 rfl (Nat.le_of_ble_eq_true rfl) dL_areLevelsSo_49 ⟨(by show _ ≤ 2 + 41 * nb; omega), (by show _ ≤ 12 + 246 * nb; omega)⟩ (fun _ _ _ _ _ h => h.elim) (fun v w' H locs hp hW hS => ?_)
        obtain ⟨rfl, rfl⟩ := hp
        rw [eK, eP]
        generalize hx9 : 1000 * sumN 800 (lvF lv lev go sz d) + sumN 800 (lvF lv lev go (fun _ => 1) d) = x9
        have hx1 : x9 % 1000 = sumN 800 (lvF lv lev go (fun _ => 1) d) := by omega
        have hx2 : x9 / 1000 = sumN 800 (lvF lv lev go sz d) := by omega
        show W p l e _ s m _ below meth c H locs (cells + _) (slots + _) _ _
        refine lv_istore (lv' := [(7, .int (nI x9)), (6, .int (nI d)), (5, .int (nI 1)), (4, .int (nI (sumN 800 (abF lv lev go (fun _ => 1) (d + 1))))), (3, .int (nI (sumN 800 (abF lv lev go sz ((d + 1) - 1 + 1))))), (2, .int (nI (sumN 800 (abF lv lev go (fun _ => 1) (d + 1))))), (1, .int (nI pp)), (0, .ref (ad (0, 0)))]) hx hb dL_areLevelsSo_52 hl (by decide) rfl (fun ls hl => ?_)
        refine lv_iload hx hb dL_areLevelsSo_54 (lv_at hl 0 rfl) ?_
        refine nz_lt (tgt := 73) hx hb dL_areLevelsSo_56 (by decide) (by omega) ?_
        refine lv_aload_n hx hb dL_areLevelsSo_59 rfl (lv_at hl 7 rfl) ?_
        refine lv_iload_n hx hb dL_areLevelsSo_60 rfl (lv_at hl 6 rfl) ?_
        refine kc_V 1 (c_X2_level l G A ad dm ct lv lev lo hi ri sz ky vl go rt ep wq wn cn op cl ca ce kc nb hst hH t0 hI (nI pp)) F hE hW hS (0, 0) hH.1.1 hH.2.1 rfl [.int (nI pp)] rfl kw_521 kw_522 kw_523 kw_1 kw_524 (by decide +kernel) rfl ⟨rfl, rfl⟩ ⟨Nat.le_of_ble_eq_true rfl, Nat.le_of_ble_eq_true rfl⟩ hl.1 rfl (Nat.le_of_ble_eq_true rfl) dL_areLevelsSo_61 ⟨(by show _ ≤ 2 + 41 * nb; omega), (by show _ ≤ 12 + 246 * nb; omega)⟩ (fun _ _ _ _ _ h => absurd rfl (h.2 pp hA.1)) (fun v w' H locs hp hW hS => ?_)
        obtain ⟨rfl, j9, he9, hl9, rfl⟩ := hp
        have he9 : pp = j9 := nI_inj (by have := hj8 _ hA.1; omega) (by have := hj8 _ hl9; omega) he9
        subst he9
        refine lv_iload hx hb dL_areLevelsSo_64 (lv_at hl 1 rfl) ?_
        refine nc_ne (tgt := 73) hx hb dL_areLevelsSo_66 (by decide) (by omega) (by omega) (fun c4 => ?_) (fun c4 => ?_)
        · exact absurd hlv c4
        · refine lv_iconst (v := nI 1) hx hb dL_areLevelsSo_69 (by decide) ?_
          refine lv_goto (tgt := 74) hx hb dL_areLevelsSo_70 (by decide) ?_
          refine lv_istore (lv' := [(5, .int (nI 1)), (7, .int (nI x9)), (6, .int (nI d)), (4, .int (nI (sumN 800 (abF lv lev go (fun _ => 1) (d + 1))))), (3, .int (nI (sumN 800 (abF lv lev go sz ((d + 1) - 1 + 1))))), (2, .int (nI (sumN 800 (abF lv lev go (fun _ => 1) (d + 1))))), (1, .int (nI pp)), (0, .ref (ad (0, 0)))]) hx hb dL_areLevelsSo_74 hl (by decide) rfl (fun ls hl => ?_)
          refine lv_iload_n hx hb dL_areLevelsSo_76 rfl (lv_at hl 5 rfl) ?_
          refine lv_iload hx hb dL_areLevelsSo_77 (lv_at hl 0 rfl) ?_
          refine nz_eq (tgt := 91) hx hb dL_areLevelsSo_79 (by decide) (by decide) (fun c9 => ?_) (fun c9 => ?_)
          · exact absurd c9 (by decide)
          · refine lv_iload hx hb dL_areLevelsSo_82 (lv_at hl 1 rfl) ?_
            refine lv_sipush (v := nI 1000) hx hb dL_areLevelsSo_84 (by decide) ?_
            refine lv_irem hx hb dL_areLevelsSo_87 (by decide) ?_
            refine ktop (pk_rem (by omega) (by decide) (by decide)) ?_
            refine lv_goto (tgt := 92) hx hb dL_areLevelsSo_88 (by decide) ?_
            refine lv_iadd hx hb dL_areLevelsSo_92 ?_
            refine ktop (nI_add _ _) ?_
            refine lv_istore_n (lv' := [(2, .int (nI ((sumN 800 (abF lv lev go (fun _ => 1) (d + 1))) + (x9 % 1000)))), (5, .int (nI 1)), (7, .int (nI x9)), (6, .int (nI d)), (4, .int (nI (sumN 800 (abF lv lev go (fun _ => 1) (d + 1))))), (3, .int (nI (sumN 800 (abF lv lev go sz ((d + 1) - 1 + 1))))), (1, .int (nI pp)), (0, .ref (ad (0, 0)))]) hx hb dL_areLevelsSo_93 rfl hl (by decide) rfl (fun ls hl => ?_)
            refine lv_iload_n hx hb dL_areLevelsSo_94 rfl (lv_at hl 5 rfl) ?_
            refine lv_iload hx hb dL_areLevelsSo_95 (lv_at hl 1 rfl) ?_
            rcases Nat.eq_zero_or_pos d with h0 | h0
            · refine nz_eq (tgt := 114) hx hb dL_areLevelsSo_97 (by decide) (by decide) (fun c9 => ?_) (fun c9 => ?_)
              · exact absurd c9 (by decide)
              · refine lv_iload hx hb dL_areLevelsSo_100 (lv_at hl 3 rfl) ?_
                refine nz_le (tgt := 114) hx hb dL_areLevelsSo_102 (by decide) (by omega) (fun c5 => ?_) (fun c5 => ?_)
                · refine lv_iconst (v := nI 0) hx hb dL_areLevelsSo_114 (by decide) ?_
                  refine lv_iadd hx hb dL_areLevelsSo_115 ?_
                  refine ktop (nI_add _ _) ?_
                  refine lv_istore_n (lv' := [(3, .int (nI ((sumN 800 (abF lv lev go sz ((d + 1) - 1 + 1))) + 0))), (2, .int (nI ((sumN 800 (abF lv lev go (fun _ => 1) (d + 1))) + (x9 % 1000)))), (5, .int (nI 1)), (7, .int (nI x9)), (6, .int (nI d)), (4, .int (nI (sumN 800 (abF lv lev go (fun _ => 1) (d + 1))))), (1, .int (nI pp)), (0, .ref (ad (0, 0)))]) hx hb dL_areLevelsSo_116 rfl hl (by decide) rfl (fun ls hl => ?_)
                  refine lv_iload hx hb dL_areLevelsSo_117 (lv_at hl 5 rfl) ?_
                  refine lv_iload hx hb dL_areLevelsSo_119 (lv_at hl 2 rfl) ?_
                  refine nz_eq (tgt := 133) hx hb dL_areLevelsSo_121 (by decide) (by decide) (fun c9 => ?_) (fun c9 => ?_)
                  · exact absurd c9 (by decide)
                  · refine lv_iload hx hb dL_areLevelsSo_124 (lv_at hl 3 rfl) ?_
                    refine lv_sipush (v := nI 1000) hx hb dL_areLevelsSo_126 (by decide) ?_
                    refine lv_irem hx hb dL_areLevelsSo_129 (by decide) ?_
                    refine ktop (pk_rem (by omega) (by decide) (by decide)) ?_
                    refine lv_goto (tgt := 134) hx hb dL_areLevelsSo_130 (by decide) ?_
                    refine lv_iadd hx hb dL_areLevelsSo_134 ?_
                    refine ktop (nI_add _ _) ?_
                    refine lv_istore (lv' := [(4, .int (nI ((sumN 800 (abF lv lev go (fun _ => 1) (d + 1))) + (x9 % 1000)))), (3, .int (nI ((sumN 800 (abF lv lev go sz ((d + 1) - 1 + 1))) + 0))), (2, .int (nI ((sumN 800 (abF lv lev go (fun _ => 1) (d + 1))) + (x9 % 1000)))), (5, .int (nI 1)), (7, .int (nI x9)), (6, .int (nI d)), (1, .int (nI pp)), (0, .ref (ad (0, 0)))]) hx hb dL_areLevelsSo_135 hl (by decide) rfl (fun ls hl => ?_)
                    refine lv_iload hx hb dL_areLevelsSo_137 (lv_at hl 3 rfl) ?_
                    refine nz_eq (tgt := 164) hx hb dL_areLevelsSo_139 (by decide) (by decide) (fun c9 => ?_) (fun c9 => ?_)
                    · exact absurd c9 (by decide)
                    · refine lv_iload hx hb dL_areLevelsSo_142 (lv_at hl 5 rfl) ?_
                      refine nz_gt (tgt := 160) hx hb dL_areLevelsSo_144 (by decide) (by omega) (fun c6 => ?_) (fun c6 => ?_)
                      · exfalso; omega
                      · refine lv_iload hx hb dL_areLevelsSo_147 (lv_at hl 4 rfl) ?_
                        refine lv_sipush (v := nI 1000) hx hb dL_areLevelsSo_149 (by decide) ?_
                        refine lv_idiv hx hb dL_areLevelsSo_152 (by decide) ?_
                        refine ktop (pk_div (by omega) (by decide) (by decide)) ?_
                        refine lv_aload_n hx hb dL_areLevelsSo_153 rfl (lv_at hl 7 rfl) ?_
                        refine kc_V 0 (c_X2_keys l G A ad dm ct lv lev lo hi ri sz ky vl go rt ep wq wn cn op cl ca ce kc nb hH ) F hE hW hS (0, 0) hH.1.1 hH.2.1 rfl [] rfl kw_486 kw_487 kw_488 kw_1 kw_489 (by decide +kernel) rfl ⟨rfl, rfl⟩ ⟨Nat.le_of_ble_eq_true rfl, Nat.le_of_ble_eq_true rfl⟩ hl.1 rfl (Nat.le_of_ble_eq_true rfl) dL_areLevelsSo_154 ⟨(by show _ ≤ 2 + 41 * nb; omega), (by show _ ≤ 12 + 246 * nb; omega)⟩ (fun _ _ _ _ _ h => h.elim) (fun v w' H locs hp hW hS => ?_)
                        obtain ⟨rfl, rfl⟩ := hp
                        have hk0 := lv_keys hP
                        have ek0 : sumN 800 (lvF lv lev go sz d) = sumN 800 (lvF lv lev go sz 0) := by rw [h0]
                        rw [hk0] at ek0
                        refine nc_ne (tgt := 164) hx hb dL_areLevelsSo_157 (by decide) (by omega) (by omega) (fun c7 => ?_) (fun c7 => ?_)
                        · exfalso; omega
                        · refine lv_iconst (v := nI 1) hx hb dL_areLevelsSo_160 (by decide) ?_
                          refine lv_goto (tgt := 165) hx hb dL_areLevelsSo_161 (by decide) ?_
                          refine lv_istore (lv' := [(5, .int (nI 1)), (4, .int (nI ((sumN 800 (abF lv lev go (fun _ => 1) (d + 1))) + (x9 % 1000)))), (3, .int (nI ((sumN 800 (abF lv lev go sz ((d + 1) - 1 + 1))) + 0))), (2, .int (nI ((sumN 800 (abF lv lev go (fun _ => 1) (d + 1))) + (x9 % 1000)))), (7, .int (nI x9)), (6, .int (nI d)), (1, .int (nI pp)), (0, .ref (ad (0, 0)))]) hx hb dL_areLevelsSo_165 hl (by decide) rfl (fun ls hl => ?_)
                          refine lv_iload hx hb dL_areLevelsSo_167 (lv_at hl 5 rfl) ?_
                          refine nz_le (tgt := 186) hx hb dL_areLevelsSo_169 (by decide) (by omega) (fun c5 => ?_) (fun c5 => ?_)
                          · refine lv_iload_n hx hb dL_areLevelsSo_186 rfl (lv_at hl 6 rfl) ?_
                            refine lv_istore_n (lv' := [(1, .int (nI pp)), (5, .int (nI 1)), (4, .int (nI ((sumN 800 (abF lv lev go (fun _ => 1) (d + 1))) + (x9 % 1000)))), (3, .int (nI ((sumN 800 (abF lv lev go sz ((d + 1) - 1 + 1))) + 0))), (2, .int (nI ((sumN 800 (abF lv lev go (fun _ => 1) (d + 1))) + (x9 % 1000)))), (7, .int (nI x9)), (6, .int (nI d)), (0, .ref (ad (0, 0)))]) hx hb dL_areLevelsSo_187 rfl hl (by decide) rfl (fun ls hl => ?_)
                            refine lv_iinc (v := lI d) (lv' := [(6, .int (lI d)), (1, .int (nI pp)), (5, .int (nI 1)), (4, .int (nI ((sumN 800 (abF lv lev go (fun _ => 1) (d + 1))) + (x9 % 1000)))), (3, .int (nI ((sumN 800 (abF lv lev go sz ((d + 1) - 1 + 1))) + 0))), (2, .int (nI ((sumN 800 (abF lv lev go (fun _ => 1) (d + 1))) + (x9 % 1000)))), (7, .int (nI x9)), (0, .ref (ad (0, 0)))]) hx hb dL_areLevelsSo_188 hl (k := 6) rfl (lI_dec d) (by decide) rfl (fun ls hl => ?_)
                            refine lv_goto (tgt := 37) hx hb dL_areLevelsSo_191 (by decide) ?_
                            have w2 : (sumN 800 (abF lv lev go (fun _ => 1) (d + 1))) + (x9 % 1000) = sumN 800 (abF lv lev go (fun _ => 1) d) := by omega
                            have w5 : sumN 800 (abF lv lev go sz (d - 1 + 1)) = sumN 800 (abF lv lev go sz (0 - 1 + 1)) := by rw [h0]
                            have w6 : sumN 800 (abF lv lev go sz ((d + 1) - 1 + 1)) = sumN 800 (abF lv lev go sz (1 - 1 + 1)) := by rw [h0]
                            have w7 : sumN 800 (abF lv lev go sz (1 - 1 + 1)) = sumN 800 (abF lv lev go sz (0 - 1 + 1)) := rfl
                            have w3 : (sumN 800 (abF lv lev go sz ((d + 1) - 1 + 1))) + 0 = sumN 800 (abF lv lev go sz (d - 1 + 1)) := by omega
                            rw [w2, w3] at hl
                            exact ih pp _ _ _ _ _ (fun h => by omega) (by omega) (by omega) (by omega) hW hS (lv_sub hl [0, 2, 3, 4, 5, 1, 7] rfl)
                          · exfalso; omega
                · exfalso; omega
            · refine nz_eq (tgt := 114) hx hb dL_areLevelsSo_97 (by decide) (by decide) (fun c9 => ?_) (fun c9 => ?_)
              · exact absurd c9 (by decide)
              · refine lv_iload hx hb dL_areLevelsSo_100 (lv_at hl 3 rfl) ?_
                refine nz_le (tgt := 114) hx hb dL_areLevelsSo_102 (by decide) (by omega) (fun c5 => ?_) (fun c5 => ?_)
                · exfalso; omega
                · refine lv_iload hx hb dL_areLevelsSo_105 (lv_at hl 2 rfl) ?_
                  refine lv_sipush (v := nI 1000) hx hb dL_areLevelsSo_107 (by decide) ?_
                  refine lv_idiv hx hb dL_areLevelsSo_110 (by decide) ?_
                  refine ktop (pk_div (by omega) (by decide) (by decide)) ?_
                  refine lv_goto (tgt := 115) hx hb dL_areLevelsSo_111 (by decide) ?_
                  refine lv_iadd hx hb dL_areLevelsSo_115 ?_
                  refine ktop (nI_add _ _) ?_
                  refine lv_istore_n (lv' := [(3, .int (nI ((sumN 800 (abF lv lev go sz ((d + 1) - 1 + 1))) + (x9 / 1000)))), (2, .int (nI ((sumN 800 (abF lv lev go (fun _ => 1) (d + 1))) + (x9 % 1000)))), (5, .int (nI 1)), (7, .int (nI x9)), (6, .int (nI d)), (4, .int (nI (sumN 800 (abF lv lev go (fun _ => 1) (d + 1))))), (1, .int (nI pp)), (0, .ref (ad (0, 0)))]) hx hb dL_areLevelsSo_116 rfl hl (by decide) rfl (fun ls hl => ?_)
                  refine lv_iload hx hb dL_areLevelsSo_117 (lv_at hl 5 rfl) ?_
                  refine lv_iload hx hb dL_areLevelsSo_119 (lv_at hl 2 rfl) ?_
                  refine nz_eq (tgt := 133) hx hb dL_areLevelsSo_121 (by decide) (by decide) (fun c9 => ?_) (fun c9 => ?_)
                  · exact absurd c9 (by decide)
                  · refine lv_iload hx hb dL_areLevelsSo_124 (lv_at hl 3 rfl) ?_
                    refine lv_sipush (v := nI 1000) hx hb dL_areLevelsSo_126 (by decide) ?_
                    refine lv_irem hx hb dL_areLevelsSo_129 (by decide) ?_
                    refine ktop (pk_rem (by omega) (by decide) (by decide)) ?_
                    refine lv_goto (tgt := 134) hx hb dL_areLevelsSo_130 (by decide) ?_
                    refine lv_iadd hx hb dL_areLevelsSo_134 ?_
                    refine ktop (nI_add _ _) ?_
                    refine lv_istore (lv' := [(4, .int (nI ((sumN 800 (abF lv lev go (fun _ => 1) (d + 1))) + (x9 % 1000)))), (3, .int (nI ((sumN 800 (abF lv lev go sz ((d + 1) - 1 + 1))) + (x9 / 1000)))), (2, .int (nI ((sumN 800 (abF lv lev go (fun _ => 1) (d + 1))) + (x9 % 1000)))), (5, .int (nI 1)), (7, .int (nI x9)), (6, .int (nI d)), (1, .int (nI pp)), (0, .ref (ad (0, 0)))]) hx hb dL_areLevelsSo_135 hl (by decide) rfl (fun ls hl => ?_)
                    refine lv_iload hx hb dL_areLevelsSo_137 (lv_at hl 3 rfl) ?_
                    refine nz_eq (tgt := 164) hx hb dL_areLevelsSo_139 (by decide) (by decide) (fun c9 => ?_) (fun c9 => ?_)
                    · exact absurd c9 (by decide)
                    · refine lv_iload hx hb dL_areLevelsSo_142 (lv_at hl 5 rfl) ?_
                      refine nz_gt (tgt := 160) hx hb dL_areLevelsSo_144 (by decide) (by omega) (fun c6 => ?_) (fun c6 => ?_)
                      · refine lv_iconst (v := nI 1) hx hb dL_areLevelsSo_160 (by decide) ?_
                        refine lv_goto (tgt := 165) hx hb dL_areLevelsSo_161 (by decide) ?_
                        refine lv_istore (lv' := [(5, .int (nI 1)), (4, .int (nI ((sumN 800 (abF lv lev go (fun _ => 1) (d + 1))) + (x9 % 1000)))), (3, .int (nI ((sumN 800 (abF lv lev go sz ((d + 1) - 1 + 1))) + (x9 / 1000)))), (2, .int (nI ((sumN 800 (abF lv lev go (fun _ => 1) (d + 1))) + (x9 % 1000)))), (7, .int (nI x9)), (6, .int (nI d)), (1, .int (nI pp)), (0, .ref (ad (0, 0)))]) hx hb dL_areLevelsSo_165 hl (by decide) rfl (fun ls hl => ?_)
                        refine lv_iload hx hb dL_areLevelsSo_167 (lv_at hl 5 rfl) ?_
                        refine nz_le (tgt := 186) hx hb dL_areLevelsSo_169 (by decide) (by omega) (fun c5 => ?_) (fun c5 => ?_)
                        · exfalso; omega
                        · refine lv_iload hx hb dL_areLevelsSo_172 (lv_at hl 0 rfl) ?_
                          refine nz_eq (tgt := 186) hx hb dL_areLevelsSo_174 (by decide) (by decide) (fun c9 => ?_) (fun c9 => ?_)
                          · exact absurd c9 (by decide)
                          · refine lv_aload_n hx hb dL_areLevelsSo_177 rfl (lv_at hl 7 rfl) ?_
                            refine lv_iload_n hx hb dL_areLevelsSo_178 rfl (lv_at hl 6 rfl) ?_
                            refine lv_iconst (v := nI 0) hx hb dL_areLevelsSo_179 (by decide) ?_
                            obtain ⟨f1, f2, f3, f4⟩ := first_child hP hA (by omega)
                            refine kc_V 2 (c_X2_below l G A ad dm ct lv lev lo hi ri sz ky vl go rt ep wq wn cn op cl ca ce kc nb hst hH t0 hI (nI pp) (nI 0)) F hE hW hS (0, 0) hH.1.1 hH.2.1 rfl [.int (nI pp), .int (nI 0)] rfl kw_560 kw_561 kw_562 kw_1 kw_563 (by decide +kernel) rfl ⟨rfl, rfl⟩ ⟨Nat.le_of_ble_eq_true rfl, Nat.le_of_ble_eq_true rfl⟩ hl.1 rfl (Nat.le_of_ble_eq_true rfl) dL_areLevelsSo_180 ⟨(by show _ ≤ 2 + 41 * nb; omega), (by show _ ≤ 12 + 246 * nb; omega)⟩ (fun _ _ _ _ _ h => h.2.elim (fun q => absurd rfl (q pp hA.1)) (fun q => absurd q (nI_pos (n := 0) (by omega)))) (fun v w' H locs hp hW hS => ?_)
                            obtain ⟨rfl, j9, k9, he9, hl9, hk9, hf9, rfl⟩ := hp
                            have he9 : pp = j9 := nI_inj (by have := hj8 _ hA.1; omega) (by have := hj8 _ hl9; omega) he9
                            subst he9
                            have hf9 : 0 = k9 := nI_inj (by omega) hk9 hf9
                            subst hf9
                            refine ktop (y := nI (vl (5 * pp))) (by unfold blA; rw [if_pos ⟨by omega, by omega⟩]; rfl) ?_
                            refine lv_goto (tgt := 187) hx hb dL_areLevelsSo_183 (by decide) ?_
                            refine lv_istore_n (lv' := [(1, .int (nI (vl (5 * pp)))), (5, .int (nI 1)), (4, .int (nI ((sumN 800 (abF lv lev go (fun _ => 1) (d + 1))) + (x9 % 1000)))), (3, .int (nI ((sumN 800 (abF lv lev go sz ((d + 1) - 1 + 1))) + (x9 / 1000)))), (2, .int (nI ((sumN 800 (abF lv lev go (fun _ => 1) (d + 1))) + (x9 % 1000)))), (7, .int (nI x9)), (6, .int (nI d)), (0, .ref (ad (0, 0)))]) hx hb dL_areLevelsSo_187 rfl hl (by decide) rfl (fun ls hl => ?_)
                            refine lv_iinc (v := lI d) (lv' := [(6, .int (lI d)), (1, .int (nI (vl (5 * pp)))), (5, .int (nI 1)), (4, .int (nI ((sumN 800 (abF lv lev go (fun _ => 1) (d + 1))) + (x9 % 1000)))), (3, .int (nI ((sumN 800 (abF lv lev go sz ((d + 1) - 1 + 1))) + (x9 / 1000)))), (2, .int (nI ((sumN 800 (abF lv lev go (fun _ => 1) (d + 1))) + (x9 % 1000)))), (7, .int (nI x9)), (0, .ref (ad (0, 0)))]) hx hb dL_areLevelsSo_188 hl (k := 6) rfl (lI_dec d) (by decide) rfl (fun ls hl => ?_)
                            refine lv_goto (tgt := 37) hx hb dL_areLevelsSo_191 (by decide) ?_
                            have w2 : (sumN 800 (abF lv lev go (fun _ => 1) (d + 1))) + (x9 % 1000) = sumN 800 (abF lv lev go (fun _ => 1) d) := by omega
                            have w5 : sumN 800 (abF lv lev go sz (d - 1 + 1)) = sumN 800 (abF lv lev go sz d) := by rw [Nat.sub_add_cancel h0]
                            have w3 : (sumN 800 (abF lv lev go sz ((d + 1) - 1 + 1))) + (x9 / 1000) = sumN 800 (abF lv lev go sz (d - 1 + 1)) := by omega
                            rw [w2, w3] at hl
                            exact ih (vl (5 * pp)) _ _ _ _ _ (fun _ => ⟨f2, by omega, by omega⟩) (by omega) (by omega) (by omega) hW hS (lv_sub hl [0, 2, 3, 4, 5, 1, 7] rfl)
                      · exfalso; omega
theorem c_L_areLevelsSo (l : Launch) (G : GG) (A : Nat → Prop) (ad : Lb → Nat) (dm : Lb → Prop) (ct : Lb → va_E) (S : SG) (t0 : Nat) (hst : l.stackTraces = false) (hK : HK G ad dm ct S) (hI : Inv S t0) (hN : CN S) :
    CT l yL_areLevelsSo cL_areLevelsSo 8 (some FieldType.boolean) { frames := 10, cells := 2 + 41 * nbS S, slots := 12 + 246 * nbS S, locals := 196 } [.ref (ad (0, 0))] G A (ad, dm, ct) (fun v w' => (ad, dm, ct) = w' ∧ v = some (.int (nI 1))) (fun _ => False) (2 + 41 * nbS S) (12 + 246 * nbS S) := by
  obtain ⟨lv, lev, lo, hi, ri, sz, ky, vl, go, rt, ep, wq, wn, cn, op, cl, ca, ce, kc, nb⟩ := S
  exact c_L_areLevelsSoF l G A ad dm ct lv lev lo hi ri sz ky vl go rt ep wq wn cn op cl ca ce kc nb t0 hst hK hI hN
