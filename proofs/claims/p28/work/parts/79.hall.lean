/-! The class: post, postAll. -/
def wqS (s : SG) : Nat → Nat := match s with
  | (lv, lev, lo, hi, ri, sz, ky, vl, go, rt, ep, wq, wn, cn, op, cl, ca, ce, kc, nb) => wq
theorem HK.lq {G : GG} {ad : Lb → Nat} {dm : Lb → Prop} {ct : Lb → va_E} {s : SG} (h : HK G ad dm ct s) : LQ G ad dm ct (wqS s) (waits s) := by
  obtain ⟨lv, lev, lo, hi, ri, sz, ky, vl, go, rt, ep, wq, wn, cn, op, cl, ca, ce, kc, nb⟩ := s
  have h2 : HKF G ad dm ct lv lev lo hi ri sz ky vl go rt ep wq wn cn op cl ca ce kc nb := h
  exact h2.2.2.2.2.1
set_option maxRecDepth 100000 in
set_option maxHeartbeats 4000000 in
theorem c_X2_post (l : Launch) (G : GG) (A : Nat → Prop) (ad : Lb → Nat) (dm : Lb → Prop) (ct : Lb → va_E) (lv : Nat → Bool) (lev : Nat → Nat) (lo : Nat → Nat) (hi : Nat → Nat) (ri : Nat → Option Nat) (sz : Nat → Nat) (ky : Nat → Nat) (vl : Nat → Nat) (go : Nat → Option Nat) (rt : Nat) (ep : Nat) (wq : Nat → Nat) (wn : Nat) (cn : Nat) (op : Nat → Bool) (cl : Nat → Nat) (ca : Nat → Nat) (ce : Nat → Nat) (kc : Nat) (nb : Nat) (hst : l.stackTraces = false) (hH : HKF G ad dm ct lv lev lo hi ri sz ky vl go rt ep wq wn cn op cl ca ce kc nb) (t0 : Nat) (hI : InvF lv lev lo hi ri sz ky vl go rt ep wq wn cn op cl ca ce kc nb 800 t0) :
    CT l yX2_post cX2_post 1 (some FieldType.int) { frames := 11, cells := 5, slots := 826, locals := 218 } [.ref (ad (0, 0))] G A (ad, dm, ct) (fun v w' => ∃ ad' dm' ct', w' = (ad', dm', ct') ∧ FH ad dm ct ad' dm' ct' ∧ 0 < wn ∧ HK G ad' dm' ct' (posS (lv, lev, lo, hi, ri, sz, ky, vl, go, rt, ep, wq, wn, cn, op, cl, ca, ce, kc, nb)) ∧ v = some (.int (nI (waits (posS (lv, lev, lo, hi, ri, sz, ky, vl, go, rt, ep, wq, wn, cn, op, cl, ca, ce, kc, nb)))))) (fun E => E = "java/lang/IllegalStateException" ∧ wn = 0) (5) (826) := by
  refine ct_of (by decide) (Nat.le_of_ble_eq_true rfl) ?_
  intro p e s m below meth c ls F hr hlk hnm hex hE hW hl
  have hx := F.1
  have hb := F.2.1
  have hS : va_S A s.heap s.heap [] := va_S.rf
  have hl : lv_has ls 1 [(0, .ref (ad (0, 0)))] := hl
  have hI9 := hI
  have hI0 := hI
  obtain ⟨hP, hQ, hCu, hkc, hsum, ht, hep, hkt⟩ := hI
  have hb9 : nb ≤ 513 := by omega
  have hwn9 : wn ≤ 513 := by omega
  obtain ⟨hfr1, hfr2, hfr3⟩ := fr_spec hP hb9
  obtain ⟨mcx, capx, fx, hL, hLf⟩ := hH.2.2.2.2.1
  obtain ⟨hL1, hL2, Ex, hL3⟩ := hL.obj
  refine lv_aload_n hx hb dX2_post_0 rfl (lv_at hl 0 rfl) ?_
  refine kg F hE hW (0, 0) hH.1.1 rfl hH.2.1 rfl inA_X2 1 (by decide) kw_106 (v := .ref (ad (0, 2))) rfl dX2_post_1 ?_
  refine kc_V 0 (c_Jx4a65c_isEmpty_aae02 l G A ad dm ct mcx wn capx fx hL) F hE hW hS (0, 2) hL1 hL3 rfl [] rfl kw_134 kw_135 kw_136 kw_4 kw_137 (by decide +kernel) rfl ⟨rfl, rfl⟩ ⟨Nat.le_of_ble_eq_true rfl, Nat.le_of_ble_eq_true rfl⟩ hl.1 rfl (Nat.le_of_ble_eq_true rfl) dX2_post_4 ⟨Nat.le_of_ble_eq_true rfl, Nat.le_of_ble_eq_true rfl⟩ (fun _ _ _ _ _ h => h.elim) (fun v w' H locs hp hW hS => ?_)
  obtain ⟨rfl, ⟨h9, rfl⟩ | ⟨h9, rfl⟩⟩ := hp
  · refine nz_eq (tgt := 20) hx hb dX2_post_7 (by decide) (by decide) (fun c9 => ?_) (fun c9 => ?_)
    · exact absurd c9 (by decide)
    · exact kr_t (cls := "java/lang/IllegalStateException") (text := "no split waits") (ik := 82) (is := 84) (ic := 86) F hst hlk hex hE hW hS hl.1 (by decide +kernel) kw_388 kw_14 kn_397 tl_86.1 tl_86.2.1 tl_86.2.2 dX2_post_10 dX2_post_13 dX2_post_14 dX2_post_16 dX2_post_19 (Nat.le_of_ble_eq_true rfl) (Nat.le_of_ble_eq_true rfl) (Nat.le_of_ble_eq_true rfl) (Nat.le_of_ble_eq_true rfl) (Nat.le_of_ble_eq_true rfl) (Nat.le_of_ble_eq_true rfl) (⟨rfl, h9⟩)
  · refine nz_eq (tgt := 20) hx hb dX2_post_7 (by decide) (by decide) (fun c9 => ?_) (fun c9 => ?_)
    · refine lv_aload_n hx hb dX2_post_20 rfl (lv_at hl 0 rfl) ?_
      refine kc_V 0 (c_X2_postLongestWaiting l G A ad dm ct lv lev lo hi ri sz ky vl go rt ep wq wn cn op cl ca ce kc nb hH t0 hI9 h9) F hE hW hS (0, 0) hH.1.1 hH.2.1 rfl [] rfl kw_138 kw_140 kp_0 kw_1 kw_141 (by decide +kernel) rfl ⟨rfl, rfl⟩ ⟨Nat.le_of_ble_eq_true rfl, Nat.le_of_ble_eq_true rfl⟩ hl.1 rfl (Nat.le_of_ble_eq_true rfl) dX2_post_21 ⟨Nat.le_of_ble_eq_true rfl, Nat.le_of_ble_eq_true rfl⟩ (fun _ _ _ _ _ h => h.elim) (fun v w' H locs hp hW hS => ?_)
      obtain ⟨ad3, dm3, ct3, rfl, hF, hK, rfl⟩ := hp
      obtain ⟨hd0, hO0⟩ := hK.o0
      obtain ⟨mcy, capy, fy, hL9, hLf9⟩ := hK.lq
      obtain ⟨hL1, hL2, Ex, hL3⟩ := hL9.obj
      refine lv_aload_n hx hb dX2_post_24 rfl (lv_at hl 0 rfl) ?_
      refine kg F hE hW (0, 0) hd0 hF.2 hO0 rfl inA_X2 1 (by decide) kw_106 (v := .ref (ad3 (0, 2))) rfl dX2_post_25 ?_
      refine kc_V 0 (c_Jx4a65c_size_8abf5 l G A ad3 dm3 ct3 mcy (waits (posS (lv, lev, lo, hi, ri, sz, ky, vl, go, rt, ep, wq, wn, cn, op, cl, ca, ce, kc, nb))) capy fy hL9) F hE hW hS (0, 2) hL1 hL3 rfl [] rfl kw_404 kw_405 kw_406 kw_4 kw_407 (by decide +kernel) rfl ⟨rfl, rfl⟩ ⟨Nat.le_of_ble_eq_true rfl, Nat.le_of_ble_eq_true rfl⟩ hl.1 rfl (Nat.le_of_ble_eq_true rfl) dX2_post_28 ⟨Nat.le_of_ble_eq_true rfl, Nat.le_of_ble_eq_true rfl⟩ (fun _ _ _ _ _ h => h.elim) (fun v w' H locs hp hW hS => ?_)
      obtain ⟨rfl, rfl⟩ := hp
      exact kr_i F hr hlk hE hW hS (Nat.le_of_ble_eq_true rfl) (Nat.le_of_ble_eq_true rfl) dX2_post_31 (⟨_, _, _, rfl, hF, h9, hK, rfl⟩)
    · exact absurd c9 (by decide)
set_option maxRecDepth 100000 in
set_option maxHeartbeats 4000000 in
theorem c_X2_postAll (l : Launch) (G : GG) (A : Nat → Prop) (ad : Lb → Nat) (dm : Lb → Prop) (ct : Lb → va_E) (lv : Nat → Bool) (lev : Nat → Nat) (lo : Nat → Nat) (hi : Nat → Nat) (ri : Nat → Option Nat) (sz : Nat → Nat) (ky : Nat → Nat) (vl : Nat → Nat) (go : Nat → Option Nat) (rt : Nat) (ep : Nat) (wq : Nat → Nat) (wn : Nat) (cn : Nat) (op : Nat → Bool) (cl : Nat → Nat) (ca : Nat → Nat) (ce : Nat → Nat) (kc : Nat) (nb : Nat) (hH : HKF G ad dm ct lv lev lo hi ri sz ky vl go rt ep wq wn cn op cl ca ce kc nb) (t0 : Nat) (hI : InvF lv lev lo hi ri sz ky vl go rt ep wq wn cn op cl ca ce kc nb 800 t0) :
    CT l yX2_postAll cX2_postAll 2 (some FieldType.int) { frames := 11, cells := 5 * (paS 1024 (lv, lev, lo, hi, ri, sz, ky, vl, go, rt, ep, wq, wn, cn, op, cl, ca, ce, kc, nb)).2, slots := 826 * (paS 1024 (lv, lev, lo, hi, ri, sz, ky, vl, go, rt, ep, wq, wn, cn, op, cl, ca, ce, kc, nb)).2, locals := 218 } [.ref (ad (0, 0))] G A (ad, dm, ct) (fun v w' => ∃ ad' dm' ct', w' = (ad', dm', ct') ∧ FH ad dm ct ad' dm' ct' ∧ HK G ad' dm' ct' (paS 1024 (lv, lev, lo, hi, ri, sz, ky, vl, go, rt, ep, wq, wn, cn, op, cl, ca, ce, kc, nb)).1 ∧ v = some (.int (nI (paS 1024 (lv, lev, lo, hi, ri, sz, ky, vl, go, rt, ep, wq, wn, cn, op, cl, ca, ce, kc, nb)).2))) (fun _ => False) (5 * (paS 1024 (lv, lev, lo, hi, ri, sz, ky, vl, go, rt, ep, wq, wn, cn, op, cl, ca, ce, kc, nb)).2) (826 * (paS 1024 (lv, lev, lo, hi, ri, sz, ky, vl, go, rt, ep, wq, wn, cn, op, cl, ca, ce, kc, nb)).2) := by
  refine ct_of (by decide) (Nat.le_of_ble_eq_true rfl) ?_
  intro p e s m below meth c ls F hr hlk hnm hex hE hW hl
  have hx := F.1
  have hb := F.2.1
  have hS : va_S A s.heap s.heap [] := va_S.rf
  have hl : lv_has ls 2 [(0, .ref (ad (0, 0)))] := hl
  have hI9 : Inv (lv, lev, lo, hi, ri, sz, ky, vl, go, rt, ep, wq, wn, cn, op, cl, ca, ce, kc, nb) t0 := hI
  have hrm := inv_room hI9
  have hK : HK G ad dm ct (lv, lev, lo, hi, ri, sz, ky, vl, go, rt, ep, wq, wn, cn, op, cl, ca, ce, kc, nb) := hH
  refine lv_iconst (v := nI 0) hx hb dX2_postAll_0 (by decide) ?_
  refine lv_istore_n (lv' := [(1, .int (nI 0)), (0, .ref (ad (0, 0)))]) hx hb dX2_postAll_1 rfl hl (by decide) rfl (fun ls hl => ?_)
  generalize hRR : (paS 1024 (lv, lev, lo, hi, ri, sz, ky, vl, go, rt, ep, wq, wn, cn, op, cl, ca, ce, kc, nb)) = RR
  generalize hS0 : (lv, lev, lo, hi, ri, sz, ky, vl, go, rt, ep, wq, wn, cn, op, cl, ca, ce, kc, nb) = S0 at hI9 hrm hK hRR
  suffices key9 : ∀ (d i cz sl : Nat) (S1 : SG) (ad1 : Lb → Nat) (dm1 : Lb → Prop) (ct1 : Lb → va_E) (H : Heap) (locs : List Loc) (ls : Array Slot), i + d = 1024 → Inv S1 t0 → sumE S1 + 2 * waits S1 + i ≤ 1024 → (paS d S1).1 = RR.1 → (paS d S1).2 + i = RR.2 → cz = 5 * i → sl = 826 * i → HK G ad1 dm1 ct1 S1 → FH ad dm ct ad1 dm1 ct1 → wd G A (ad1, dm1, ct1) H → va_S A s.heap H locs → lv_has ls 2 [(1, .int (nI i)), (0, .ref (ad (0, 0)))] → W _ l e _ s m _ below meth c H locs cz sl _ (F0 m 2 ls []) from
    key9 1024 0 0 0 S0 ad dm ct _ _ ls rfl hI9 hrm (by rw [hRR]) (by rw [hRR]; rfl) rfl rfl hK FH.rf hW hS hl
  clear hK hI9 hrm hH hI hRR hW hS hl
  intro d
  induction d with
  | zero =>
    intro i cz sl S1 adA dmA ctA H locs ls hi9 hI hpot hr1 hr2 hcz hsl hK hF hW hS hl
    obtain ⟨hd0, hO0⟩ := hK.o0
    obtain ⟨mcy, capy, fy, hL9, hLf9⟩ := hK.lq
    obtain ⟨hL1, hL2, Ex, hL3⟩ := hL9.obj
    refine lv_aload_n hx hb dX2_postAll_2 rfl (lv_at hl 1 rfl) ?_
    refine kg F hE hW (0, 0) hd0 hF.2 hO0 rfl inA_X2 1 (by decide) kw_106 (v := .ref (adA (0, 2))) rfl dX2_postAll_3 ?_
    refine kc_V 0 (c_Jx4a65c_isEmpty_aae02 l G A adA dmA ctA mcy (waits S1) capy fy hL9) F hE hW hS (0, 2) hL1 hL3 rfl [] rfl kw_134 kw_135 kw_136 kw_4 kw_137 (by decide +kernel) rfl ⟨rfl, rfl⟩ ⟨Nat.le_of_ble_eq_true rfl, Nat.le_of_ble_eq_true rfl⟩ hl.1 rfl (Nat.le_of_ble_eq_true rfl) dX2_postAll_6 ⟨by show cz + 0 ≤ 5 * RR.2; omega, by show sl + 0 ≤ 826 * RR.2; omega⟩ (fun _ _ _ _ _ h => h.elim) (fun v w' H locs hp hW hS => ?_)
    obtain ⟨rfl, ⟨h9, rfl⟩ | ⟨h9, rfl⟩⟩ := hp
    · refine nz_ne (tgt := 29) hx hb dX2_postAll_9 (by decide) (by decide) (fun c9 => ?_) (fun c9 => ?_)
      · refine lv_iload_n hx hb dX2_postAll_29 rfl (lv_at hl 0 rfl) ?_
        have h3 : paS 0 S1 = (S1, 0) := rfl
        rw [h3] at hr1 hr2
        dsimp only at hr1 hr2
        exact kr_i F hr hlk hE hW hS (by omega) (by omega) dX2_postAll_30 (⟨_, _, _, rfl, hF, by rw [← hr1]; exact hK, by rw [← hr2, Nat.zero_add]⟩)
      · exact absurd c9 (by decide)
    · omega
  | succ d ih =>
    intro i cz sl S1 adA dmA ctA H locs ls hi9 hI hpot hr1 hr2 hcz hsl hK hF hW hS hl
    obtain ⟨hd0, hO0⟩ := hK.o0
    obtain ⟨mcy, capy, fy, hL9, hLf9⟩ := hK.lq
    obtain ⟨hL1, hL2, Ex, hL3⟩ := hL9.obj
    refine lv_aload_n hx hb dX2_postAll_2 rfl (lv_at hl 1 rfl) ?_
    refine kg F hE hW (0, 0) hd0 hF.2 hO0 rfl inA_X2 1 (by decide) kw_106 (v := .ref (adA (0, 2))) rfl dX2_postAll_3 ?_
    refine kc_V 0 (c_Jx4a65c_isEmpty_aae02 l G A adA dmA ctA mcy (waits S1) capy fy hL9) F hE hW hS (0, 2) hL1 hL3 rfl [] rfl kw_134 kw_135 kw_136 kw_4 kw_137 (by decide +kernel) rfl ⟨rfl, rfl⟩ ⟨Nat.le_of_ble_eq_true rfl, Nat.le_of_ble_eq_true rfl⟩ hl.1 rfl (Nat.le_of_ble_eq_true rfl) dX2_postAll_6 ⟨by show cz + 0 ≤ 5 * RR.2; omega, by show sl + 0 ≤ 826 * RR.2; omega⟩ (fun _ _ _ _ _ h => h.elim) (fun v w' H locs hp hW hS => ?_)
    obtain ⟨rfl, ⟨h9, rfl⟩ | ⟨h9, rfl⟩⟩ := hp
    · refine nz_ne (tgt := 29) hx hb dX2_postAll_9 (by decide) (by decide) (fun c9 => ?_) (fun c9 => ?_)
      · refine lv_iload_n hx hb dX2_postAll_29 rfl (lv_at hl 0 rfl) ?_
        have h3 : paS (d + 1) S1 = (S1, 0) := if_pos h9
        rw [h3] at hr1 hr2
        dsimp only at hr1 hr2
        exact kr_i F hr hlk hE hW hS (by omega) (by omega) dX2_postAll_30 (⟨_, _, _, rfl, hF, by rw [← hr1]; exact hK, by rw [← hr2, Nat.zero_add]⟩)
      · exact absurd c9 (by decide)
    · refine nz_ne (tgt := 29) hx hb dX2_postAll_9 (by decide) (by decide) (fun c9 => ?_) (fun c9 => ?_)
      · exact absurd c9 (by decide)
      · have h3 : paS (d + 1) S1 = ((paS d (posS S1)).1, (paS d (posS S1)).2 + 1) := if_neg (by omega)
        rw [h3] at hr1 hr2
        dsimp only at hr1 hr2
        obtain ⟨hI2, hpot2⟩ := inv_pos hI h9
        refine lv_iload_n hx hb dX2_postAll_12 rfl (lv_at hl 0 rfl) ?_
        refine lv_sipush (v := nI 1024) hx hb dX2_postAll_13 (by decide) ?_
        refine nc_ge (tgt := 29) hx hb dX2_postAll_16 (by decide) (by omega) (by omega) (fun c1 => ?_) (fun c1 => ?_)
        · omega
        · obtain ⟨lv, lev, lo, hi, ri, sz, ky, vl, go, rt, ep, wq, wn, cn, op, cl, ca, ce, kc, nb⟩ := S1
          have hH : HKF G adA dmA ctA lv lev lo hi ri sz ky vl go rt ep wq wn cn op cl ca ce kc nb := hK
          refine lv_aload_n hx hb dX2_postAll_19 rfl (lv_at hl 1 rfl) ?_
          refine kc_Va 0 (c_X2_postLongestWaiting l G A adA dmA ctA lv lev lo hi ri sz ky vl go rt ep wq wn cn op cl ca ce kc nb hH t0 hI h9) F hE hW hS (0, 0) hd0 hO0 hF.2 rfl [] rfl kw_138 kw_140 kp_0 kw_1 kw_141 (by decide +kernel) rfl ⟨rfl, rfl⟩ ⟨Nat.le_of_ble_eq_true rfl, Nat.le_of_ble_eq_true rfl⟩ hl.1 rfl (Nat.le_of_ble_eq_true rfl) dX2_postAll_20 ⟨by show cz + 5 ≤ 5 * RR.2; omega, by show sl + 826 ≤ 826 * RR.2; omega⟩ (fun _ _ _ _ _ h => h.elim) (fun v w' H locs hp hW hS => ?_)
          obtain ⟨ad3, dm3, ct3, rfl, hF2, hK2, rfl⟩ := hp
          refine lv_iinc (v := nI (i + 1)) (lv' := [(1, .int (nI (i + 1))), (0, .ref (ad (0, 0)))]) hx hb dX2_postAll_23 hl (k := 0) rfl (ki1 _) (by decide) rfl (fun ls hl => ?_)
          refine lv_goto (tgt := 2) hx hb dX2_postAll_26 (by decide) ?_
          exact ih (i + 1) (cz + 5) (sl + 826) _ _ _ _ _ _ _ (by omega) hI2 (by omega) hr1 (by omega) (by omega) (by omega) hK2 (hF.tr hF2) hW hS hl
