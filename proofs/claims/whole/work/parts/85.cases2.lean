/-! The law: the other calls. -/
set_option maxRecDepth 100000 in
set_option maxHeartbeats 4000000 in
theorem lc_keys {p : Program} {l : Launch} {e : Env} {s : State} {m : MethodId} {below : List Frame} {meth : Method} {c : Code} {b L : Nat} {xs : Nat → Int32} {Q : State → Prop} {G : GG} {A : Nat → Prop} {ad : Lb → Nat} {dm : Lb → Prop} {ct : Lb → va_E} {S : SG} {H : Heap} {locs : List Loc} {cells slots i a0 a1 a2 : Nat} {ls : Array Slot}
    (F : Fx p m c cL_law 7 s #[.ref b] RL) (hst : l.stackTraces = false) (hE : VE G A s) (hXs : va_X b L xs s s.heap) (hbl : b < s.heap.size) (hbA : ¬ A b) (hi9 : 3 * i + 3 ≤ L) (hL9 : L ≤ 1536) (hW : wd G A (ad, dm, ct) H) (hS : va_S A s.heap H locs) (hJ : JN G a0 a1 a2 ad dm ct S i cells slots) (hl : lv_has ls 7 [(4, .int (nI (3 * i))), (3, .ref a2), (2, .ref a1), (1, .ref a0), (0, .ref b)])
    (kk : ∀ (ad2 : Lb → Nat) (dm2 : Lb → Prop) (ct2 : Lb → va_E) (S2 : SG) (H2 : Heap) (locs2 : List Loc) (ls2 : Array Slot) (cells2 slots2 : Nat), wd G A (ad2, dm2, ct2) H2 → va_S A s.heap H2 locs2 → JN G a0 a1 a2 ad2 dm2 ct2 S2 (i + 1) cells2 slots2 → lv_has ls2 7 [(4, .int (nI (3 * i))), (3, .ref a2), (2, .ref a1), (1, .ref a0), (0, .ref b)] → W p l e room_1 s m #[.ref b] below meth c H2 locs2 cells2 slots2 Q (F0 m 1189 ls2 [])) :
    W p l e room_1 s m #[.ref b] below meth c H locs cells slots Q (F0 m 388 ls []) := by
  have hx := F.1
  have hb := F.2.1
  obtain ⟨hcb, hsb⟩ := hJ.room
  have hJ0 := hJ
  obtain ⟨hK, ⟨th0, fo0, hM⟩, hI, ⟨ha0, ha1, ha2⟩, ⟨hO1, fO, hO2⟩, h7, -, -⟩ := hJ
  have ht9 : i < 512 := by omega
  have hIu := inv_up hI ht9
  obtain ⟨lv, lev, lo, hi, ri, sz, ky, vl, go, rt, ep, wq, wn, cn, op, cl, ca, ce, kc, nb⟩ := S
  have hH : HKF G ad dm ct lv lev lo hi ri sz ky vl go rt ep wq wn cn op cl ca ce kc nb := hK
  have hMf : MDF G ad dm ct lv lev lo hi ri sz ky vl go rt ep wq wn cn op cl ca ce kc nb th0 fo0 := hM
  have hIf : InvF lv lev lo hi ri sz ky vl go rt ep wq wn cn op cl ca ce kc nb 800 i := hI
  have hP := hIf.1
  have hnb : nb ≤ 513 := by have := hIf.2.2.2.2; omega
  have hcn9 := hIf.2.2.1.1
  refine lv_aload_n hx hb dL_law_388 rfl (lv_at hl 3 rfl) ?_
  refine kc_Va 0 (c_X2_keys l G A ad dm ct lv lev lo hi ri sz ky vl go rt ep wq wn cn op cl ca ce kc nb hH ) F hE hW hS (0, 0) hH.1.1 hH.2.1 ha0 rfl [] rfl kw_131 kw_132 kw_133 kw_1 kw_134 (by decide +kernel) rfl ⟨rfl, rfl⟩ ⟨Nat.le_of_ble_eq_true rfl, Nat.le_of_ble_eq_true rfl⟩ hl.1 rfl (Nat.le_of_ble_eq_true rfl) dL_law_389 ⟨by show cells + 0 ≤ 601024; omega, by show slots + 0 ≤ 7293034; omega⟩ (fun _ _ _ _ _ h => h.elim) (fun v w' H locs hp hW hS => ?_)
  obtain ⟨rfl, rfl⟩ := hp
  have hF : FH ad dm ct ad dm ct := FH.rf
  have hK2 := hK
  have hM9 : MDF G ad dm ct lv lev lo hi ri sz ky vl go rt ep wq wn cn op cl ca ce kc nb th0 fo0 := md_pass hM hF (fun _ _ => rfl)
  have hb1 : ad (10, 0) = a1 := (hF.1 (10, 0) (by decide)).1.trans ha1
  refine lv_aload_n hx hb dL_law_392 rfl (lv_at hl 2 rfl) ?_
  refine kc_Va 0 (c_X3_keys l G A ad dm ct lv lev lo hi ri sz ky vl go rt ep wq wn cn op cl ca ce kc nb th0 fo0 hM9 i hIf) F hE hW hS (10, 0) (hM9.1 0 (by decide)) hM9.2.1 hb1 rfl [] rfl kw_730 kw_731 kw_732 kw_6 kw_733 (by decide +kernel) rfl ⟨rfl, rfl⟩ ⟨Nat.le_of_ble_eq_true rfl, Nat.le_of_ble_eq_true rfl⟩ hl.1 rfl (Nat.le_of_ble_eq_true rfl) dL_law_393 ⟨by show cells + 0 + 0 ≤ 601024; omega, by show slots + 0 + 0 ≤ 7293034; omega⟩ (fun _ _ _ _ _ h => h.elim) (fun v w' H locs hp hW hS => ?_)
  obtain ⟨ct3, rfl, hM3, hXM, rfl⟩ := hp
  refine lv_icmp_eq (tgt := 1189) hx hb dL_law_396 (by decide) (fun c1 => ?_) (fun c1 => ?_)
  · exact kk _ _ _ _ _ _ _ _ _ hW hS (jn_mk (0) hJ0 hF hK2 ((hF.1 (20, 0) (by decide)).2.1.trans hO2) (fun _ _ => rfl) hXM hM3 hIu (Nat.le_refl _) (by show cells + 0 + 0 ≤ _; omega) (by show slots + 0 + 0 ≤ _; omega)) (lv_sub hl [0, 1, 2, 3, 4] rfl)
  · exact absurd rfl c1
set_option maxRecDepth 100000 in
set_option maxHeartbeats 4000000 in
theorem lc_waiting {p : Program} {l : Launch} {e : Env} {s : State} {m : MethodId} {below : List Frame} {meth : Method} {c : Code} {b L : Nat} {xs : Nat → Int32} {Q : State → Prop} {G : GG} {A : Nat → Prop} {ad : Lb → Nat} {dm : Lb → Prop} {ct : Lb → va_E} {S : SG} {H : Heap} {locs : List Loc} {cells slots i a0 a1 a2 : Nat} {ls : Array Slot}
    (F : Fx p m c cL_law 7 s #[.ref b] RL) (hst : l.stackTraces = false) (hE : VE G A s) (hXs : va_X b L xs s s.heap) (hbl : b < s.heap.size) (hbA : ¬ A b) (hi9 : 3 * i + 3 ≤ L) (hL9 : L ≤ 1536) (hW : wd G A (ad, dm, ct) H) (hS : va_S A s.heap H locs) (hJ : JN G a0 a1 a2 ad dm ct S i cells slots) (hl : lv_has ls 7 [(4, .int (nI (3 * i))), (3, .ref a2), (2, .ref a1), (1, .ref a0), (0, .ref b)])
    (kk : ∀ (ad2 : Lb → Nat) (dm2 : Lb → Prop) (ct2 : Lb → va_E) (S2 : SG) (H2 : Heap) (locs2 : List Loc) (ls2 : Array Slot) (cells2 slots2 : Nat), wd G A (ad2, dm2, ct2) H2 → va_S A s.heap H2 locs2 → JN G a0 a1 a2 ad2 dm2 ct2 S2 (i + 1) cells2 slots2 → lv_has ls2 7 [(4, .int (nI (3 * i))), (3, .ref a2), (2, .ref a1), (1, .ref a0), (0, .ref b)] → W p l e room_1 s m #[.ref b] below meth c H2 locs2 cells2 slots2 Q (F0 m 1189 ls2 [])) :
    W p l e room_1 s m #[.ref b] below meth c H locs cells slots Q (F0 m 401 ls []) := by
  have hx := F.1
  have hb := F.2.1
  obtain ⟨hcb, hsb⟩ := hJ.room
  have hJ0 := hJ
  obtain ⟨hK, ⟨th0, fo0, hM⟩, hI, ⟨ha0, ha1, ha2⟩, ⟨hO1, fO, hO2⟩, h7, -, -⟩ := hJ
  have ht9 : i < 512 := by omega
  have hIu := inv_up hI ht9
  obtain ⟨lv, lev, lo, hi, ri, sz, ky, vl, go, rt, ep, wq, wn, cn, op, cl, ca, ce, kc, nb⟩ := S
  have hH : HKF G ad dm ct lv lev lo hi ri sz ky vl go rt ep wq wn cn op cl ca ce kc nb := hK
  have hMf : MDF G ad dm ct lv lev lo hi ri sz ky vl go rt ep wq wn cn op cl ca ce kc nb th0 fo0 := hM
  have hIf : InvF lv lev lo hi ri sz ky vl go rt ep wq wn cn op cl ca ce kc nb 800 i := hI
  have hP := hIf.1
  have hnb : nb ≤ 513 := by have := hIf.2.2.2.2; omega
  have hcn9 := hIf.2.2.1.1
  refine lv_aload_n hx hb dL_law_401 rfl (lv_at hl 3 rfl) ?_
  refine kc_Va 0 (c_X2_waiting l G A ad dm ct lv lev lo hi ri sz ky vl go rt ep wq wn cn op cl ca ce kc nb hH ) F hE hW hS (0, 0) hH.1.1 hH.2.1 ha0 rfl [] rfl kw_135 kw_136 kw_137 kw_1 kw_138 (by decide +kernel) rfl ⟨rfl, rfl⟩ ⟨Nat.le_of_ble_eq_true rfl, Nat.le_of_ble_eq_true rfl⟩ hl.1 rfl (Nat.le_of_ble_eq_true rfl) dL_law_402 ⟨by show cells + 0 ≤ 601024; omega, by show slots + 0 ≤ 7293034; omega⟩ (fun _ _ _ _ _ h => h.elim) (fun v w' H locs hp hW hS => ?_)
  obtain ⟨rfl, rfl⟩ := hp
  have hF : FH ad dm ct ad dm ct := FH.rf
  have hK2 := hK
  have hM9 : MDF G ad dm ct lv lev lo hi ri sz ky vl go rt ep wq wn cn op cl ca ce kc nb th0 fo0 := md_pass hM hF (fun _ _ => rfl)
  have hb1 : ad (10, 0) = a1 := (hF.1 (10, 0) (by decide)).1.trans ha1
  refine lv_aload_n hx hb dL_law_405 rfl (lv_at hl 2 rfl) ?_
  refine kc_Va 0 (c_X3_waiting l G A ad dm ct lv lev lo hi ri sz ky vl go rt ep wq wn cn op cl ca ce kc nb th0 fo0 hM9 ) F hE hW hS (10, 0) (hM9.1 0 (by decide)) hM9.2.1 hb1 rfl [] rfl kw_734 kw_735 kw_736 kw_6 kw_737 (by decide +kernel) rfl ⟨rfl, rfl⟩ ⟨Nat.le_of_ble_eq_true rfl, Nat.le_of_ble_eq_true rfl⟩ hl.1 rfl (Nat.le_of_ble_eq_true rfl) dL_law_406 ⟨by show cells + 0 + 0 ≤ 601024; omega, by show slots + 0 + 0 ≤ 7293034; omega⟩ (fun _ _ _ _ _ h => h.elim) (fun v w' H locs hp hW hS => ?_)
  obtain ⟨ct3, rfl, hM3, hXM, rfl⟩ := hp
  refine lv_icmp_eq (tgt := 1189) hx hb dL_law_409 (by decide) (fun c1 => ?_) (fun c1 => ?_)
  · exact kk _ _ _ _ _ _ _ _ _ hW hS (jn_mk (0) hJ0 hF hK2 ((hF.1 (20, 0) (by decide)).2.1.trans hO2) (fun _ _ => rfl) hXM hM3 hIu (Nat.le_refl _) (by show cells + 0 + 0 ≤ _; omega) (by show slots + 0 + 0 ≤ _; omega)) (lv_sub hl [0, 1, 2, 3, 4] rfl)
  · exact absurd rfl c1
set_option maxRecDepth 100000 in
set_option maxHeartbeats 4000000 in
theorem lc_postAll {p : Program} {l : Launch} {e : Env} {s : State} {m : MethodId} {below : List Frame} {meth : Method} {c : Code} {b L : Nat} {xs : Nat → Int32} {Q : State → Prop} {G : GG} {A : Nat → Prop} {ad : Lb → Nat} {dm : Lb → Prop} {ct : Lb → va_E} {S : SG} {H : Heap} {locs : List Loc} {cells slots i a0 a1 a2 : Nat} {ls : Array Slot}
    (F : Fx p m c cL_law 7 s #[.ref b] RL) (hst : l.stackTraces = false) (hE : VE G A s) (hXs : va_X b L xs s s.heap) (hbl : b < s.heap.size) (hbA : ¬ A b) (hi9 : 3 * i + 3 ≤ L) (hL9 : L ≤ 1536) (hW : wd G A (ad, dm, ct) H) (hS : va_S A s.heap H locs) (hJ : JN G a0 a1 a2 ad dm ct S i cells slots) (hl : lv_has ls 7 [(4, .int (nI (3 * i))), (3, .ref a2), (2, .ref a1), (1, .ref a0), (0, .ref b)])
    (kk : ∀ (ad2 : Lb → Nat) (dm2 : Lb → Prop) (ct2 : Lb → va_E) (S2 : SG) (H2 : Heap) (locs2 : List Loc) (ls2 : Array Slot) (cells2 slots2 : Nat), wd G A (ad2, dm2, ct2) H2 → va_S A s.heap H2 locs2 → JN G a0 a1 a2 ad2 dm2 ct2 S2 (i + 1) cells2 slots2 → lv_has ls2 7 [(4, .int (nI (3 * i))), (3, .ref a2), (2, .ref a1), (1, .ref a0), (0, .ref b)] → W p l e room_1 s m #[.ref b] below meth c H2 locs2 cells2 slots2 Q (F0 m 1189 ls2 [])) :
    W p l e room_1 s m #[.ref b] below meth c H locs cells slots Q (F0 m 458 ls []) := by
  have hx := F.1
  have hb := F.2.1
  obtain ⟨hcb, hsb⟩ := hJ.room
  have hJ0 := hJ
  obtain ⟨hK, ⟨th0, fo0, hM⟩, hI, ⟨ha0, ha1, ha2⟩, ⟨hO1, fO, hO2⟩, h7, -, -⟩ := hJ
  have ht9 : i < 512 := by omega
  have hIu := inv_up hI ht9
  obtain ⟨lv, lev, lo, hi, ri, sz, ky, vl, go, rt, ep, wq, wn, cn, op, cl, ca, ce, kc, nb⟩ := S
  have hH : HKF G ad dm ct lv lev lo hi ri sz ky vl go rt ep wq wn cn op cl ca ce kc nb := hK
  have hMf : MDF G ad dm ct lv lev lo hi ri sz ky vl go rt ep wq wn cn op cl ca ce kc nb th0 fo0 := hM
  have hIf : InvF lv lev lo hi ri sz ky vl go rt ep wq wn cn op cl ca ce kc nb 800 i := hI
  have hP := hIf.1
  have hnb : nb ≤ 513 := by have := hIf.2.2.2.2; omega
  have hcn9 := hIf.2.2.1.1
  have hn9 := (inv_pa 1024 hI (inv_room hI)).2.2
  refine lv_aload_n hx hb dL_law_458 rfl (lv_at hl 3 rfl) ?_
  refine kc_Va 0 (c_X2_postAll l G A ad dm ct lv lev lo hi ri sz ky vl go rt ep wq wn cn op cl ca ce kc nb hH i hIf) F hE hW hS (0, 0) hH.1.1 hH.2.1 ha0 rfl [] rfl kw_143 kw_144 kw_145 kw_1 kw_146 (by decide +kernel) rfl ⟨rfl, rfl⟩ ⟨Nat.le_of_ble_eq_true rfl, Nat.le_of_ble_eq_true rfl⟩ hl.1 rfl (Nat.le_of_ble_eq_true rfl) dL_law_459 ⟨by show cells + 5 * (paS 1024 (lv, lev, lo, hi, ri, sz, ky, vl, go, rt, ep, wq, wn, cn, op, cl, ca, ce, kc, nb)).2 ≤ 601024; omega, by show slots + 826 * (paS 1024 (lv, lev, lo, hi, ri, sz, ky, vl, go, rt, ep, wq, wn, cn, op, cl, ca, ce, kc, nb)).2 ≤ 7293034; omega⟩ (fun _ _ _ _ _ h => h.elim) (fun v w' H locs hp hW hS => ?_)
  obtain ⟨ad2, dm2, ct2, rfl, hF, hK2, rfl⟩ := hp
  have hM9 : MDF G ad2 dm2 ct2 lv lev lo hi ri sz ky vl go rt ep wq wn cn op cl ca ce kc nb th0 fo0 := md_pass hM hF (fun _ _ => rfl)
  have hb1 : ad2 (10, 0) = a1 := (hF.1 (10, 0) (by decide)).1.trans ha1
  refine lv_aload_n hx hb dL_law_462 rfl (lv_at hl 2 rfl) ?_
  refine kc_Va 0 (c_X3_postAll l G A ad2 dm2 ct2 lv lev lo hi ri sz ky vl go rt ep wq wn cn op cl ca ce kc nb th0 fo0 hM9 i hIf) F hE hW hS (10, 0) (hM9.1 0 (by decide)) hM9.2.1 hb1 rfl [] rfl kw_746 kw_747 kw_748 kw_6 kw_749 (by decide +kernel) rfl ⟨rfl, rfl⟩ ⟨Nat.le_of_ble_eq_true rfl, Nat.le_of_ble_eq_true rfl⟩ hl.1 rfl (Nat.le_of_ble_eq_true rfl) dL_law_463 ⟨by show cells + 5 * (paS 1024 (lv, lev, lo, hi, ri, sz, ky, vl, go, rt, ep, wq, wn, cn, op, cl, ca, ce, kc, nb)).2 + 0 ≤ 601024; omega, by show slots + 826 * (paS 1024 (lv, lev, lo, hi, ri, sz, ky, vl, go, rt, ep, wq, wn, cn, op, cl, ca, ce, kc, nb)).2 + 0 ≤ 7293034; omega⟩ (fun _ _ _ _ _ h => h.elim) (fun v w' H locs hp hW hS => ?_)
  obtain ⟨ct3, th3, fo3, s3, rfl, hM3, hXM, rfl, rfl, rfl⟩ := hp
  refine lv_icmp_eq (tgt := 1189) hx hb dL_law_466 (by decide) (fun c1 => ?_) (fun c1 => ?_)
  · exact kk _ _ _ _ _ _ _ _ _ hW hS (jn_mk ((paS 1024 (lv, lev, lo, hi, ri, sz, ky, vl, go, rt, ep, wq, wn, cn, op, cl, ca, ce, kc, nb)).2) hJ0 hF hK2 ((hF.1 (20, 0) (by decide)).2.1.trans hO2) (fun _ _ => rfl) hXM hM3 (inv_up (inv_pa 1024 hI (inv_room hI)).1 ht9) (pa_P 1024 (lv, lev, lo, hi, ri, sz, ky, vl, go, rt, ep, wq, wn, cn, op, cl, ca, ce, kc, nb)) (by show cells + 5 * (paS 1024 (lv, lev, lo, hi, ri, sz, ky, vl, go, rt, ep, wq, wn, cn, op, cl, ca, ce, kc, nb)).2 + 0 ≤ _; omega) (by show slots + 826 * (paS 1024 (lv, lev, lo, hi, ri, sz, ky, vl, go, rt, ep, wq, wn, cn, op, cl, ca, ce, kc, nb)).2 + 0 ≤ _; omega)) (lv_sub hl [0, 1, 2, 3, 4] rfl)
  · exact absurd rfl c1
set_option maxRecDepth 100000 in
set_option maxHeartbeats 4000000 in
theorem lc_takeOut {p : Program} {l : Launch} {e : Env} {s : State} {m : MethodId} {below : List Frame} {meth : Method} {c : Code} {b L : Nat} {xs : Nat → Int32} {Q : State → Prop} {G : GG} {A : Nat → Prop} {ad : Lb → Nat} {dm : Lb → Prop} {ct : Lb → va_E} {S : SG} {H : Heap} {locs : List Loc} {cells slots i a0 a1 a2 : Nat} {ls : Array Slot}
    (F : Fx p m c cL_law 7 s #[.ref b] RL) (hst : l.stackTraces = false) (hE : VE G A s) (hXs : va_X b L xs s s.heap) (hbl : b < s.heap.size) (hbA : ¬ A b) (hi9 : 3 * i + 3 ≤ L) (hL9 : L ≤ 1536) (hW : wd G A (ad, dm, ct) H) (hS : va_S A s.heap H locs) (hJ : JN G a0 a1 a2 ad dm ct S i cells slots) (hl : lv_has ls 7 [(4, .int (nI (3 * i))), (3, .ref a2), (2, .ref a1), (1, .ref a0), (0, .ref b)])
    (kk : ∀ (ad2 : Lb → Nat) (dm2 : Lb → Prop) (ct2 : Lb → va_E) (S2 : SG) (H2 : Heap) (locs2 : List Loc) (ls2 : Array Slot) (cells2 slots2 : Nat), wd G A (ad2, dm2, ct2) H2 → va_S A s.heap H2 locs2 → JN G a0 a1 a2 ad2 dm2 ct2 S2 (i + 1) cells2 slots2 → lv_has ls2 7 [(4, .int (nI (3 * i))), (3, .ref a2), (2, .ref a1), (1, .ref a0), (0, .ref b)] → W p l e room_1 s m #[.ref b] below meth c H2 locs2 cells2 slots2 Q (F0 m 1189 ls2 [])) :
    W p l e room_1 s m #[.ref b] below meth c H locs cells slots Q (F0 m 471 ls []) := by
  have hx := F.1
  have hb := F.2.1
  obtain ⟨hcb, hsb⟩ := hJ.room
  have hJ0 := hJ
  obtain ⟨hK, ⟨th0, fo0, hM⟩, hI, ⟨ha0, ha1, ha2⟩, ⟨hO1, fO, hO2⟩, h7, -, -⟩ := hJ
  have ht9 : i < 512 := by omega
  have hIu := inv_up hI ht9
  obtain ⟨lv, lev, lo, hi, ri, sz, ky, vl, go, rt, ep, wq, wn, cn, op, cl, ca, ce, kc, nb⟩ := S
  have hH : HKF G ad dm ct lv lev lo hi ri sz ky vl go rt ep wq wn cn op cl ca ce kc nb := hK
  have hMf : MDF G ad dm ct lv lev lo hi ri sz ky vl go rt ep wq wn cn op cl ca ce kc nb th0 fo0 := hM
  have hIf : InvF lv lev lo hi ri sz ky vl go rt ep wq wn cn op cl ca ce kc nb 800 i := hI
  have hP := hIf.1
  have hnb : nb ≤ 513 := by have := hIf.2.2.2.2; omega
  have hcn9 := hIf.2.2.1.1
  refine lv_aload_n hx hb dL_law_471 rfl (lv_at hl 3 rfl) ?_
  refine kc_Va 0 (c_X2_takeOut l G A ad dm ct lv lev lo hi ri sz ky vl go rt ep wq wn cn op cl ca ce kc nb hH i hIf) F hE hW hS (0, 0) hH.1.1 hH.2.1 ha0 rfl [] rfl kw_275 kw_276 kw_277 kw_1 kw_278 (by decide +kernel) rfl ⟨rfl, rfl⟩ ⟨Nat.le_of_ble_eq_true rfl, Nat.le_of_ble_eq_true rfl⟩ hl.1 rfl (Nat.le_of_ble_eq_true rfl) dL_law_472 ⟨by show cells + 0 ≤ 601024; omega, by show slots + 0 ≤ 7293034; omega⟩ (fun _ _ _ _ _ h => h.elim) (fun v w' H locs hp hW hS => ?_)
  obtain ⟨ct2, r1, rfl, hF, hT1, hK2, rfl⟩ := hp
  have hM9 : MDF G ad dm ct2 lv lev lo hi ri sz ky vl go rt ep wq wn cn op cl ca ce kc nb th0 fo0 := md_pass hM hF (fun _ _ => rfl)
  have hb1 : ad (10, 0) = a1 := (hF.1 (10, 0) (by decide)).1.trans ha1
  refine lv_aload_n hx hb dL_law_475 rfl (lv_at hl 2 rfl) ?_
  refine kc_Va 0 (c_X3_takeOut l G A ad dm ct2 lv lev lo hi ri sz ky vl go rt ep wq wn cn op cl ca ce kc nb th0 fo0 hM9 i hIf) F hE hW hS (10, 0) (hM9.1 0 (by decide)) hM9.2.1 hb1 rfl [] rfl kw_750 kw_751 kw_752 kw_6 kw_753 (by decide +kernel) rfl ⟨rfl, rfl⟩ ⟨Nat.le_of_ble_eq_true rfl, Nat.le_of_ble_eq_true rfl⟩ hl.1 rfl (Nat.le_of_ble_eq_true rfl) dL_law_476 ⟨by show cells + 0 + 0 ≤ 601024; omega, by show slots + 0 + 0 ≤ 7293034; omega⟩ (fun _ _ _ _ _ h => h.elim) (fun v w' H locs hp hW hS => ?_)
  obtain ⟨ct3, r2, rfl, hT2, hM3, hXM, rfl⟩ := hp
  obtain rfl : r1 = r2 := touR_one hI hT1 hT2
  refine lv_icmp_eq (tgt := 1189) hx hb dL_law_479 (by decide) (fun c1 => ?_) (fun c1 => ?_)
  · exact kk _ _ _ _ _ _ _ _ _ hW hS (jn_mk (0) hJ0 hF hK2 ((hF.1 (20, 0) (by decide)).2.1.trans hO2) (fun _ _ => rfl) hXM hM3 (touR_inv hI ht9 hT1) (tou_P hT1) (by show cells + 0 + 0 ≤ _; omega) (by show slots + 0 + 0 ≤ _; omega)) (lv_sub hl [0, 1, 2, 3, 4] rfl)
  · exact absurd rfl c1
set_option maxRecDepth 100000 in
set_option maxHeartbeats 4000000 in
theorem lc_recycle {p : Program} {l : Launch} {e : Env} {s : State} {m : MethodId} {below : List Frame} {meth : Method} {c : Code} {b L : Nat} {xs : Nat → Int32} {Q : State → Prop} {G : GG} {A : Nat → Prop} {ad : Lb → Nat} {dm : Lb → Prop} {ct : Lb → va_E} {S : SG} {H : Heap} {locs : List Loc} {cells slots i a0 a1 a2 : Nat} {ls : Array Slot}
    (F : Fx p m c cL_law 7 s #[.ref b] RL) (hst : l.stackTraces = false) (hE : VE G A s) (hXs : va_X b L xs s s.heap) (hbl : b < s.heap.size) (hbA : ¬ A b) (hi9 : 3 * i + 3 ≤ L) (hL9 : L ≤ 1536) (hW : wd G A (ad, dm, ct) H) (hS : va_S A s.heap H locs) (hJ : JN G a0 a1 a2 ad dm ct S i cells slots) (hl : lv_has ls 7 [(4, .int (nI (3 * i))), (3, .ref a2), (2, .ref a1), (1, .ref a0), (0, .ref b)])
    (kk : ∀ (ad2 : Lb → Nat) (dm2 : Lb → Prop) (ct2 : Lb → va_E) (S2 : SG) (H2 : Heap) (locs2 : List Loc) (ls2 : Array Slot) (cells2 slots2 : Nat), wd G A (ad2, dm2, ct2) H2 → va_S A s.heap H2 locs2 → JN G a0 a1 a2 ad2 dm2 ct2 S2 (i + 1) cells2 slots2 → lv_has ls2 7 [(4, .int (nI (3 * i))), (3, .ref a2), (2, .ref a1), (1, .ref a0), (0, .ref b)] → W p l e room_1 s m #[.ref b] below meth c H2 locs2 cells2 slots2 Q (F0 m 1189 ls2 [])) :
    W p l e room_1 s m #[.ref b] below meth c H locs cells slots Q (F0 m 484 ls []) := by
  have hx := F.1
  have hb := F.2.1
  obtain ⟨hcb, hsb⟩ := hJ.room
  have hJ0 := hJ
  obtain ⟨hK, ⟨th0, fo0, hM⟩, hI, ⟨ha0, ha1, ha2⟩, ⟨hO1, fO, hO2⟩, h7, -, -⟩ := hJ
  have ht9 : i < 512 := by omega
  have hIu := inv_up hI ht9
  obtain ⟨lv, lev, lo, hi, ri, sz, ky, vl, go, rt, ep, wq, wn, cn, op, cl, ca, ce, kc, nb⟩ := S
  have hH : HKF G ad dm ct lv lev lo hi ri sz ky vl go rt ep wq wn cn op cl ca ce kc nb := hK
  have hMf : MDF G ad dm ct lv lev lo hi ri sz ky vl go rt ep wq wn cn op cl ca ce kc nb th0 fo0 := hM
  have hIf : InvF lv lev lo hi ri sz ky vl go rt ep wq wn cn op cl ca ce kc nb 800 i := hI
  have hP := hIf.1
  have hnb : nb ≤ 513 := by have := hIf.2.2.2.2; omega
  have hcn9 := hIf.2.2.1.1
  refine lv_aload_n hx hb dL_law_484 rfl (lv_at hl 3 rfl) ?_
  refine kc_Va 0 (c_X2_recycle l G A ad dm ct lv lev lo hi ri sz ky vl go rt ep wq wn cn op cl ca ce kc nb hH i hIf) F hE hW hS (0, 0) hH.1.1 hH.2.1 ha0 rfl [] rfl kw_292 kw_293 kw_294 kw_1 kw_295 (by decide +kernel) rfl ⟨rfl, rfl⟩ ⟨Nat.le_of_ble_eq_true rfl, Nat.le_of_ble_eq_true rfl⟩ hl.1 rfl (Nat.le_of_ble_eq_true rfl) dL_law_485 ⟨by show cells + 0 ≤ 601024; omega, by show slots + 0 ≤ 7293034; omega⟩ (fun _ _ _ _ _ h => h.elim) (fun v w' H locs hp hW hS => ?_)
  obtain ⟨dm2, ct2, rfl, hK2, hF, rfl⟩ := hp
  have hM9 : MDF G ad dm2 ct2 lv lev lo hi ri sz ky vl go rt ep wq wn cn op cl ca ce kc nb th0 fo0 := md_pass hM hF (fun _ _ => rfl)
  have hb1 : ad (10, 0) = a1 := (hF.1 (10, 0) (by decide)).1.trans ha1
  refine lv_aload_n hx hb dL_law_488 rfl (lv_at hl 2 rfl) ?_
  refine kc_Va 0 (c_X3_recycle l G A ad dm2 ct2 lv lev lo hi ri sz ky vl go rt ep wq wn cn op cl ca ce kc nb th0 fo0 hM9 i hIf) F hE hW hS (10, 0) (hM9.1 0 (by decide)) hM9.2.1 hb1 rfl [] rfl kw_758 kw_759 kw_760 kw_6 kw_761 (by decide +kernel) rfl ⟨rfl, rfl⟩ ⟨Nat.le_of_ble_eq_true rfl, Nat.le_of_ble_eq_true rfl⟩ hl.1 rfl (Nat.le_of_ble_eq_true rfl) dL_law_489 ⟨by show cells + 0 + 0 ≤ 601024; omega, by show slots + 0 + 0 ≤ 7293034; omega⟩ (fun _ _ _ _ _ h => h.elim) (fun v w' H locs hp hW hS => ?_)
  obtain ⟨ct3, rfl, hM3, hXM, rfl⟩ := hp
  refine lv_icmp_eq (tgt := 1189) hx hb dL_law_492 (by decide) (fun c1 => ?_) (fun c1 => ?_)
  · exact kk _ _ _ _ _ _ _ _ _ hW hS (jn_mk (0) hJ0 hF hK2 ((hF.1 (20, 0) (by decide)).2.1.trans hO2) (fun _ _ => rfl) hXM hM3 (inv_up (inv_rec hI) ht9) rec_P (by show cells + 0 + 0 ≤ _; omega) (by show slots + 0 + 0 ≤ _; omega)) (lv_sub hl [0, 1, 2, 3, 4] rfl)
  · exact absurd rfl c1
set_option maxRecDepth 100000 in
set_option maxHeartbeats 4000000 in
theorem lc_dead {p : Program} {l : Launch} {e : Env} {s : State} {m : MethodId} {below : List Frame} {meth : Method} {c : Code} {b L : Nat} {xs : Nat → Int32} {Q : State → Prop} {G : GG} {A : Nat → Prop} {ad : Lb → Nat} {dm : Lb → Prop} {ct : Lb → va_E} {S : SG} {H : Heap} {locs : List Loc} {cells slots i a0 a1 a2 : Nat} {ls : Array Slot}
    (F : Fx p m c cL_law 7 s #[.ref b] RL) (hst : l.stackTraces = false) (hE : VE G A s) (hXs : va_X b L xs s s.heap) (hbl : b < s.heap.size) (hbA : ¬ A b) (hi9 : 3 * i + 3 ≤ L) (hL9 : L ≤ 1536) (hW : wd G A (ad, dm, ct) H) (hS : va_S A s.heap H locs) (hJ : JN G a0 a1 a2 ad dm ct S i cells slots) (hl : lv_has ls 7 [(4, .int (nI (3 * i))), (3, .ref a2), (2, .ref a1), (1, .ref a0), (0, .ref b)])
    (kk : ∀ (ad2 : Lb → Nat) (dm2 : Lb → Prop) (ct2 : Lb → va_E) (S2 : SG) (H2 : Heap) (locs2 : List Loc) (ls2 : Array Slot) (cells2 slots2 : Nat), wd G A (ad2, dm2, ct2) H2 → va_S A s.heap H2 locs2 → JN G a0 a1 a2 ad2 dm2 ct2 S2 (i + 1) cells2 slots2 → lv_has ls2 7 [(4, .int (nI (3 * i))), (3, .ref a2), (2, .ref a1), (1, .ref a0), (0, .ref b)] → W p l e room_1 s m #[.ref b] below meth c H2 locs2 cells2 slots2 Q (F0 m 1189 ls2 [])) :
    W p l e room_1 s m #[.ref b] below meth c H locs cells slots Q (F0 m 497 ls []) := by
  have hx := F.1
  have hb := F.2.1
  obtain ⟨hcb, hsb⟩ := hJ.room
  have hJ0 := hJ
  obtain ⟨hK, ⟨th0, fo0, hM⟩, hI, ⟨ha0, ha1, ha2⟩, ⟨hO1, fO, hO2⟩, h7, -, -⟩ := hJ
  have ht9 : i < 512 := by omega
  have hIu := inv_up hI ht9
  obtain ⟨lv, lev, lo, hi, ri, sz, ky, vl, go, rt, ep, wq, wn, cn, op, cl, ca, ce, kc, nb⟩ := S
  have hH : HKF G ad dm ct lv lev lo hi ri sz ky vl go rt ep wq wn cn op cl ca ce kc nb := hK
  have hMf : MDF G ad dm ct lv lev lo hi ri sz ky vl go rt ep wq wn cn op cl ca ce kc nb th0 fo0 := hM
  have hIf : InvF lv lev lo hi ri sz ky vl go rt ep wq wn cn op cl ca ce kc nb 800 i := hI
  have hP := hIf.1
  have hnb : nb ≤ 513 := by have := hIf.2.2.2.2; omega
  have hcn9 := hIf.2.2.1.1
  refine lv_aload_n hx hb dL_law_497 rfl (lv_at hl 3 rfl) ?_
  refine kc_Va 0 (c_X2_dead l G A ad dm ct lv lev lo hi ri sz ky vl go rt ep wq wn cn op cl ca ce kc nb hH i hIf) F hE hW hS (0, 0) hH.1.1 hH.2.1 ha0 rfl [] rfl kw_300 kw_301 kw_302 kw_1 kw_303 (by decide +kernel) rfl ⟨rfl, rfl⟩ ⟨Nat.le_of_ble_eq_true rfl, Nat.le_of_ble_eq_true rfl⟩ hl.1 rfl (Nat.le_of_ble_eq_true rfl) dL_law_498 ⟨by show cells + 0 ≤ 601024; omega, by show slots + 0 ≤ 7293034; omega⟩ (fun _ _ _ _ _ h => h.elim) (fun v w' H locs hp hW hS => ?_)
  obtain ⟨rfl, rfl⟩ := hp
  have hF : FH ad dm ct ad dm ct := FH.rf
  have hK2 := hK
  have hM9 : MDF G ad dm ct lv lev lo hi ri sz ky vl go rt ep wq wn cn op cl ca ce kc nb th0 fo0 := md_pass hM hF (fun _ _ => rfl)
  have hb1 : ad (10, 0) = a1 := (hF.1 (10, 0) (by decide)).1.trans ha1
  refine lv_aload_n hx hb dL_law_501 rfl (lv_at hl 2 rfl) ?_
  refine kc_Va 0 (c_X3_dead l G A ad dm ct lv lev lo hi ri sz ky vl go rt ep wq wn cn op cl ca ce kc nb th0 fo0 hM9 i hIf) F hE hW hS (10, 0) (hM9.1 0 (by decide)) hM9.2.1 hb1 rfl [] rfl kw_766 kw_767 kw_768 kw_6 kw_769 (by decide +kernel) rfl ⟨rfl, rfl⟩ ⟨Nat.le_of_ble_eq_true rfl, Nat.le_of_ble_eq_true rfl⟩ hl.1 rfl (Nat.le_of_ble_eq_true rfl) dL_law_502 ⟨by show cells + 0 + 0 ≤ 601024; omega, by show slots + 0 + 0 ≤ 7293034; omega⟩ (fun _ _ _ _ _ h => h.elim) (fun v w' H locs hp hW hS => ?_)
  obtain ⟨ct3, rfl, hM3, hXM, rfl⟩ := hp
  refine lv_icmp_eq (tgt := 1189) hx hb dL_law_505 (by decide) (fun c1 => ?_) (fun c1 => ?_)
  · exact kk _ _ _ _ _ _ _ _ _ hW hS (jn_mk (0) hJ0 hF hK2 ((hF.1 (20, 0) (by decide)).2.1.trans hO2) (fun _ _ => rfl) hXM hM3 hIu (Nat.le_refl _) (by show cells + 0 + 0 ≤ _; omega) (by show slots + 0 + 0 ≤ _; omega)) (lv_sub hl [0, 1, 2, 3, 4] rfl)
  · exact absurd rfl c1
set_option maxRecDepth 100000 in
set_option maxHeartbeats 4000000 in
theorem lc_epoch {p : Program} {l : Launch} {e : Env} {s : State} {m : MethodId} {below : List Frame} {meth : Method} {c : Code} {b L : Nat} {xs : Nat → Int32} {Q : State → Prop} {G : GG} {A : Nat → Prop} {ad : Lb → Nat} {dm : Lb → Prop} {ct : Lb → va_E} {S : SG} {H : Heap} {locs : List Loc} {cells slots i a0 a1 a2 : Nat} {ls : Array Slot}
    (F : Fx p m c cL_law 7 s #[.ref b] RL) (hst : l.stackTraces = false) (hE : VE G A s) (hXs : va_X b L xs s s.heap) (hbl : b < s.heap.size) (hbA : ¬ A b) (hi9 : 3 * i + 3 ≤ L) (hL9 : L ≤ 1536) (hW : wd G A (ad, dm, ct) H) (hS : va_S A s.heap H locs) (hJ : JN G a0 a1 a2 ad dm ct S i cells slots) (hl : lv_has ls 7 [(4, .int (nI (3 * i))), (3, .ref a2), (2, .ref a1), (1, .ref a0), (0, .ref b)])
    (kk : ∀ (ad2 : Lb → Nat) (dm2 : Lb → Prop) (ct2 : Lb → va_E) (S2 : SG) (H2 : Heap) (locs2 : List Loc) (ls2 : Array Slot) (cells2 slots2 : Nat), wd G A (ad2, dm2, ct2) H2 → va_S A s.heap H2 locs2 → JN G a0 a1 a2 ad2 dm2 ct2 S2 (i + 1) cells2 slots2 → lv_has ls2 7 [(4, .int (nI (3 * i))), (3, .ref a2), (2, .ref a1), (1, .ref a0), (0, .ref b)] → W p l e room_1 s m #[.ref b] below meth c H2 locs2 cells2 slots2 Q (F0 m 1189 ls2 [])) :
    W p l e room_1 s m #[.ref b] below meth c H locs cells slots Q (F0 m 510 ls []) := by
  have hx := F.1
  have hb := F.2.1
  obtain ⟨hcb, hsb⟩ := hJ.room
  have hJ0 := hJ
  obtain ⟨hK, ⟨th0, fo0, hM⟩, hI, ⟨ha0, ha1, ha2⟩, ⟨hO1, fO, hO2⟩, h7, -, -⟩ := hJ
  have ht9 : i < 512 := by omega
  have hIu := inv_up hI ht9
  obtain ⟨lv, lev, lo, hi, ri, sz, ky, vl, go, rt, ep, wq, wn, cn, op, cl, ca, ce, kc, nb⟩ := S
  have hH : HKF G ad dm ct lv lev lo hi ri sz ky vl go rt ep wq wn cn op cl ca ce kc nb := hK
  have hMf : MDF G ad dm ct lv lev lo hi ri sz ky vl go rt ep wq wn cn op cl ca ce kc nb th0 fo0 := hM
  have hIf : InvF lv lev lo hi ri sz ky vl go rt ep wq wn cn op cl ca ce kc nb 800 i := hI
  have hP := hIf.1
  have hnb : nb ≤ 513 := by have := hIf.2.2.2.2; omega
  have hcn9 := hIf.2.2.1.1
  refine lv_aload_n hx hb dL_law_510 rfl (lv_at hl 3 rfl) ?_
  refine kc_Va 0 (c_X2_epoch l G A ad dm ct lv lev lo hi ri sz ky vl go rt ep wq wn cn op cl ca ce kc nb hH ) F hE hW hS (0, 0) hH.1.1 hH.2.1 ha0 rfl [] rfl kw_304 kw_305 kw_306 kw_1 kw_307 (by decide +kernel) rfl ⟨rfl, rfl⟩ ⟨Nat.le_of_ble_eq_true rfl, Nat.le_of_ble_eq_true rfl⟩ hl.1 rfl (Nat.le_of_ble_eq_true rfl) dL_law_511 ⟨by show cells + 0 ≤ 601024; omega, by show slots + 0 ≤ 7293034; omega⟩ (fun _ _ _ _ _ h => h.elim) (fun v w' H locs hp hW hS => ?_)
  obtain ⟨rfl, rfl⟩ := hp
  have hF : FH ad dm ct ad dm ct := FH.rf
  have hK2 := hK
  have hM9 : MDF G ad dm ct lv lev lo hi ri sz ky vl go rt ep wq wn cn op cl ca ce kc nb th0 fo0 := md_pass hM hF (fun _ _ => rfl)
  have hb1 : ad (10, 0) = a1 := (hF.1 (10, 0) (by decide)).1.trans ha1
  refine lv_aload_n hx hb dL_law_514 rfl (lv_at hl 2 rfl) ?_
  refine kc_Va 0 (c_X3_epoch l G A ad dm ct lv lev lo hi ri sz ky vl go rt ep wq wn cn op cl ca ce kc nb th0 fo0 hM9 ) F hE hW hS (10, 0) (hM9.1 0 (by decide)) hM9.2.1 hb1 rfl [] rfl kw_770 kw_771 kw_772 kw_6 kw_773 (by decide +kernel) rfl ⟨rfl, rfl⟩ ⟨Nat.le_of_ble_eq_true rfl, Nat.le_of_ble_eq_true rfl⟩ hl.1 rfl (Nat.le_of_ble_eq_true rfl) dL_law_515 ⟨by show cells + 0 + 0 ≤ 601024; omega, by show slots + 0 + 0 ≤ 7293034; omega⟩ (fun _ _ _ _ _ h => h.elim) (fun v w' H locs hp hW hS => ?_)
  obtain ⟨ct3, rfl, hM3, hXM, rfl⟩ := hp
  refine lv_icmp_eq (tgt := 1189) hx hb dL_law_518 (by decide) (fun c1 => ?_) (fun c1 => ?_)
  · exact kk _ _ _ _ _ _ _ _ _ hW hS (jn_mk (0) hJ0 hF hK2 ((hF.1 (20, 0) (by decide)).2.1.trans hO2) (fun _ _ => rfl) hXM hM3 hIu (Nat.le_refl _) (by show cells + 0 + 0 ≤ _; omega) (by show slots + 0 + 0 ≤ _; omega)) (lv_sub hl [0, 1, 2, 3, 4] rfl)
  · exact absurd rfl c1
set_option maxRecDepth 100000 in
set_option maxHeartbeats 4000000 in
theorem lc_pages {p : Program} {l : Launch} {e : Env} {s : State} {m : MethodId} {below : List Frame} {meth : Method} {c : Code} {b L : Nat} {xs : Nat → Int32} {Q : State → Prop} {G : GG} {A : Nat → Prop} {ad : Lb → Nat} {dm : Lb → Prop} {ct : Lb → va_E} {S : SG} {H : Heap} {locs : List Loc} {cells slots i a0 a1 a2 : Nat} {ls : Array Slot}
    (F : Fx p m c cL_law 7 s #[.ref b] RL) (hst : l.stackTraces = false) (hE : VE G A s) (hXs : va_X b L xs s s.heap) (hbl : b < s.heap.size) (hbA : ¬ A b) (hi9 : 3 * i + 3 ≤ L) (hL9 : L ≤ 1536) (hW : wd G A (ad, dm, ct) H) (hS : va_S A s.heap H locs) (hJ : JN G a0 a1 a2 ad dm ct S i cells slots) (hl : lv_has ls 7 [(4, .int (nI (3 * i))), (3, .ref a2), (2, .ref a1), (1, .ref a0), (0, .ref b)])
    (kk : ∀ (ad2 : Lb → Nat) (dm2 : Lb → Prop) (ct2 : Lb → va_E) (S2 : SG) (H2 : Heap) (locs2 : List Loc) (ls2 : Array Slot) (cells2 slots2 : Nat), wd G A (ad2, dm2, ct2) H2 → va_S A s.heap H2 locs2 → JN G a0 a1 a2 ad2 dm2 ct2 S2 (i + 1) cells2 slots2 → lv_has ls2 7 [(4, .int (nI (3 * i))), (3, .ref a2), (2, .ref a1), (1, .ref a0), (0, .ref b)] → W p l e room_1 s m #[.ref b] below meth c H2 locs2 cells2 slots2 Q (F0 m 1189 ls2 [])) :
    W p l e room_1 s m #[.ref b] below meth c H locs cells slots Q (F0 m 523 ls []) := by
  have hx := F.1
  have hb := F.2.1
  obtain ⟨hcb, hsb⟩ := hJ.room
  have hJ0 := hJ
  obtain ⟨hK, ⟨th0, fo0, hM⟩, hI, ⟨ha0, ha1, ha2⟩, ⟨hO1, fO, hO2⟩, h7, -, -⟩ := hJ
  have ht9 : i < 512 := by omega
  have hIu := inv_up hI ht9
  obtain ⟨lv, lev, lo, hi, ri, sz, ky, vl, go, rt, ep, wq, wn, cn, op, cl, ca, ce, kc, nb⟩ := S
  have hH : HKF G ad dm ct lv lev lo hi ri sz ky vl go rt ep wq wn cn op cl ca ce kc nb := hK
  have hMf : MDF G ad dm ct lv lev lo hi ri sz ky vl go rt ep wq wn cn op cl ca ce kc nb th0 fo0 := hM
  have hIf : InvF lv lev lo hi ri sz ky vl go rt ep wq wn cn op cl ca ce kc nb 800 i := hI
  have hP := hIf.1
  have hnb : nb ≤ 513 := by have := hIf.2.2.2.2; omega
  have hcn9 := hIf.2.2.1.1
  refine lv_aload_n hx hb dL_law_523 rfl (lv_at hl 3 rfl) ?_
  refine kc_Va 0 (c_X2_pages l G A ad dm ct lv lev lo hi ri sz ky vl go rt ep wq wn cn op cl ca ce kc nb hH i hIf) F hE hW hS (0, 0) hH.1.1 hH.2.1 ha0 rfl [] rfl kw_308 kw_309 kw_310 kw_1 kw_311 (by decide +kernel) rfl ⟨rfl, rfl⟩ ⟨Nat.le_of_ble_eq_true rfl, Nat.le_of_ble_eq_true rfl⟩ hl.1 rfl (Nat.le_of_ble_eq_true rfl) dL_law_524 ⟨by show cells + 0 ≤ 601024; omega, by show slots + 0 ≤ 7293034; omega⟩ (fun _ _ _ _ _ h => h.elim) (fun v w' H locs hp hW hS => ?_)
  obtain ⟨rfl, rfl⟩ := hp
  have hF : FH ad dm ct ad dm ct := FH.rf
  have hK2 := hK
  have hM9 : MDF G ad dm ct lv lev lo hi ri sz ky vl go rt ep wq wn cn op cl ca ce kc nb th0 fo0 := md_pass hM hF (fun _ _ => rfl)
  have hb1 : ad (10, 0) = a1 := (hF.1 (10, 0) (by decide)).1.trans ha1
  refine lv_aload_n hx hb dL_law_527 rfl (lv_at hl 2 rfl) ?_
  refine kc_Va 0 (c_X3_pages l G A ad dm ct lv lev lo hi ri sz ky vl go rt ep wq wn cn op cl ca ce kc nb th0 fo0 hM9 i hIf) F hE hW hS (10, 0) (hM9.1 0 (by decide)) hM9.2.1 hb1 rfl [] rfl kw_774 kw_775 kw_776 kw_6 kw_777 (by decide +kernel) rfl ⟨rfl, rfl⟩ ⟨Nat.le_of_ble_eq_true rfl, Nat.le_of_ble_eq_true rfl⟩ hl.1 rfl (Nat.le_of_ble_eq_true rfl) dL_law_528 ⟨by show cells + 0 + 0 ≤ 601024; omega, by show slots + 0 + 0 ≤ 7293034; omega⟩ (fun _ _ _ _ _ h => h.elim) (fun v w' H locs hp hW hS => ?_)
  obtain ⟨ct3, rfl, hM3, hXM, rfl⟩ := hp
  refine lv_icmp_eq (tgt := 1189) hx hb dL_law_531 (by decide) (fun c1 => ?_) (fun c1 => ?_)
  · exact kk _ _ _ _ _ _ _ _ _ hW hS (jn_mk (0) hJ0 hF hK2 ((hF.1 (20, 0) (by decide)).2.1.trans hO2) (fun _ _ => rfl) hXM hM3 hIu (Nat.le_refl _) (by show cells + 0 + 0 ≤ _; omega) (by show slots + 0 + 0 ≤ _; omega)) (lv_sub hl [0, 1, 2, 3, 4] rfl)
  · exact absurd rfl c1
set_option maxRecDepth 100000 in
set_option maxHeartbeats 4000000 in
theorem lc_root {p : Program} {l : Launch} {e : Env} {s : State} {m : MethodId} {below : List Frame} {meth : Method} {c : Code} {b L : Nat} {xs : Nat → Int32} {Q : State → Prop} {G : GG} {A : Nat → Prop} {ad : Lb → Nat} {dm : Lb → Prop} {ct : Lb → va_E} {S : SG} {H : Heap} {locs : List Loc} {cells slots i a0 a1 a2 : Nat} {ls : Array Slot}
    (F : Fx p m c cL_law 7 s #[.ref b] RL) (hst : l.stackTraces = false) (hE : VE G A s) (hXs : va_X b L xs s s.heap) (hbl : b < s.heap.size) (hbA : ¬ A b) (hi9 : 3 * i + 3 ≤ L) (hL9 : L ≤ 1536) (hW : wd G A (ad, dm, ct) H) (hS : va_S A s.heap H locs) (hJ : JN G a0 a1 a2 ad dm ct S i cells slots) (hl : lv_has ls 7 [(4, .int (nI (3 * i))), (3, .ref a2), (2, .ref a1), (1, .ref a0), (0, .ref b)])
    (kk : ∀ (ad2 : Lb → Nat) (dm2 : Lb → Prop) (ct2 : Lb → va_E) (S2 : SG) (H2 : Heap) (locs2 : List Loc) (ls2 : Array Slot) (cells2 slots2 : Nat), wd G A (ad2, dm2, ct2) H2 → va_S A s.heap H2 locs2 → JN G a0 a1 a2 ad2 dm2 ct2 S2 (i + 1) cells2 slots2 → lv_has ls2 7 [(4, .int (nI (3 * i))), (3, .ref a2), (2, .ref a1), (1, .ref a0), (0, .ref b)] → W p l e room_1 s m #[.ref b] below meth c H2 locs2 cells2 slots2 Q (F0 m 1189 ls2 [])) :
    W p l e room_1 s m #[.ref b] below meth c H locs cells slots Q (F0 m 536 ls []) := by
  have hx := F.1
  have hb := F.2.1
  obtain ⟨hcb, hsb⟩ := hJ.room
  have hJ0 := hJ
  obtain ⟨hK, ⟨th0, fo0, hM⟩, hI, ⟨ha0, ha1, ha2⟩, ⟨hO1, fO, hO2⟩, h7, -, -⟩ := hJ
  have ht9 : i < 512 := by omega
  have hIu := inv_up hI ht9
  obtain ⟨lv, lev, lo, hi, ri, sz, ky, vl, go, rt, ep, wq, wn, cn, op, cl, ca, ce, kc, nb⟩ := S
  have hH : HKF G ad dm ct lv lev lo hi ri sz ky vl go rt ep wq wn cn op cl ca ce kc nb := hK
  have hMf : MDF G ad dm ct lv lev lo hi ri sz ky vl go rt ep wq wn cn op cl ca ce kc nb th0 fo0 := hM
  have hIf : InvF lv lev lo hi ri sz ky vl go rt ep wq wn cn op cl ca ce kc nb 800 i := hI
  have hP := hIf.1
  have hnb : nb ≤ 513 := by have := hIf.2.2.2.2; omega
  have hcn9 := hIf.2.2.1.1
  refine lv_aload_n hx hb dL_law_536 rfl (lv_at hl 3 rfl) ?_
  refine kc_Va 0 (c_X2_root l G A ad dm ct lv lev lo hi ri sz ky vl go rt ep wq wn cn op cl ca ce kc nb hH hP.2.2.2.2.2.2.2.1.1.1) F hE hW hS (0, 0) hH.1.1 hH.2.1 ha0 rfl [] rfl kw_312 kw_313 kw_314 kw_1 kw_315 (by decide +kernel) rfl ⟨rfl, rfl⟩ ⟨Nat.le_of_ble_eq_true rfl, Nat.le_of_ble_eq_true rfl⟩ hl.1 rfl (Nat.le_of_ble_eq_true rfl) dL_law_537 ⟨by show cells + 0 ≤ 601024; omega, by show slots + 0 ≤ 7293034; omega⟩ (fun _ _ _ _ _ h => h.elim) (fun v w' H locs hp hW hS => ?_)
  obtain ⟨rfl, rfl⟩ := hp
  have hF : FH ad dm ct ad dm ct := FH.rf
  have hK2 := hK
  have hM9 : MDF G ad dm ct lv lev lo hi ri sz ky vl go rt ep wq wn cn op cl ca ce kc nb th0 fo0 := md_pass hM hF (fun _ _ => rfl)
  have hb1 : ad (10, 0) = a1 := (hF.1 (10, 0) (by decide)).1.trans ha1
  refine lv_aload_n hx hb dL_law_540 rfl (lv_at hl 2 rfl) ?_
  refine kc_Va 0 (c_X3_root l G A ad dm ct lv lev lo hi ri sz ky vl go rt ep wq wn cn op cl ca ce kc nb th0 fo0 hM9 ) F hE hW hS (10, 0) (hM9.1 0 (by decide)) hM9.2.1 hb1 rfl [] rfl kw_778 kw_779 kw_780 kw_6 kw_781 (by decide +kernel) rfl ⟨rfl, rfl⟩ ⟨Nat.le_of_ble_eq_true rfl, Nat.le_of_ble_eq_true rfl⟩ hl.1 rfl (Nat.le_of_ble_eq_true rfl) dL_law_541 ⟨by show cells + 0 + 0 ≤ 601024; omega, by show slots + 0 + 0 ≤ 7293034; omega⟩ (fun _ _ _ _ _ h => h.elim) (fun v w' H locs hp hW hS => ?_)
  obtain ⟨ct3, rfl, hM3, hXM, rfl⟩ := hp
  refine lv_icmp_eq (tgt := 1189) hx hb dL_law_544 (by decide) (fun c1 => ?_) (fun c1 => ?_)
  · exact kk _ _ _ _ _ _ _ _ _ hW hS (jn_mk (0) hJ0 hF hK2 ((hF.1 (20, 0) (by decide)).2.1.trans hO2) (fun _ _ => rfl) hXM hM3 hIu (Nat.le_refl _) (by show cells + 0 + 0 ≤ _; omega) (by show slots + 0 + 0 ≤ _; omega)) (lv_sub hl [0, 1, 2, 3, 4] rfl)
  · exact absurd rfl c1
set_option maxRecDepth 100000 in
set_option maxHeartbeats 4000000 in
theorem lc_other {p : Program} {l : Launch} {e : Env} {s : State} {m : MethodId} {below : List Frame} {meth : Method} {c : Code} {b L : Nat} {xs : Nat → Int32} {Q : State → Prop} {G : GG} {A : Nat → Prop} {ad : Lb → Nat} {dm : Lb → Prop} {ct : Lb → va_E} {S : SG} {H : Heap} {locs : List Loc} {cells slots i a0 a1 a2 : Nat} {ls : Array Slot}
    (F : Fx p m c cL_law 7 s #[.ref b] RL) (hst : l.stackTraces = false) (hE : VE G A s) (hXs : va_X b L xs s s.heap) (hbl : b < s.heap.size) (hbA : ¬ A b) (hi9 : 3 * i + 3 ≤ L) (hL9 : L ≤ 1536) (hW : wd G A (ad, dm, ct) H) (hS : va_S A s.heap H locs) (hJ : JN G a0 a1 a2 ad dm ct S i cells slots) (hl : lv_has ls 7 [(4, .int (nI (3 * i))), (3, .ref a2), (2, .ref a1), (1, .ref a0), (0, .ref b)])
    (kk : ∀ (ad2 : Lb → Nat) (dm2 : Lb → Prop) (ct2 : Lb → va_E) (S2 : SG) (H2 : Heap) (locs2 : List Loc) (ls2 : Array Slot) (cells2 slots2 : Nat), wd G A (ad2, dm2, ct2) H2 → va_S A s.heap H2 locs2 → JN G a0 a1 a2 ad2 dm2 ct2 S2 (i + 1) cells2 slots2 → lv_has ls2 7 [(4, .int (nI (3 * i))), (3, .ref a2), (2, .ref a1), (1, .ref a0), (0, .ref b)] → W p l e room_1 s m #[.ref b] below meth c H2 locs2 cells2 slots2 Q (F0 m 1189 ls2 [])) :
    W p l e room_1 s m #[.ref b] below meth c H locs cells slots Q (F0 m 1189 ls []) := by
  have hx := F.1
  have hb := F.2.1
  obtain ⟨hcb, hsb⟩ := hJ.room
  have hJ0 := hJ
  obtain ⟨hK, ⟨th0, fo0, hM⟩, hI, ⟨ha0, ha1, ha2⟩, ⟨hO1, fO, hO2⟩, h7, -, -⟩ := hJ
  have ht9 : i < 512 := by omega
  have hIu := inv_up hI ht9
  obtain ⟨lv, lev, lo, hi, ri, sz, ky, vl, go, rt, ep, wq, wn, cn, op, cl, ca, ce, kc, nb⟩ := S
  have hH : HKF G ad dm ct lv lev lo hi ri sz ky vl go rt ep wq wn cn op cl ca ce kc nb := hK
  have hMf : MDF G ad dm ct lv lev lo hi ri sz ky vl go rt ep wq wn cn op cl ca ce kc nb th0 fo0 := hM
  have hIf : InvF lv lev lo hi ri sz ky vl go rt ep wq wn cn op cl ca ce kc nb 800 i := hI
  have hP := hIf.1
  have hnb : nb ≤ 513 := by have := hIf.2.2.2.2; omega
  have hcn9 := hIf.2.2.1.1
  exact kk _ _ _ _ _ _ _ _ _ hW hS (jn_mk 0 hJ0 FH.rf hK hO2 (fun _ _ => rfl) XM.rf hM hIu (Nat.le_refl _) (by omega) (by omega)) hl
