/-! The law's small methods: low, cell, level, does. -/
def lwF (s : SG) (a : Int32) : Int32 := match kN a 800 with
  | some j => if lvS s j = true then nI (levS s j) else -99999
  | none => -99999
theorem lwF_some {s : SG} {j : Nat} (h : lvS s j = true) (hj : j < 800) : lwF s (nI j) = nI (levS s j) := by
  unfold lwF
  rw [kN_some hj (by decide)]
  exact if_pos h
theorem lwF_none {s : SG} {a : Int32} (h : ∀ j, lvS s j = true → a ≠ nI j) : lwF s a = -99999 := by
  unfold lwF
  split
  · rename_i j hj
    exact if_neg (fun q => h j q (kN_at (by decide) hj).2)
  · rfl
theorem do0_y {s : SG} {k u : Nat} (hk : k < 200) (hu : u < 10000) : doF 0 s (nI k) (nI u) = ((putS s k u).1, oI (putS s k u).2) := by
  show (match kN (nI k) 200, kN (nI u) 10000 with
    | some k, some u => ((putS s k u).1, oI (putS s k u).2)
    | _, _ => (s, -99999)) = _
  rw [kN_some hk (by decide), kN_some hu (by decide)]
theorem do0_n {s : SG} {a b : Int32} (h : (∀ k, k < 200 → a ≠ nI k) ∨ ∀ u, u < 10000 → b ≠ nI u) : doF 0 s a b = (s, -99999) := by
  show (match kN a 200, kN b 10000 with
    | some k, some u => ((putS s k u).1, oI (putS s k u).2)
    | _, _ => (s, -99999)) = _
  rcases h with h | h
  · rw [kN_none h (by decide)]
  · rw [kN_none h (by decide)]
    cases kN a 200 <;> rfl
theorem do1_y {s : SG} {k : Nat} {b : Int32} (hk : k < 200) : doF 1 s (nI k) b = ((takS s k).1, oI (takS s k).2) := by
  show (match kN (nI k) 200 with
    | some k => ((takS s k).1, oI (takS s k).2)
    | none => (s, -99999)) = _
  rw [kN_some hk (by decide)]
theorem do1_n {s : SG} {a b : Int32} (h : ∀ k, k < 200 → a ≠ nI k) : doF 1 s a b = (s, -99999) := by
  show (match kN a 200 with
    | some k => ((takS s k).1, oI (takS s k).2)
    | none => (s, -99999)) = _
  rw [kN_none h (by decide)]
theorem do2_y {s : SG} {a b : Int32} (h : 0 < waits s) : doF 2 s a b = (posS s, nI (waits (posS s))) := if_pos h
theorem do2_n {s : SG} {a b : Int32} (h : waits s = 0) : doF 2 s a b = (s, -99999) := if_neg (by omega)
theorem do3_y {s : SG} {k : Nat} {b : Int32} (hk : k < 200) (hc : cnS s < 20) : doF 3 s (nI k) b = (opnS s k, nI (cnS s)) := by
  show (match kN (nI k) 200 with
    | some k => if cnS s < 20 then (opnS s k, nI (cnS s)) else (s, -99999)
    | none => (s, -99999)) = _
  rw [kN_some hk (by decide)]
  exact if_pos hc
theorem do3_n {s : SG} {a b : Int32} (h : (∀ k, k < 200 → a ≠ nI k) ∨ cnS s = 20) : doF 3 s a b = (s, -99999) := by
  show (match kN a 200 with
    | some k => if cnS s < 20 then (opnS s k, nI (cnS s)) else (s, -99999)
    | none => (s, -99999)) = _
  rcases h with h | h
  · rw [kN_none h (by decide)]
  · split
    · exact if_neg (by omega)
    · rfl
theorem do4_y {s : SG} {k : Nat} {b : Int32} (h2 : cnS s ≤ 20) (hk : k < cnS s) (ho : opB s k = true) : doF 4 s (nI k) b = ((nxtS s k).1, oI (nxtS s k).2) := by
  show (match kN (nI k) 20 with
    | some k => if k < cnS s ∧ opB s k = true then ((nxtS s k).1, oI (nxtS s k).2) else (s, -99999)
    | none => (s, -99999)) = _
  rw [kN_some (Nat.lt_of_lt_of_le hk h2) (by decide)]
  exact if_pos ⟨hk, ho⟩
theorem do4_n {s : SG} {a b : Int32} (h : ∀ j, j < cnS s → opB s j = true → a ≠ nI j) : doF 4 s a b = (s, -99999) := by
  show (match kN a 20 with
    | some k => if k < cnS s ∧ opB s k = true then ((nxtS s k).1, oI (nxtS s k).2) else (s, -99999)
    | none => (s, -99999)) = _
  split
  · rename_i k hk
    exact if_neg (fun q => h k q.1 q.2 (kN_at (by decide) hk).2)
  · rfl
theorem do5_y {s : SG} {k : Nat} {b : Int32} (h2 : cnS s ≤ 20) (hk : k < cnS s) (ho : opB s k = true) : doF 5 s (nI k) b = (cloS s k, nI (cntB (cnS s) (va_up (opB s) k false))) := by
  show (match kN (nI k) 20 with
    | some k => if k < cnS s ∧ opB s k = true then (cloS s k, nI (cntB (cnS s) (va_up (opB s) k false))) else (s, -99999)
    | none => (s, -99999)) = _
  rw [kN_some (Nat.lt_of_lt_of_le hk h2) (by decide)]
  exact if_pos ⟨hk, ho⟩
theorem do5_n {s : SG} {a b : Int32} (h : ∀ j, j < cnS s → opB s j = true → a ≠ nI j) : doF 5 s a b = (s, -99999) := by
  show (match kN a 20 with
    | some k => if k < cnS s ∧ opB s k = true then (cloS s k, nI (cntB (cnS s) (va_up (opB s) k false))) else (s, -99999)
    | none => (s, -99999)) = _
  split
  · rename_i k hk
    exact if_neg (fun q => h k q.1 q.2 (kN_at (by decide) hk).2)
  · rfl
set_option maxRecDepth 100000 in
set_option maxHeartbeats 4000000 in
theorem c_L_low (l : Launch) (G : GG) (A : Nat → Prop) (ad : Lb → Nat) (dm : Lb → Prop) (ct : Lb → va_E) (v : Int32) (n : Nat) (h0 : 0 < n) (hn : n < 2 ^ 31) :
    CT l yL_low cL_low 2 (some FieldType.int) { frames := 0, cells := 0, slots := 0, locals := 0 } [.int v, .int (nI n)] G A (ad, dm, ct) (fun v9 w' => (ad, dm, ct) = w' ∧ v9 = some (.int (nI (lowN v n)))) (fun _ => False) (0) (0) := by
  refine ct_of (by decide) (Nat.le_of_ble_eq_true rfl) ?_
  intro p e s m below meth c ls F hr hlk hnm hex hE hW hl
  have hx := F.1
  have hb := F.2.1
  have hS : va_S A s.heap s.heap [] := va_S.rf
  have hl : lv_has ls 2 [(0, .int v), (1, .int (nI n))] := hl
  refine lv_iload_n hx hb dL_low_0 rfl (lv_at hl 0 rfl) ?_
  refine lv_ldc (v := (2147483647)) hx hb F.2.2.2.1 (F.2.2.2.2 _ kw_275) dL_low_1 ?_
  refine lv_iand hx hb dL_low_3 ?_
  refine ktop (y := nI (v.toBitVec.toNat % 2 ^ 31)) (pk_and v 31 (by decide)) ?_
  refine lv_iload_n hx hb dL_low_4 rfl (lv_at hl 1 rfl) ?_
  refine lv_irem hx hb dL_low_5 (nI_ne0 h0 hn) ?_
  refine ktop (y := nI (lowN v n)) (pk_rem (Nat.mod_lt _ (by decide)) h0 hn) ?_
  exact kr_i F hr hlk hE hW hS (Nat.le_of_ble_eq_true rfl) (Nat.le_of_ble_eq_true rfl) dL_low_6 (⟨rfl, rfl⟩)
set_option maxRecDepth 100000 in
set_option maxHeartbeats 4000000 in
theorem c_L_level (l : Launch) (G : GG) (A : Nat → Prop) (ad : Lb → Nat) (dm : Lb → Prop) (ct : Lb → va_E) (S : SG) (t0 : Nat) (hst : l.stackTraces = false) (hK : HK G ad dm ct S) (hI : Inv S t0) (x : Int32) :
    CTH l yL_level cL_level 3 (some .int) [(0, 5, 6, 34)] { frames := 8, cells := 1, slots := 6, locals := 143 } [.ref (ad (0, 0)), .int x] G A (ad, dm, ct) (fun v w' => (ad, dm, ct) = w' ∧ v = some (.int (lwF S x))) (1) (6) := by
  obtain ⟨lv, lev, lo, hi, ri, sz, ky, vl, go, rt, ep, wq, wn, cn, op, cl, ca, ce, kc, nb⟩ := S
  have hH : HKF G ad dm ct lv lev lo hi ri sz ky vl go rt ep wq wn cn op cl ca ce kc nb := hK
  have hI : InvF lv lev lo hi ri sz ky vl go rt ep wq wn cn op cl ca ce kc nb 800 t0 := hI
  refine cth_of (by decide) (Nat.le_of_ble_eq_true rfl) ?_
  intro p e s m below meth c ls F hr hlk hex hE hW hl
  have hx := F.1
  have hb := F.2.1
  have hS : va_S A s.heap s.heap [] := va_S.rf
  have hl : lv_has ls 3 [(0, .ref (ad (0, 0))), (1, .int x)] := hl
  refine lv_aload_n hx hb dL_level_0 rfl (lv_at hl 0 rfl) ?_
  refine lv_iload_n hx hb dL_level_1 rfl (lv_at hl 1 rfl) ?_
  refine kc_V 1 (c_X2_level l G A ad dm ct lv lev lo hi ri sz ky vl go rt ep wq wn cn op cl ca ce kc nb hst hH t0 hI x) F hE hW hS (0, 0) hH.1.1 hH.2.1 rfl [.int x] rfl kw_521 kw_522 kw_523 kw_1 kw_524 (by decide +kernel) rfl ⟨rfl, rfl⟩ ⟨Nat.le_of_ble_eq_true rfl, Nat.le_of_ble_eq_true rfl⟩ hl.1 rfl (Nat.le_of_ble_eq_true rfl) dL_level_2 ⟨Nat.le_of_ble_eq_true rfl, Nat.le_of_ble_eq_true rfl⟩ (fun E q9 ce9 H locs hpx9 hW hS hce hcv hcl => ?_) (fun v w1 H locs hp hW hS => ?_)
  · obtain ⟨rfl, hno⟩ := hpx9
    refine kr_c F hE [] ⟨0, 5, 6, 34⟩ [] (by rw [hex]; rfl) (fun z hz => by cases hz) (by decide) (by decide) kw_283 kn_442 hce hcv hcl ?_
    refine lv_astore_n (lv' := [(2, .ref q9), (0, .ref (ad (0, 0))), (1, .int x)]) hx hb dL_level_6 rfl hl (by decide) rfl (fun ls hl => ?_)
    refine lv_ldc (v := (-99999)) hx hb F.2.2.2.1 (F.2.2.2.2 _ kw_468) dL_level_7 ?_
    exact kr_i F hr hlk hE hW hS (Nat.le_of_ble_eq_true rfl) (Nat.le_of_ble_eq_true rfl) dL_level_9 ⟨rfl, congrArg (fun z => some (Value.int z)) (lwF_none (s := (lv, lev, lo, hi, ri, sz, ky, vl, go, rt, ep, wq, wn, cn, op, cl, ca, ce, kc, nb)) hno).symm⟩
  · obtain ⟨rfl, j, rfl, hv, rfl⟩ := hp
    have hj8 : j < 800 := by have := (hI.1.1 j hv).1; have := (inv_nb (s := (lv, lev, lo, hi, ri, sz, ky, vl, go, rt, ep, wq, wn, cn, op, cl, ca, ce, kc, nb)) hI).1; have e : nbS (lv, lev, lo, hi, ri, sz, ky, vl, go, rt, ep, wq, wn, cn, op, cl, ca, ce, kc, nb) = nb := rfl; omega
    exact kr_i F hr hlk hE hW hS (Nat.le_of_ble_eq_true rfl) (Nat.le_of_ble_eq_true rfl) dL_level_5 (⟨rfl, congrArg (fun z => some (Value.int z)) (lwF_some (s := (lv, lev, lo, hi, ri, sz, ky, vl, go, rt, ep, wq, wn, cn, op, cl, ca, ce, kc, nb)) hv hj8).symm⟩)
set_option maxRecDepth 100000 in
set_option maxHeartbeats 4000000 in
theorem c_L_does0 (l : Launch) (G : GG) (A : Nat → Prop) (ad : Lb → Nat) (dm : Lb → Prop) (ct : Lb → va_E) (S : SG) (t0 : Nat) (hst : l.stackTraces = false) (hK : HK G ad dm ct S) (hI : Inv S t0) (hd7 : ¬ dm (7, 0)) (x y : Int32) :
    CTH l yL_does cL_does 5 (some .int) [(0, 69, 70, 31), (0, 69, 75, 34), (0, 69, 80, 36)] { frames := 12, cells := 7, slots := 838, locals := 238 } [.ref (ad (0, 0)), .int (nI 0), .int x, .int y] G A (ad, dm, ct) (fun v w' => ∃ ad' dm' ct', w' = (ad', dm', ct') ∧ FH ad dm ct ad' dm' ct' ∧ HK G ad' dm' ct' (doF 0 S x y).1 ∧ v = some (.int (doF 0 S x y).2)) (7) (838) := by
  obtain ⟨lv, lev, lo, hi, ri, sz, ky, vl, go, rt, ep, wq, wn, cn, op, cl, ca, ce, kc, nb⟩ := S
  have hH : HKF G ad dm ct lv lev lo hi ri sz ky vl go rt ep wq wn cn op cl ca ce kc nb := hK
  have hI0 := hI
  have hI : InvF lv lev lo hi ri sz ky vl go rt ep wq wn cn op cl ca ce kc nb 800 t0 := hI
  refine cth_of (by decide) (Nat.le_of_ble_eq_true rfl) ?_
  intro p e s m below meth c ls F hr hlk hex hE hW hl
  have hx := F.1
  have hb := F.2.1
  have hS : va_S A s.heap s.heap [] := va_S.rf
  have hl : lv_has ls 5 [(0, .ref (ad (0, 0))), (1, .int (nI 0)), (2, .int x), (3, .int y)] := hl
  refine lv_iload_n hx hb dL_does_0 rfl (lv_at hl 1 rfl) ?_
  refine nz_ne (tgt := 13) hx hb dL_does_1 (by decide) (by decide) (fun c9 => ?_) (fun c9 => ?_)
  · exact absurd c9 (by decide)
  · refine lv_aload_n hx hb dL_does_4 rfl (lv_at hl 0 rfl) ?_
    refine lv_iload_n hx hb dL_does_5 rfl (lv_at hl 2 rfl) ?_
    refine lv_iload_n hx hb dL_does_6 rfl (lv_at hl 3 rfl) ?_
    refine kc_V 2 (c_X2_put l G A ad dm ct lv lev lo hi ri sz ky vl go rt ep wq wn cn op cl ca ce kc nb hst hH t0 hI x y) F hE hW hS (0, 0) hH.1.1 hH.2.1 rfl [.int x, .int y] rfl kw_285 kw_286 kw_287 kw_1 kw_288 (by decide +kernel) rfl ⟨rfl, rfl⟩ ⟨Nat.le_of_ble_eq_true rfl, Nat.le_of_ble_eq_true rfl⟩ hl.1 rfl (Nat.le_of_ble_eq_true rfl) dL_does_7 ⟨Nat.le_of_ble_eq_true rfl, Nat.le_of_ble_eq_true rfl⟩ (fun E q9 ce9 H locs hpx9 hW hS hce hcv hcl => ?_) (fun v w1 H locs hp hW hS => ?_)
    · obtain ⟨rfl, hno⟩ := hpx9
      refine kr_c F hE [] ⟨0, 69, 70, 31⟩ [⟨0, 69, 75, 34⟩, ⟨0, 69, 80, 36⟩] (by rw [hex]; rfl) (fun z hz => by cases hz) (by decide) (by decide) kw_282 kn_294 hce hcv hcl ?_
      refine lv_astore (lv' := [(4, .ref q9), (0, .ref (ad (0, 0))), (1, .int (nI 0)), (2, .int x), (3, .int y)]) hx hb dL_does_70 hl (by decide) rfl (fun ls hl => ?_)
      refine lv_ldc (v := (-99999)) hx hb F.2.2.2.1 (F.2.2.2.2 _ kw_468) dL_does_72 ?_
      exact kr_i F hr hlk hE hW hS (Nat.le_of_ble_eq_true rfl) (Nat.le_of_ble_eq_true rfl) dL_does_74 ⟨ad, dm, ct, rfl, FH.rf, by rw [do0_n hno]; exact hK, (congrArg (fun q : SG × Int32 => some (Value.int q.2)) (do0_n hno)).symm⟩
    · obtain ⟨ad2, dm2, ct2, rfl, hF2, k9, hk9, rfl, u9, hu9, rfl, hK2, rfl⟩ := hp
      refine lv_goto (tgt := 69) hx hb dL_does_10 (by decide) ?_
      exact kr_i F hr hlk hE hW hS (Nat.le_of_ble_eq_true rfl) (Nat.le_of_ble_eq_true rfl) dL_does_69 ⟨_, _, _, rfl, hF2, by rw [do0_y hk9 hu9]; exact hK2, (congrArg (fun q : SG × Int32 => some (Value.int q.2)) (do0_y hk9 hu9)).symm⟩
set_option maxRecDepth 100000 in
set_option maxHeartbeats 4000000 in
theorem c_L_does1 (l : Launch) (G : GG) (A : Nat → Prop) (ad : Lb → Nat) (dm : Lb → Prop) (ct : Lb → va_E) (S : SG) (t0 : Nat) (hst : l.stackTraces = false) (hK : HK G ad dm ct S) (hI : Inv S t0) (hd7 : ¬ dm (7, 0)) (x y : Int32) :
    CTH l yL_does cL_does 5 (some .int) [(0, 69, 70, 31), (0, 69, 75, 34), (0, 69, 80, 36)] { frames := 12, cells := 7, slots := 838, locals := 238 } [.ref (ad (0, 0)), .int (nI 1), .int x, .int y] G A (ad, dm, ct) (fun v w' => ∃ ad' dm' ct', w' = (ad', dm', ct') ∧ FH ad dm ct ad' dm' ct' ∧ HK G ad' dm' ct' (doF 1 S x y).1 ∧ v = some (.int (doF 1 S x y).2)) (7) (838) := by
  obtain ⟨lv, lev, lo, hi, ri, sz, ky, vl, go, rt, ep, wq, wn, cn, op, cl, ca, ce, kc, nb⟩ := S
  have hH : HKF G ad dm ct lv lev lo hi ri sz ky vl go rt ep wq wn cn op cl ca ce kc nb := hK
  have hI0 := hI
  have hI : InvF lv lev lo hi ri sz ky vl go rt ep wq wn cn op cl ca ce kc nb 800 t0 := hI
  refine cth_of (by decide) (Nat.le_of_ble_eq_true rfl) ?_
  intro p e s m below meth c ls F hr hlk hex hE hW hl
  have hx := F.1
  have hb := F.2.1
  have hS : va_S A s.heap s.heap [] := va_S.rf
  have hl : lv_has ls 5 [(0, .ref (ad (0, 0))), (1, .int (nI 1)), (2, .int x), (3, .int y)] := hl
  refine lv_iload_n hx hb dL_does_0 rfl (lv_at hl 1 rfl) ?_
  refine nz_ne (tgt := 13) hx hb dL_does_1 (by decide) (by decide) (fun c9 => ?_) (fun c9 => ?_)
  · refine lv_iload_n hx hb dL_does_13 rfl (lv_at hl 1 rfl) ?_
    refine lv_iconst (v := nI 1) hx hb dL_does_14 (by decide) ?_
    refine nc_ne (tgt := 26) hx hb dL_does_15 (by decide) (by decide) (by omega) (fun c9 => ?_) (fun c9 => ?_)
    · exact absurd c9 (by decide)
    · refine lv_aload_n hx hb dL_does_18 rfl (lv_at hl 0 rfl) ?_
      refine lv_iload_n hx hb dL_does_19 rfl (lv_at hl 2 rfl) ?_
      refine kc_V 1 (c_X2_take l G A ad dm ct lv lev lo hi ri sz ky vl go rt ep wq wn cn op cl ca ce kc nb hst hH t0 hI x) F hE hW hS (0, 0) hH.1.1 hH.2.1 rfl [.int x] rfl kw_372 kw_373 kw_374 kw_1 kw_375 (by decide +kernel) rfl ⟨rfl, rfl⟩ ⟨Nat.le_of_ble_eq_true rfl, Nat.le_of_ble_eq_true rfl⟩ hl.1 rfl (Nat.le_of_ble_eq_true rfl) dL_does_20 ⟨Nat.le_of_ble_eq_true rfl, Nat.le_of_ble_eq_true rfl⟩ (fun E q9 ce9 H locs hpx9 hW hS hce hcv hcl => ?_) (fun v w1 H locs hp hW hS => ?_)
      · obtain ⟨rfl, hno⟩ := hpx9
        refine kr_c F hE [] ⟨0, 69, 70, 31⟩ [⟨0, 69, 75, 34⟩, ⟨0, 69, 80, 36⟩] (by rw [hex]; rfl) (fun z hz => by cases hz) (by decide) (by decide) kw_282 kn_294 hce hcv hcl ?_
        refine lv_astore (lv' := [(4, .ref q9), (0, .ref (ad (0, 0))), (1, .int (nI 1)), (2, .int x), (3, .int y)]) hx hb dL_does_70 hl (by decide) rfl (fun ls hl => ?_)
        refine lv_ldc (v := (-99999)) hx hb F.2.2.2.1 (F.2.2.2.2 _ kw_468) dL_does_72 ?_
        exact kr_i F hr hlk hE hW hS (Nat.le_of_ble_eq_true rfl) (Nat.le_of_ble_eq_true rfl) dL_does_74 ⟨ad, dm, ct, rfl, FH.rf, by rw [do1_n hno]; exact hK, (congrArg (fun q : SG × Int32 => some (Value.int q.2)) (do1_n hno)).symm⟩
      · obtain ⟨ad2, dm2, ct2, rfl, hF2, k9, hk9, rfl, hK2, rfl⟩ := hp
        refine lv_goto (tgt := 69) hx hb dL_does_23 (by decide) ?_
        exact kr_i F hr hlk hE hW hS (Nat.le_of_ble_eq_true rfl) (Nat.le_of_ble_eq_true rfl) dL_does_69 ⟨_, _, _, rfl, hF2, by rw [do1_y hk9]; exact hK2, (congrArg (fun q : SG × Int32 => some (Value.int q.2)) (do1_y hk9)).symm⟩
  · exact absurd c9 (by decide)
set_option maxRecDepth 100000 in
set_option maxHeartbeats 4000000 in
theorem c_L_does2 (l : Launch) (G : GG) (A : Nat → Prop) (ad : Lb → Nat) (dm : Lb → Prop) (ct : Lb → va_E) (S : SG) (t0 : Nat) (hst : l.stackTraces = false) (hK : HK G ad dm ct S) (hI : Inv S t0) (hd7 : ¬ dm (7, 0)) (x y : Int32) :
    CTH l yL_does cL_does 5 (some .int) [(0, 69, 70, 31), (0, 69, 75, 34), (0, 69, 80, 36)] { frames := 12, cells := 7, slots := 838, locals := 238 } [.ref (ad (0, 0)), .int (nI 2), .int x, .int y] G A (ad, dm, ct) (fun v w' => ∃ ad' dm' ct', w' = (ad', dm', ct') ∧ FH ad dm ct ad' dm' ct' ∧ HK G ad' dm' ct' (doF 2 S x y).1 ∧ v = some (.int (doF 2 S x y).2)) (7) (838) := by
  obtain ⟨lv, lev, lo, hi, ri, sz, ky, vl, go, rt, ep, wq, wn, cn, op, cl, ca, ce, kc, nb⟩ := S
  have hH : HKF G ad dm ct lv lev lo hi ri sz ky vl go rt ep wq wn cn op cl ca ce kc nb := hK
  have hI0 := hI
  have hI : InvF lv lev lo hi ri sz ky vl go rt ep wq wn cn op cl ca ce kc nb 800 t0 := hI
  refine cth_of (by decide) (Nat.le_of_ble_eq_true rfl) ?_
  intro p e s m below meth c ls F hr hlk hex hE hW hl
  have hx := F.1
  have hb := F.2.1
  have hS : va_S A s.heap s.heap [] := va_S.rf
  have hl : lv_has ls 5 [(0, .ref (ad (0, 0))), (1, .int (nI 2)), (2, .int x), (3, .int y)] := hl
  refine lv_iload_n hx hb dL_does_0 rfl (lv_at hl 1 rfl) ?_
  refine nz_ne (tgt := 13) hx hb dL_does_1 (by decide) (by decide) (fun c9 => ?_) (fun c9 => ?_)
  · refine lv_iload_n hx hb dL_does_13 rfl (lv_at hl 1 rfl) ?_
    refine lv_iconst (v := nI 1) hx hb dL_does_14 (by decide) ?_
    refine nc_ne (tgt := 26) hx hb dL_does_15 (by decide) (by decide) (by omega) (fun c9 => ?_) (fun c9 => ?_)
    · refine lv_iload_n hx hb dL_does_26 rfl (lv_at hl 1 rfl) ?_
      refine lv_iconst (v := nI 2) hx hb dL_does_27 (by decide) ?_
      refine nc_ne (tgt := 38) hx hb dL_does_28 (by decide) (by decide) (by omega) (fun c9 => ?_) (fun c9 => ?_)
      · exact absurd c9 (by decide)
      · refine lv_aload_n hx hb dL_does_31 rfl (lv_at hl 0 rfl) ?_
        refine kc_V 0 (c_X2_post l G A ad dm ct lv lev lo hi ri sz ky vl go rt ep wq wn cn op cl ca ce kc nb hst hH t0 hI) F hE hW hS (0, 0) hH.1.1 hH.2.1 rfl [] rfl kw_384 kw_385 kw_386 kw_1 kw_387 (by decide +kernel) rfl ⟨rfl, rfl⟩ ⟨Nat.le_of_ble_eq_true rfl, Nat.le_of_ble_eq_true rfl⟩ hl.1 rfl (Nat.le_of_ble_eq_true rfl) dL_does_32 ⟨Nat.le_of_ble_eq_true rfl, Nat.le_of_ble_eq_true rfl⟩ (fun E q9 ce9 H locs hpx9 hW hS hce hcv hcl => ?_) (fun v w1 H locs hp hW hS => ?_)
        · obtain ⟨rfl, hno⟩ := hpx9
          refine kr_c F hE [⟨0, 69, 70, 31⟩, ⟨0, 69, 75, 34⟩] ⟨0, 69, 80, 36⟩ [] (by rw [hex]; rfl) (fun z hz => Or.inr (by rcases List.mem_cons.mp hz with rfl | hz; exact ⟨by decide, "java/lang/IllegalArgumentException", F.2.2.2.2 _ kw_282, hE.2.1.2.2.2.2.2.1.1⟩; rcases List.mem_singleton.mp hz with rfl; exact ⟨by decide, "java/lang/IndexOutOfBoundsException", F.2.2.2.2 _ kw_283, hE.2.1.2.2.2.2.2.1.2.2⟩)) (by decide) (by decide) kw_284 kn_390 hce hcv hcl ?_
          refine lv_astore (lv' := [(4, .ref q9), (0, .ref (ad (0, 0))), (1, .int (nI 2)), (2, .int x), (3, .int y)]) hx hb dL_does_80 hl (by decide) rfl (fun ls hl => ?_)
          refine lv_ldc (v := (-99999)) hx hb F.2.2.2.1 (F.2.2.2.2 _ kw_468) dL_does_82 ?_
          exact kr_i F hr hlk hE hW hS (Nat.le_of_ble_eq_true rfl) (Nat.le_of_ble_eq_true rfl) dL_does_84 ⟨ad, dm, ct, rfl, FH.rf, by rw [do2_n (s := (lv, lev, lo, hi, ri, sz, ky, vl, go, rt, ep, wq, wn, cn, op, cl, ca, ce, kc, nb)) hno]; exact hK, (congrArg (fun q : SG × Int32 => some (Value.int q.2)) (do2_n (s := (lv, lev, lo, hi, ri, sz, ky, vl, go, rt, ep, wq, wn, cn, op, cl, ca, ce, kc, nb)) hno)).symm⟩
        · obtain ⟨ad2, dm2, ct2, rfl, hF2, hw9, hK2, rfl⟩ := hp
          refine lv_goto (tgt := 69) hx hb dL_does_35 (by decide) ?_
          exact kr_i F hr hlk hE hW hS (Nat.le_of_ble_eq_true rfl) (Nat.le_of_ble_eq_true rfl) dL_does_69 ⟨_, _, _, rfl, hF2, by rw [do2_y (s := (lv, lev, lo, hi, ri, sz, ky, vl, go, rt, ep, wq, wn, cn, op, cl, ca, ce, kc, nb)) hw9]; exact hK2, (congrArg (fun q : SG × Int32 => some (Value.int q.2)) (do2_y (s := (lv, lev, lo, hi, ri, sz, ky, vl, go, rt, ep, wq, wn, cn, op, cl, ca, ce, kc, nb)) hw9)).symm⟩
    · exact absurd c9 (by decide)
  · exact absurd c9 (by decide)
set_option maxRecDepth 100000 in
set_option maxHeartbeats 4000000 in
theorem c_L_does3 (l : Launch) (G : GG) (A : Nat → Prop) (ad : Lb → Nat) (dm : Lb → Prop) (ct : Lb → va_E) (S : SG) (t0 : Nat) (hst : l.stackTraces = false) (hK : HK G ad dm ct S) (hI : Inv S t0) (hd7 : ¬ dm (7, 0)) (x y : Int32) :
    CTH l yL_does cL_does 5 (some .int) [(0, 69, 70, 31), (0, 69, 75, 34), (0, 69, 80, 36)] { frames := 12, cells := 7, slots := 838, locals := 238 } [.ref (ad (0, 0)), .int (nI 3), .int x, .int y] G A (ad, dm, ct) (fun v w' => ∃ ad' dm' ct', w' = (ad', dm', ct') ∧ FH ad dm ct ad' dm' ct' ∧ HK G ad' dm' ct' (doF 3 S x y).1 ∧ v = some (.int (doF 3 S x y).2)) (7) (838) := by
  obtain ⟨lv, lev, lo, hi, ri, sz, ky, vl, go, rt, ep, wq, wn, cn, op, cl, ca, ce, kc, nb⟩ := S
  have hH : HKF G ad dm ct lv lev lo hi ri sz ky vl go rt ep wq wn cn op cl ca ce kc nb := hK
  have hI0 := hI
  have hI : InvF lv lev lo hi ri sz ky vl go rt ep wq wn cn op cl ca ce kc nb 800 t0 := hI
  refine cth_of (by decide) (Nat.le_of_ble_eq_true rfl) ?_
  intro p e s m below meth c ls F hr hlk hex hE hW hl
  have hx := F.1
  have hb := F.2.1
  have hS : va_S A s.heap s.heap [] := va_S.rf
  have hl : lv_has ls 5 [(0, .ref (ad (0, 0))), (1, .int (nI 3)), (2, .int x), (3, .int y)] := hl
  refine lv_iload_n hx hb dL_does_0 rfl (lv_at hl 1 rfl) ?_
  refine nz_ne (tgt := 13) hx hb dL_does_1 (by decide) (by decide) (fun c9 => ?_) (fun c9 => ?_)
  · refine lv_iload_n hx hb dL_does_13 rfl (lv_at hl 1 rfl) ?_
    refine lv_iconst (v := nI 1) hx hb dL_does_14 (by decide) ?_
    refine nc_ne (tgt := 26) hx hb dL_does_15 (by decide) (by decide) (by omega) (fun c9 => ?_) (fun c9 => ?_)
    · refine lv_iload_n hx hb dL_does_26 rfl (lv_at hl 1 rfl) ?_
      refine lv_iconst (v := nI 2) hx hb dL_does_27 (by decide) ?_
      refine nc_ne (tgt := 38) hx hb dL_does_28 (by decide) (by decide) (by omega) (fun c9 => ?_) (fun c9 => ?_)
      · refine lv_iload_n hx hb dL_does_38 rfl (lv_at hl 1 rfl) ?_
        refine lv_iconst (v := nI 3) hx hb dL_does_39 (by decide) ?_
        refine nc_ne (tgt := 51) hx hb dL_does_40 (by decide) (by decide) (by omega) (fun c9 => ?_) (fun c9 => ?_)
        · exact absurd c9 (by decide)
        · refine lv_aload_n hx hb dL_does_43 rfl (lv_at hl 0 rfl) ?_
          refine lv_iload_n hx hb dL_does_44 rfl (lv_at hl 2 rfl) ?_
          refine kc_V 1 (c_X2_open l G A ad dm ct lv lev lo hi ri sz ky vl go rt ep wq wn cn op cl ca ce kc nb hst hH t0 hI hd7 x) F hE hW hS (0, 0) hH.1.1 hH.2.1 rfl [.int x] rfl kw_408 kw_409 kw_410 kw_1 kw_411 (by decide +kernel) rfl ⟨rfl, rfl⟩ ⟨Nat.le_of_ble_eq_true rfl, Nat.le_of_ble_eq_true rfl⟩ hl.1 rfl (Nat.le_of_ble_eq_true rfl) dL_does_45 ⟨Nat.le_of_ble_eq_true rfl, Nat.le_of_ble_eq_true rfl⟩ (fun E q9 ce9 H locs hpx9 hW hS hce hcv hcl => ?_) (fun v w1 H locs hp hW hS => ?_)
          · rcases hpx9 with ⟨rfl, hno⟩ | ⟨rfl, -, hno⟩
            · refine kr_c F hE [] ⟨0, 69, 70, 31⟩ [⟨0, 69, 75, 34⟩, ⟨0, 69, 80, 36⟩] (by rw [hex]; rfl) (fun z hz => by cases hz) (by decide) (by decide) kw_282 kn_294 hce hcv hcl ?_
              refine lv_astore (lv' := [(4, .ref q9), (0, .ref (ad (0, 0))), (1, .int (nI 3)), (2, .int x), (3, .int y)]) hx hb dL_does_70 hl (by decide) rfl (fun ls hl => ?_)
              refine lv_ldc (v := (-99999)) hx hb F.2.2.2.1 (F.2.2.2.2 _ kw_468) dL_does_72 ?_
              exact kr_i F hr hlk hE hW hS (Nat.le_of_ble_eq_true rfl) (Nat.le_of_ble_eq_true rfl) dL_does_74 ⟨ad, dm, ct, rfl, FH.rf, by rw [do3_n (s := (lv, lev, lo, hi, ri, sz, ky, vl, go, rt, ep, wq, wn, cn, op, cl, ca, ce, kc, nb)) (Or.inl hno)]; exact hK, (congrArg (fun q : SG × Int32 => some (Value.int q.2)) (do3_n (s := (lv, lev, lo, hi, ri, sz, ky, vl, go, rt, ep, wq, wn, cn, op, cl, ca, ce, kc, nb)) (Or.inl hno))).symm⟩
            · refine kr_c F hE [⟨0, 69, 70, 31⟩, ⟨0, 69, 75, 34⟩] ⟨0, 69, 80, 36⟩ [] (by rw [hex]; rfl) (fun z hz => Or.inr (by rcases List.mem_cons.mp hz with rfl | hz; exact ⟨by decide, "java/lang/IllegalArgumentException", F.2.2.2.2 _ kw_282, hE.2.1.2.2.2.2.2.1.1⟩; rcases List.mem_singleton.mp hz with rfl; exact ⟨by decide, "java/lang/IndexOutOfBoundsException", F.2.2.2.2 _ kw_283, hE.2.1.2.2.2.2.2.1.2.2⟩)) (by decide) (by decide) kw_284 kn_390 hce hcv hcl ?_
              refine lv_astore (lv' := [(4, .ref q9), (0, .ref (ad (0, 0))), (1, .int (nI 3)), (2, .int x), (3, .int y)]) hx hb dL_does_80 hl (by decide) rfl (fun ls hl => ?_)
              refine lv_ldc (v := (-99999)) hx hb F.2.2.2.1 (F.2.2.2.2 _ kw_468) dL_does_82 ?_
              exact kr_i F hr hlk hE hW hS (Nat.le_of_ble_eq_true rfl) (Nat.le_of_ble_eq_true rfl) dL_does_84 ⟨ad, dm, ct, rfl, FH.rf, by rw [do3_n (s := (lv, lev, lo, hi, ri, sz, ky, vl, go, rt, ep, wq, wn, cn, op, cl, ca, ce, kc, nb)) (Or.inr hno)]; exact hK, (congrArg (fun q : SG × Int32 => some (Value.int q.2)) (do3_n (s := (lv, lev, lo, hi, ri, sz, ky, vl, go, rt, ep, wq, wn, cn, op, cl, ca, ce, kc, nb)) (Or.inr hno))).symm⟩
          · obtain ⟨ad2, dm2, ct2, rfl, hF2, k9, hk9, rfl, hc9, hK2, rfl⟩ := hp
            refine lv_goto (tgt := 69) hx hb dL_does_48 (by decide) ?_
            exact kr_i F hr hlk hE hW hS (Nat.le_of_ble_eq_true rfl) (Nat.le_of_ble_eq_true rfl) dL_does_69 ⟨_, _, _, rfl, hF2, by rw [do3_y (s := (lv, lev, lo, hi, ri, sz, ky, vl, go, rt, ep, wq, wn, cn, op, cl, ca, ce, kc, nb)) hk9 hc9]; exact hK2, (congrArg (fun q : SG × Int32 => some (Value.int q.2)) (do3_y (s := (lv, lev, lo, hi, ri, sz, ky, vl, go, rt, ep, wq, wn, cn, op, cl, ca, ce, kc, nb)) hk9 hc9)).symm⟩
      · exact absurd c9 (by decide)
    · exact absurd c9 (by decide)
  · exact absurd c9 (by decide)
set_option maxRecDepth 100000 in
set_option maxHeartbeats 4000000 in
theorem c_L_does4 (l : Launch) (G : GG) (A : Nat → Prop) (ad : Lb → Nat) (dm : Lb → Prop) (ct : Lb → va_E) (S : SG) (t0 : Nat) (hst : l.stackTraces = false) (hK : HK G ad dm ct S) (hI : Inv S t0) (hd7 : ¬ dm (7, 0)) (x y : Int32) :
    CTH l yL_does cL_does 5 (some .int) [(0, 69, 70, 31), (0, 69, 75, 34), (0, 69, 80, 36)] { frames := 12, cells := 7, slots := 838, locals := 238 } [.ref (ad (0, 0)), .int (nI 4), .int x, .int y] G A (ad, dm, ct) (fun v w' => ∃ ad' dm' ct', w' = (ad', dm', ct') ∧ FH ad dm ct ad' dm' ct' ∧ HK G ad' dm' ct' (doF 4 S x y).1 ∧ v = some (.int (doF 4 S x y).2)) (7) (838) := by
  obtain ⟨lv, lev, lo, hi, ri, sz, ky, vl, go, rt, ep, wq, wn, cn, op, cl, ca, ce, kc, nb⟩ := S
  have hH : HKF G ad dm ct lv lev lo hi ri sz ky vl go rt ep wq wn cn op cl ca ce kc nb := hK
  have hI0 := hI
  have hI : InvF lv lev lo hi ri sz ky vl go rt ep wq wn cn op cl ca ce kc nb 800 t0 := hI
  refine cth_of (by decide) (Nat.le_of_ble_eq_true rfl) ?_
  intro p e s m below meth c ls F hr hlk hex hE hW hl
  have hx := F.1
  have hb := F.2.1
  have hS : va_S A s.heap s.heap [] := va_S.rf
  have hl : lv_has ls 5 [(0, .ref (ad (0, 0))), (1, .int (nI 4)), (2, .int x), (3, .int y)] := hl
  refine lv_iload_n hx hb dL_does_0 rfl (lv_at hl 1 rfl) ?_
  refine nz_ne (tgt := 13) hx hb dL_does_1 (by decide) (by decide) (fun c9 => ?_) (fun c9 => ?_)
  · refine lv_iload_n hx hb dL_does_13 rfl (lv_at hl 1 rfl) ?_
    refine lv_iconst (v := nI 1) hx hb dL_does_14 (by decide) ?_
    refine nc_ne (tgt := 26) hx hb dL_does_15 (by decide) (by decide) (by omega) (fun c9 => ?_) (fun c9 => ?_)
    · refine lv_iload_n hx hb dL_does_26 rfl (lv_at hl 1 rfl) ?_
      refine lv_iconst (v := nI 2) hx hb dL_does_27 (by decide) ?_
      refine nc_ne (tgt := 38) hx hb dL_does_28 (by decide) (by decide) (by omega) (fun c9 => ?_) (fun c9 => ?_)
      · refine lv_iload_n hx hb dL_does_38 rfl (lv_at hl 1 rfl) ?_
        refine lv_iconst (v := nI 3) hx hb dL_does_39 (by decide) ?_
        refine nc_ne (tgt := 51) hx hb dL_does_40 (by decide) (by decide) (by omega) (fun c9 => ?_) (fun c9 => ?_)
        · refine lv_iload_n hx hb dL_does_51 rfl (lv_at hl 1 rfl) ?_
          refine lv_iconst (v := nI 4) hx hb dL_does_52 (by decide) ?_
          refine nc_ne (tgt := 64) hx hb dL_does_53 (by decide) (by decide) (by omega) (fun c9 => ?_) (fun c9 => ?_)
          · exact absurd c9 (by decide)
          · refine lv_aload_n hx hb dL_does_56 rfl (lv_at hl 0 rfl) ?_
            refine lv_iload_n hx hb dL_does_57 rfl (lv_at hl 2 rfl) ?_
            refine kc_V 1 (c_X2_next l G A ad dm ct lv lev lo hi ri sz ky vl go rt ep wq wn cn op cl ca ce kc nb hst hH t0 hI x) F hE hW hS (0, 0) hH.1.1 hH.2.1 rfl [.int x] rfl kw_432 kw_433 kw_434 kw_1 kw_435 (by decide +kernel) rfl ⟨rfl, rfl⟩ ⟨Nat.le_of_ble_eq_true rfl, Nat.le_of_ble_eq_true rfl⟩ hl.1 rfl (Nat.le_of_ble_eq_true rfl) dL_does_58 ⟨Nat.le_of_ble_eq_true rfl, Nat.le_of_ble_eq_true rfl⟩ (fun E q9 ce9 H locs hpx9 hW hS hce hcv hcl => ?_) (fun v w1 H locs hp hW hS => ?_)
            · obtain ⟨rfl, hno⟩ := hpx9
              refine kr_c F hE [⟨0, 69, 70, 31⟩] ⟨0, 69, 75, 34⟩ [⟨0, 69, 80, 36⟩] (by rw [hex]; rfl) (fun z hz => Or.inr (by rcases List.mem_singleton.mp hz with rfl; exact ⟨by decide, "java/lang/IllegalArgumentException", F.2.2.2.2 _ kw_282, hE.2.1.2.2.2.2.2.1.2.1⟩)) (by decide) (by decide) kw_283 kn_442 hce hcv hcl ?_
              refine lv_astore (lv' := [(4, .ref q9), (0, .ref (ad (0, 0))), (1, .int (nI 4)), (2, .int x), (3, .int y)]) hx hb dL_does_75 hl (by decide) rfl (fun ls hl => ?_)
              refine lv_ldc (v := (-99999)) hx hb F.2.2.2.1 (F.2.2.2.2 _ kw_468) dL_does_77 ?_
              exact kr_i F hr hlk hE hW hS (Nat.le_of_ble_eq_true rfl) (Nat.le_of_ble_eq_true rfl) dL_does_79 ⟨ad, dm, ct, rfl, FH.rf, by rw [do4_n (s := (lv, lev, lo, hi, ri, sz, ky, vl, go, rt, ep, wq, wn, cn, op, cl, ca, ce, kc, nb)) hno]; exact hK, (congrArg (fun q : SG × Int32 => some (Value.int q.2)) (do4_n (s := (lv, lev, lo, hi, ri, sz, ky, vl, go, rt, ep, wq, wn, cn, op, cl, ca, ce, kc, nb)) hno)).symm⟩
            · obtain ⟨ct2, rfl, hF2, k9, hk9, rfl, ho9, hK2, rfl⟩ := hp
              refine lv_goto (tgt := 69) hx hb dL_does_61 (by decide) ?_
              exact kr_i F hr hlk hE hW hS (Nat.le_of_ble_eq_true rfl) (Nat.le_of_ble_eq_true rfl) dL_does_69 ⟨_, _, _, rfl, hF2, by rw [do4_y (s := (lv, lev, lo, hi, ri, sz, ky, vl, go, rt, ep, wq, wn, cn, op, cl, ca, ce, kc, nb)) (cn_20 hI0) hk9 ho9]; exact hK2, (congrArg (fun q : SG × Int32 => some (Value.int q.2)) (do4_y (s := (lv, lev, lo, hi, ri, sz, ky, vl, go, rt, ep, wq, wn, cn, op, cl, ca, ce, kc, nb)) (cn_20 hI0) hk9 ho9)).symm⟩
        · exact absurd c9 (by decide)
      · exact absurd c9 (by decide)
    · exact absurd c9 (by decide)
  · exact absurd c9 (by decide)
set_option maxRecDepth 100000 in
set_option maxHeartbeats 4000000 in
theorem c_L_does5 (l : Launch) (G : GG) (A : Nat → Prop) (ad : Lb → Nat) (dm : Lb → Prop) (ct : Lb → va_E) (S : SG) (t0 : Nat) (hst : l.stackTraces = false) (hK : HK G ad dm ct S) (hI : Inv S t0) (hd7 : ¬ dm (7, 0)) (x y : Int32) :
    CTH l yL_does cL_does 5 (some .int) [(0, 69, 70, 31), (0, 69, 75, 34), (0, 69, 80, 36)] { frames := 12, cells := 7, slots := 838, locals := 238 } [.ref (ad (0, 0)), .int (nI 5), .int x, .int y] G A (ad, dm, ct) (fun v w' => ∃ ad' dm' ct', w' = (ad', dm', ct') ∧ FH ad dm ct ad' dm' ct' ∧ HK G ad' dm' ct' (doF 5 S x y).1 ∧ v = some (.int (doF 5 S x y).2)) (7) (838) := by
  obtain ⟨lv, lev, lo, hi, ri, sz, ky, vl, go, rt, ep, wq, wn, cn, op, cl, ca, ce, kc, nb⟩ := S
  have hH : HKF G ad dm ct lv lev lo hi ri sz ky vl go rt ep wq wn cn op cl ca ce kc nb := hK
  have hI0 := hI
  have hI : InvF lv lev lo hi ri sz ky vl go rt ep wq wn cn op cl ca ce kc nb 800 t0 := hI
  refine cth_of (by decide) (Nat.le_of_ble_eq_true rfl) ?_
  intro p e s m below meth c ls F hr hlk hex hE hW hl
  have hx := F.1
  have hb := F.2.1
  have hS : va_S A s.heap s.heap [] := va_S.rf
  have hl : lv_has ls 5 [(0, .ref (ad (0, 0))), (1, .int (nI 5)), (2, .int x), (3, .int y)] := hl
  refine lv_iload_n hx hb dL_does_0 rfl (lv_at hl 1 rfl) ?_
  refine nz_ne (tgt := 13) hx hb dL_does_1 (by decide) (by decide) (fun c9 => ?_) (fun c9 => ?_)
  · refine lv_iload_n hx hb dL_does_13 rfl (lv_at hl 1 rfl) ?_
    refine lv_iconst (v := nI 1) hx hb dL_does_14 (by decide) ?_
    refine nc_ne (tgt := 26) hx hb dL_does_15 (by decide) (by decide) (by omega) (fun c9 => ?_) (fun c9 => ?_)
    · refine lv_iload_n hx hb dL_does_26 rfl (lv_at hl 1 rfl) ?_
      refine lv_iconst (v := nI 2) hx hb dL_does_27 (by decide) ?_
      refine nc_ne (tgt := 38) hx hb dL_does_28 (by decide) (by decide) (by omega) (fun c9 => ?_) (fun c9 => ?_)
      · refine lv_iload_n hx hb dL_does_38 rfl (lv_at hl 1 rfl) ?_
        refine lv_iconst (v := nI 3) hx hb dL_does_39 (by decide) ?_
        refine nc_ne (tgt := 51) hx hb dL_does_40 (by decide) (by decide) (by omega) (fun c9 => ?_) (fun c9 => ?_)
        · refine lv_iload_n hx hb dL_does_51 rfl (lv_at hl 1 rfl) ?_
          refine lv_iconst (v := nI 4) hx hb dL_does_52 (by decide) ?_
          refine nc_ne (tgt := 64) hx hb dL_does_53 (by decide) (by decide) (by omega) (fun c9 => ?_) (fun c9 => ?_)
          · refine lv_aload_n hx hb dL_does_64 rfl (lv_at hl 0 rfl) ?_
            refine lv_iload_n hx hb dL_does_65 rfl (lv_at hl 2 rfl) ?_
            refine kc_V 1 (c_X2_close l G A ad dm ct lv lev lo hi ri sz ky vl go rt ep wq wn cn op cl ca ce kc nb hst hH t0 hI x) F hE hW hS (0, 0) hH.1.1 hH.2.1 rfl [.int x] rfl kw_464 kw_465 kw_466 kw_1 kw_467 (by decide +kernel) rfl ⟨rfl, rfl⟩ ⟨Nat.le_of_ble_eq_true rfl, Nat.le_of_ble_eq_true rfl⟩ hl.1 rfl (Nat.le_of_ble_eq_true rfl) dL_does_66 ⟨Nat.le_of_ble_eq_true rfl, Nat.le_of_ble_eq_true rfl⟩ (fun E q9 ce9 H locs hpx9 hW hS hce hcv hcl => ?_) (fun v w1 H locs hp hW hS => ?_)
            · obtain ⟨rfl, hno⟩ := hpx9
              refine kr_c F hE [⟨0, 69, 70, 31⟩] ⟨0, 69, 75, 34⟩ [⟨0, 69, 80, 36⟩] (by rw [hex]; rfl) (fun z hz => Or.inr (by rcases List.mem_singleton.mp hz with rfl; exact ⟨by decide, "java/lang/IllegalArgumentException", F.2.2.2.2 _ kw_282, hE.2.1.2.2.2.2.2.1.2.1⟩)) (by decide) (by decide) kw_283 kn_442 hce hcv hcl ?_
              refine lv_astore (lv' := [(4, .ref q9), (0, .ref (ad (0, 0))), (1, .int (nI 5)), (2, .int x), (3, .int y)]) hx hb dL_does_75 hl (by decide) rfl (fun ls hl => ?_)
              refine lv_ldc (v := (-99999)) hx hb F.2.2.2.1 (F.2.2.2.2 _ kw_468) dL_does_77 ?_
              exact kr_i F hr hlk hE hW hS (Nat.le_of_ble_eq_true rfl) (Nat.le_of_ble_eq_true rfl) dL_does_79 ⟨ad, dm, ct, rfl, FH.rf, by rw [do5_n (s := (lv, lev, lo, hi, ri, sz, ky, vl, go, rt, ep, wq, wn, cn, op, cl, ca, ce, kc, nb)) hno]; exact hK, (congrArg (fun q : SG × Int32 => some (Value.int q.2)) (do5_n (s := (lv, lev, lo, hi, ri, sz, ky, vl, go, rt, ep, wq, wn, cn, op, cl, ca, ce, kc, nb)) hno)).symm⟩
            · obtain ⟨ct2, rfl, hF2, k9, hk9, rfl, ho9, hK2, rfl⟩ := hp
              exact kr_i F hr hlk hE hW hS (Nat.le_of_ble_eq_true rfl) (Nat.le_of_ble_eq_true rfl) dL_does_69 ⟨_, _, _, rfl, hF2, by rw [do5_y (s := (lv, lev, lo, hi, ri, sz, ky, vl, go, rt, ep, wq, wn, cn, op, cl, ca, ce, kc, nb)) (cn_20 hI0) hk9 ho9]; exact hK2, (congrArg (fun q : SG × Int32 => some (Value.int q.2)) (do5_y (s := (lv, lev, lo, hi, ri, sz, ky, vl, go, rt, ep, wq, wn, cn, op, cl, ca, ce, kc, nb)) (cn_20 hI0) hk9 ho9)).symm⟩
          · exact absurd c9 (by decide)
        · exact absurd c9 (by decide)
      · exact absurd c9 (by decide)
    · exact absurd c9 (by decide)
  · exact absurd c9 (by decide)
