/-! The law: its loop; its start. -/
theorem and31 (x : Int32) : ∃ k, k < 32 ∧ x &&& nI 31 = nI k := by
  refine ⟨(x &&& nI 31).toBitVec.toNat, ?_, ?_⟩
  · rw [Int32.toBitVec_and, BitVec.toNat_and]
    exact Nat.lt_of_le_of_lt Nat.and_le_right (by decide)
  · rw [← Int32.toBitVec_inj]
    show _ = BitVec.ofNat 32 _
    rw [BitVec.ofNat_toNat, BitVec.setWidth_eq]
set_option maxRecDepth 100000 in
set_option maxHeartbeats 4000000 in
theorem law_loop {p : Program} {l : Launch} {e : Env} {s : State} {m : MethodId} {below : List Frame} {meth : Method} {c : Code} {b L : Nat} {xs : Nat → Int32} {Q : State → Prop} {G : GG} {A : Nat → Prop} {a0 a1 a2 : Nat}
    (F : Fx p m c cL_law 7 s #[.ref b] RL) (hst : l.stackTraces = false) (hE : VE G A s) (hXs : va_X b L xs s s.heap) (hbl : b < s.heap.size) (hbA : ¬ A b) (hL9 : L ≤ 1536)
    (kend : ∀ (H : Heap) (locs : List Loc) (ls : Array Slot) (cells slots : Nat), va_S A s.heap H locs → cells ≤ 601024 → slots ≤ 7293034 → W p l e room_1 s m #[.ref b] below meth c H locs cells slots Q (F0 m 1195 ls [])) :
    ∀ (d i : Nat) (ad : Lb → Nat) (dm : Lb → Prop) (ct : Lb → va_E) (S : SG) (H : Heap) (locs : List Loc) (ls : Array Slot) (cells slots : Nat), L < 3 * (i + d) + 3 → 3 * i ≤ L → wd G A (ad, dm, ct) H → va_S A s.heap H locs → JN G a0 a1 a2 ad dm ct S i cells slots → lv_has ls 7 [(4, .int (nI (3 * i))), (3, .ref a2), (2, .ref a1), (1, .ref a0), (0, .ref b)] → W p l e room_1 s m #[.ref b] below meth c H locs cells slots Q (F0 m 23 ls []) := by
  have hx := F.1
  have hb := F.2.1
  intro d
  induction d with
  | zero =>
    intro i ad dm ct S H locs ls cells slots hd9 h3i hW hS hJ hl
    obtain ⟨hcb, hsb⟩ := hJ.room
    refine lv_iload hx hb dL_law_23 (lv_at hl 0 rfl) ?_
    refine lv_aload_n hx hb dL_law_25 rfl (lv_at hl 4 rfl) ?_
    refine va_slen hx hb hXs hbl hbA hS dL_law_26 ?_
    refine ktop (y := nI L) rfl ?_
    refine lv_iconst (v := nI 3) hx hb dL_law_27 (by decide) ?_
    refine lv_isub hx hb dL_law_28 ?_
    refine lv_icmp_gt (tgt := 1195) hx hb dL_law_29 (by decide) (fun c1 => ?_) (fun c1 => ?_)
    · exact kend _ _ _ _ _ hS (by omega) (by omega)
    · have hi9 : 3 * i + 3 ≤ L := by
        rcases Nat.lt_or_ge L 3 with h | h
        · exfalso
          rcases (show L = 0 ∨ L = 1 ∨ L = 2 by omega) with rfl | rfl | rfl <;> exact c1 (Int32.lt_of_lt_of_le (show _ < nI 0 by decide) ((nI_leI (by decide) (by omega)).mpr (Nat.zero_le _)))
        · rw [pk_sub h] at c1
          have := Nat.not_lt.mp fun q => c1 ((nI_ltI (by omega) (by omega)).mpr q)
          omega
      omega
  | succ d ih =>
    intro i ad dm ct S H locs ls cells slots hd9 h3i hW hS hJ hl
    obtain ⟨hcb, hsb⟩ := hJ.room
    refine lv_iload hx hb dL_law_23 (lv_at hl 0 rfl) ?_
    refine lv_aload_n hx hb dL_law_25 rfl (lv_at hl 4 rfl) ?_
    refine va_slen hx hb hXs hbl hbA hS dL_law_26 ?_
    refine ktop (y := nI L) rfl ?_
    refine lv_iconst (v := nI 3) hx hb dL_law_27 (by decide) ?_
    refine lv_isub hx hb dL_law_28 ?_
    refine lv_icmp_gt (tgt := 1195) hx hb dL_law_29 (by decide) (fun c1 => ?_) (fun c1 => ?_)
    · exact kend _ _ _ _ _ hS (by omega) (by omega)
    · have hi9 : 3 * i + 3 ≤ L := by
        rcases Nat.lt_or_ge L 3 with h | h
        · exfalso
          rcases (show L = 0 ∨ L = 1 ∨ L = 2 by omega) with rfl | rfl | rfl <;> exact c1 (Int32.lt_of_lt_of_le (show _ < nI 0 by decide) ((nI_leI (by decide) (by omega)).mpr (Nat.zero_le _)))
        · rw [pk_sub h] at c1
          have := Nat.not_lt.mp fun q => c1 ((nI_ltI (by omega) (by omega)).mpr q)
          omega
      have kk : ∀ (ad2 : Lb → Nat) (dm2 : Lb → Prop) (ct2 : Lb → va_E) (S2 : SG) (H2 : Heap) (locs2 : List Loc) (ls2 : Array Slot) (cells2 slots2 : Nat), wd G A (ad2, dm2, ct2) H2 → va_S A s.heap H2 locs2 → JN G a0 a1 a2 ad2 dm2 ct2 S2 (i + 1) cells2 slots2 → lv_has ls2 7 [(4, .int (nI (3 * i))), (3, .ref a2), (2, .ref a1), (1, .ref a0), (0, .ref b)] → W p l e room_1 s m #[.ref b] below meth c H2 locs2 cells2 slots2 Q (F0 m 1189 ls2 []) := by
        intro ad2 dm2 ct2 S2 H2 locs2 ls2 cells2 slots2 hW hS hJ hl
        refine lv_iinc (v := nI (3 * i + 3)) (lv' := [(4, .int (nI (3 * i + 3))), (3, .ref a2), (2, .ref a1), (1, .ref a0), (0, .ref b)]) hx hb dL_law_1189 hl (k := 0) rfl (ki3 _) (by decide) rfl (fun ls hl => ?_)
        refine lv_goto (tgt := 23) hx hb dL_law_1192 (by decide) ?_
        exact ih (i + 1) _ _ _ _ _ _ _ _ _ (by omega) (by omega) hW hS hJ hl
      refine lv_aload_n hx hb dL_law_32 rfl (lv_at hl 4 rfl) ?_
      refine lv_iload hx hb dL_law_33 (lv_at hl 0 rfl) ?_
      refine va_sld hx hb hXs hbl hbA hS (nI_vp (j := 3 * i) rfl (by omega) (by omega)) dL_law_35 ?_
      generalize xs (nI (3 * i)).toNatClampNeg = x9
      refine lv_bipush (v := nI 31) hx hb dL_law_36 (by decide) ?_
      refine lv_iand hx hb dL_law_38 ?_
      obtain ⟨k, hk, hxk⟩ := and31 x9
      rw [hxk]
      rcases (show k = 0 ∨ k = 1 ∨ k = 2 ∨ k = 3 ∨ k = 4 ∨ k = 5 ∨ k = 6 ∨ k = 7 ∨ k = 8 ∨ k = 9 ∨ k = 10 ∨ k = 11 ∨ k = 12 ∨ k = 13 ∨ k = 14 ∨ k = 15 ∨ k = 16 ∨ k = 17 ∨ k = 18 ∨ k = 19 ∨ k = 20 ∨ k = 21 ∨ k = 22 ∨ k = 23 ∨ k = 24 ∨ k = 25 ∨ k = 26 ∨ k = 27 ∨ k = 28 ∨ k = 29 ∨ k = 30 ∨ k = 31 by omega) with rfl | rfl | rfl | rfl | rfl | rfl | rfl | rfl | rfl | rfl | rfl | rfl | rfl | rfl | rfl | rfl | rfl | rfl | rfl | rfl | rfl | rfl | rfl | rfl | rfl | rfl | rfl | rfl | rfl | rfl | rfl | rfl
      · refine lv_tableIn (off := 113) (tgt := 152) hx hb dL_law_39 (by decide) (by decide) rfl (by decide) ?_
        exact lc_put F hst hE hXs hbl hbA hi9 hL9 hW hS hJ hl kk
      · refine lv_tableIn (off := 181) (tgt := 220) hx hb dL_law_39 (by decide) (by decide) rfl (by decide) ?_
        exact lc_take F hst hE hXs hbl hbA hi9 hL9 hW hS hJ hl kk
      · refine lv_tableIn (off := 237) (tgt := 276) hx hb dL_law_39 (by decide) (by decide) rfl (by decide) ?_
        exact lc_get F hst hE hXs hbl hbA hi9 hL9 hW hS hJ hl kk
      · refine lv_tableIn (off := 293) (tgt := 332) hx hb dL_law_39 (by decide) (by decide) rfl (by decide) ?_
        exact lc_getByLeaves F hst hE hXs hbl hbA hi9 hL9 hW hS hJ hl kk
      · refine lv_tableIn (off := 349) (tgt := 388) hx hb dL_law_39 (by decide) (by decide) rfl (by decide) ?_
        exact lc_keys F hst hE hXs hbl hbA hi9 hL9 hW hS hJ hl kk
      · refine lv_tableIn (off := 362) (tgt := 401) hx hb dL_law_39 (by decide) (by decide) rfl (by decide) ?_
        exact lc_waiting F hst hE hXs hbl hbA hi9 hL9 hW hS hJ hl kk
      · refine lv_tableIn (off := 375) (tgt := 414) hx hb dL_law_39 (by decide) (by decide) rfl (by decide) ?_
        exact lc_post F hst hE hXs hbl hbA hi9 hL9 hW hS hJ hl kk
      · refine lv_tableIn (off := 419) (tgt := 458) hx hb dL_law_39 (by decide) (by decide) rfl (by decide) ?_
        exact lc_postAll F hst hE hXs hbl hbA hi9 hL9 hW hS hJ hl kk
      · refine lv_tableIn (off := 432) (tgt := 471) hx hb dL_law_39 (by decide) (by decide) rfl (by decide) ?_
        exact lc_takeOut F hst hE hXs hbl hbA hi9 hL9 hW hS hJ hl kk
      · refine lv_tableIn (off := 445) (tgt := 484) hx hb dL_law_39 (by decide) (by decide) rfl (by decide) ?_
        exact lc_recycle F hst hE hXs hbl hbA hi9 hL9 hW hS hJ hl kk
      · refine lv_tableIn (off := 458) (tgt := 497) hx hb dL_law_39 (by decide) (by decide) rfl (by decide) ?_
        exact lc_dead F hst hE hXs hbl hbA hi9 hL9 hW hS hJ hl kk
      · refine lv_tableIn (off := 471) (tgt := 510) hx hb dL_law_39 (by decide) (by decide) rfl (by decide) ?_
        exact lc_epoch F hst hE hXs hbl hbA hi9 hL9 hW hS hJ hl kk
      · refine lv_tableIn (off := 484) (tgt := 523) hx hb dL_law_39 (by decide) (by decide) rfl (by decide) ?_
        exact lc_pages F hst hE hXs hbl hbA hi9 hL9 hW hS hJ hl kk
      · refine lv_tableIn (off := 497) (tgt := 536) hx hb dL_law_39 (by decide) (by decide) rfl (by decide) ?_
        exact lc_root F hst hE hXs hbl hbA hi9 hL9 hW hS hJ hl kk
      · refine lv_tableIn (off := 510) (tgt := 549) hx hb dL_law_39 (by decide) (by decide) rfl (by decide) ?_
        exact lc_level F hst hE hXs hbl hbA hi9 hL9 hW hS hJ hl kk
      · refine lv_tableIn (off := 566) (tgt := 605) hx hb dL_law_39 (by decide) (by decide) rfl (by decide) ?_
        exact lc_size F hst hE hXs hbl hbA hi9 hL9 hW hS hJ hl kk
      · refine lv_tableIn (off := 622) (tgt := 661) hx hb dL_law_39 (by decide) (by decide) rfl (by decide) ?_
        exact lc_keyAt F hst hE hXs hbl hbA hi9 hL9 hW hS hJ hl kk
      · refine lv_tableIn (off := 690) (tgt := 729) hx hb dL_law_39 (by decide) (by decide) rfl (by decide) ?_
        exact lc_below F hst hE hXs hbl hbA hi9 hL9 hW hS hJ hl kk
      · refine lv_tableIn (off := 758) (tgt := 797) hx hb dL_law_39 (by decide) (by decide) rfl (by decide) ?_
        exact lc_high F hst hE hXs hbl hbA hi9 hL9 hW hS hJ hl kk
      · refine lv_tableIn (off := 814) (tgt := 853) hx hb dL_law_39 (by decide) (by decide) rfl (by decide) ?_
        exact lc_right F hst hE hXs hbl hbA hi9 hL9 hW hS hJ hl kk
      · refine lv_tableIn (off := 870) (tgt := 909) hx hb dL_law_39 (by decide) (by decide) rfl (by decide) ?_
        exact lc_links F hst hE hXs hbl hbA hi9 hL9 hW hS hJ hl kk
      · refine lv_tableIn (off := 926) (tgt := 965) hx hb dL_law_39 (by decide) (by decide) rfl (by decide) ?_
        exact lc_open F hst hE hXs hbl hbA hi9 hL9 hW hS hJ hl kk
      · refine lv_tableIn (off := 982) (tgt := 1021) hx hb dL_law_39 (by decide) (by decide) rfl (by decide) ?_
        exact lc_next F hst hE hXs hbl hbA hi9 hL9 hW hS hJ hl kk
      · refine lv_tableIn (off := 1038) (tgt := 1077) hx hb dL_law_39 (by decide) (by decide) rfl (by decide) ?_
        exact lc_leafOf F hst hE hXs hbl hbA hi9 hL9 hW hS hJ hl kk
      · refine lv_tableIn (off := 1094) (tgt := 1133) hx hb dL_law_39 (by decide) (by decide) rfl (by decide) ?_
        exact lc_close F hst hE hXs hbl hbA hi9 hL9 hW hS hJ hl kk
      · refine lv_tableOut (tgt := 1189) hx hb dL_law_39 (Or.inr (by decide)) (by decide) ?_
        exact lc_other F hst hE hXs hbl hbA hi9 hL9 hW hS hJ hl kk
      · refine lv_tableOut (tgt := 1189) hx hb dL_law_39 (Or.inr (by decide)) (by decide) ?_
        exact lc_other F hst hE hXs hbl hbA hi9 hL9 hW hS hJ hl kk
      · refine lv_tableOut (tgt := 1189) hx hb dL_law_39 (Or.inr (by decide)) (by decide) ?_
        exact lc_other F hst hE hXs hbl hbA hi9 hL9 hW hS hJ hl kk
      · refine lv_tableOut (tgt := 1189) hx hb dL_law_39 (Or.inr (by decide)) (by decide) ?_
        exact lc_other F hst hE hXs hbl hbA hi9 hL9 hW hS hJ hl kk
      · refine lv_tableOut (tgt := 1189) hx hb dL_law_39 (Or.inr (by decide)) (by decide) ?_
        exact lc_other F hst hE hXs hbl hbA hi9 hL9 hW hS hJ hl kk
      · refine lv_tableOut (tgt := 1189) hx hb dL_law_39 (Or.inr (by decide)) (by decide) ?_
        exact lc_other F hst hE hXs hbl hbA hi9 hL9 hW hS hJ hl kk
      · refine lv_tableOut (tgt := 1189) hx hb dL_law_39 (Or.inr (by decide)) (by decide) ?_
        exact lc_other F hst hE hXs hbl hbA hi9 hL9 hW hS hJ hl kk
def srB (w : Cond) : Bool := match w with
  | .stringRef o k _ => decide (Cond.exactly (.string o k) "java/lang/String" ∈ Jvm.Free.XT.flat (Jvm.Cond.and given_1 narrow_1))
  | _ => true
set_option maxRecDepth 100000 in
theorem sr_ok : ∀ w ∈ lw_tbl, srB w = true := by decide +kernel
theorem arr_ty {s : State} {args : Array Value} {ty : FieldType} (h : (Cond.arrayClass ty).before args s = true) (hn : ∀ C, ty ≠ .object C) : ∃ cA, ArrOfT s cA ty ∧ s.vm.findClass ("[" ++ ty.toString) = some cA := by
  obtain ⟨c, k, comp, h1, h2, h3⟩ := Cond.arrayClass_spec h
  exact ⟨c, fun n z => ⟨fun k h => (by cases h), k, h2, comp, h3⟩, h1⟩
theorem arr_ov {s : State} {args : Array Value} {C : String} (h : (Cond.arrayOver (.object C)).before args s = true) : ∃ cA, ArrOfT s cA (.object C) ∧ va_RA s cA (.object C) := by
  obtain ⟨comp, c, k, f1, f2, f3, f4, f5⟩ := Cond.arrayOver_spec h
  exact ⟨c, fun n z => ⟨fun k h => (by cases h), k, f3, comp, f4⟩, k, comp, f3, f4, f1, f5⟩
set_option maxRecDepth 100000 in
set_option maxHeartbeats 4000000 in
theorem st_EN {s : State} {b : Nat} (hts : ∀ w ∈ lw_tbl, w.before #[Value.ref b] s = true) (hgv : (Jvm.Cond.and given_1 narrow_1).before #[Value.ref b] s = true) : ∃ e0, EN e0 (fun q : Nat => s.heap.size ≤ q) s := by
  have hs := flat_of_before _ hgv
  have hA : ∀ a : Nat, a < s.heap.size → ¬ (fun q : Nat => s.heap.size ≤ q) a := fun a h => Nat.not_le.mpr h
  obtain ⟨mi, hmi⟩ := va_Mi.of (hs (.isRef (.mirror "[Ljava/lang/Object;")) (by decide +kernel))
  obtain ⟨t, ht, hT⟩ := va_Tof (N := 0) (ty := .object "java/lang/Object") (f := fun _ => .null) (tm := .static "java/util/ArrayList" "DEFAULTCAPACITY_EMPTY_ELEMENTDATA" "[Ljava/lang/Object;") (by decide) (hs (.arrayOf (.static "java/util/ArrayList" "DEFAULTCAPACITY_EMPTY_ELEMENTDATA" "[Ljava/lang/Object;") (.object "java/lang/Object")) (by decide +kernel))
    (Cond.eq_int (hs (.eq (.length (.static "java/util/ArrayList" "DEFAULTCAPACITY_EMPTY_ELEMENTDATA" "[Ljava/lang/Object;")) (.int 0)) (by decide +kernel)) rfl) (fun j hj => absurd hj (Nat.not_lt_zero _)) hA
  refine ⟨(t, mi), fun x hx => va_Nw.of rfl (hts _ hx), fun C T hx => va_Nw.of rfl (hts _ hx), fun C hx => va_AO.of (hts _ hx), fun o k tx hx => ?_, hmi, va_Nc.of (hs (.not (.castable "java/lang/IllegalStateException" "java/lang/IllegalArgumentException")) (by decide +kernel)),
    vx_Zqof (hts (.laysStatic "java/lang/Throwable" "UNASSIGNED_STACK" "[Ljava/lang/StackTraceElement;") (by decide +kernel)) (hts (.initialized "java/lang/Throwable") (by decide +kernel)) (hs (.isRef (.static "java/lang/Throwable" "UNASSIGNED_STACK" "[Ljava/lang/StackTraceElement;")) (by decide +kernel)) hA,
    vx_Zqof (hts (.laysStatic "java/lang/Throwable" "SUPPRESSED_SENTINEL" "Ljava/util/List;") (by decide +kernel)) (hts (.initialized "java/lang/Throwable") (by decide +kernel)) (hs (.isRef (.static "java/lang/Throwable" "SUPPRESSED_SENTINEL" "Ljava/util/List;")) (by decide +kernel)) hA,
    va_Zof (hts (.laysStatic "java/util/ArrayList" "DEFAULTCAPACITY_EMPTY_ELEMENTDATA" "[Ljava/lang/Object;") (by decide +kernel)) (hts (.initialized "java/util/ArrayList") (by decide +kernel)) ht hA, hT⟩
  have h1 := sr_ok _ hx
  have h2 : Cond.exactly (.string o k) "java/lang/String" ∈ Jvm.Free.XT.flat (Jvm.Cond.and given_1 narrow_1) := of_decide_eq_true h1
  obtain ⟨a, cc, cell, kk, h3, -⟩ := Cond.exactly_spec (hs _ h2)
  exact ⟨a, vk_R.of (hts _ hx) h3⟩
set_option maxRecDepth 100000 in
set_option maxHeartbeats 4000000 in
theorem st_VE {s : State} {b : Nat} (hts : ∀ w ∈ lw_tbl, w.before #[Value.ref b] s = true) (hgv : (Jvm.Cond.and given_1 narrow_1).before #[Value.ref b] s = true) : ∃ G, VE G (fun q : Nat => s.heap.size ≤ q) s := by
  obtain ⟨e0, hEN⟩ := st_EN hts hgv
  have hal : ∀ w ∈ AL, w.before #[Value.ref b] s = true := fun w hw => hts w (al_sub hw)
  obtain ⟨k0, i0, hk0⟩ := u_known (C := RJx4a65c) (T := TJx4a65c) (N := 3) (n := 3) hal inA_JL (hal _ kw_31)
  obtain ⟨k1, i1, hk1⟩ := u_known (C := RX0) (T := TX0) (N := 4) (n := 4) hal inA_X0 (hal _ kw_542)
  obtain ⟨k2, i2, hk2⟩ := u_known (C := RX1) (T := TX1) (N := 11) (n := 11) hal inA_X1 (hal _ kw_58)
  obtain ⟨k3, i3, hk3⟩ := u_known (C := RX2) (T := TX2) (N := 8) (n := 8) hal inA_X2 (hal _ kw_21)
  obtain ⟨k4, i4, hk4⟩ := u_known (C := RX3) (T := TX3) (N := 20) (n := 20) hal inA_X3 (hal _ kw_597)
  obtain ⟨c0, y0, z0⟩ := arr_ty (hal _ kw_105) (fun C h => by cases h)
  obtain ⟨c1, y1, z1⟩ := arr_ty (hal _ kw_667) (fun C h => by cases h)
  obtain ⟨c2, y2, z2⟩ := arr_ov (hts _ kn_29)
  obtain ⟨c3, y3, z3⟩ := arr_ov (hts _ kn_57)
  obtain ⟨c4, y4, z4⟩ := arr_ov (hts _ kn_267)
  obtain ⟨c5, y5, z5⟩ := arr_ty (hal _ kw_834) (fun C h => by cases h)
  refine ⟨((fun k => match k with | 0 => k0 | 1 => k1 | 2 => k2 | 3 => k3 | _ => k4, fun k => match k with | 0 => i0 | 1 => i1 | 2 => i2 | 3 => i3 | _ => i4), (fun k => match k with | 0 => c0 | 1 => c1 | 2 => c2 | 3 => c3 | 4 => c4 | _ => c5), e0), ⟨fun k q hq => ?_, fun k q hq => ?_⟩, hEN, fun q hq => hq⟩
  · match k, hq with
    | 0, hq => cases hq; exact hk0
    | 1, hq => cases hq; exact hk1
    | 2, hq => cases hq; exact hk2
    | 3, hq => cases hq; exact hk3
    | 4, hq => cases hq; exact hk4
    | k + 5, hq => simp [vwCl] at hq
  · match k, hq with
    | 0, hq => cases hq; exact ⟨y0, z0⟩
    | 1, hq => cases hq; exact ⟨y1, z1⟩
    | 2, hq => cases hq; exact ⟨y2, z2⟩
    | 3, hq => cases hq; exact ⟨y3, z3⟩
    | 4, hq => cases hq; exact ⟨y4, z4⟩
    | 5, hq => cases hq; exact ⟨y5, z5⟩
    | k + 6, hq => simp [tyG] at hq
