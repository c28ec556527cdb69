/-! The law's act. -/
set_option maxRecDepth 100000 in
set_option maxHeartbeats 4000000 in
theorem c_L_act (l : Launch) (G : GG) (A : Nat → Prop) (ad : Lb → Nat) (dm : Lb → Prop) (ct : Lb → va_E) (S : SG) (t0 : Nat) (hst : l.stackTraces = false) (hK : HK G ad dm ct S) (hI : Inv S t0) (hd7 : ¬ dm (7, 0)) (v : Int32) :
    CT l yL_act cL_act 7 (some FieldType.int) { frames := 13, cells := 49 + 5 * actP S v, slots := 5866 + 826 * actP S v, locals := 262 } [.ref (ad (0, 0)), .int v] G A (ad, dm, ct) (fun v9 w' => ∃ ad' dm' ct', w' = (ad', dm', ct') ∧ FH ad dm ct ad' dm' ct' ∧ HK G ad' dm' ct' (actF S v).1 ∧ v9 = some (.int (actF S v).2)) (fun _ => False) (49 + 5 * actP S v) (5866 + 826 * actP S v) := by
  refine ct_of (by decide) (Nat.le_of_ble_eq_true rfl) ?_
  intro p e s m below meth c ls F hr hlk hnm hex hE hW hl
  have hx := F.1
  have hb := F.2.1
  have hS : va_S A s.heap s.heap [] := va_S.rf
  have hl : lv_has ls 7 [(0, .ref (ad (0, 0))), (1, .int v)] := hl
  suffices key18 : ∀ (ob : Bool) (H : Heap) (locs : List Loc) (ls : Array Slot), odB v = ob → wd G A (ad, dm, ct) H → va_S A s.heap H locs → lv_has ls 7 [(2, .int (bI ob)), (0, .ref (ad (0, 0))), (1, .int v)] → W p l e { frames := 13, cells := 49 + 5 * actP S v, slots := 5866 + 826 * actP S v, locals := 262 } s m #[.ref (ad (0, 0)), .int v] below meth c H locs 0 0 (vx_MQ below (QK G A (fun v9 w' => ∃ ad' dm' ct', w' = (ad', dm', ct') ∧ FH ad dm ct ad' dm' ct' ∧ HK G ad' dm' ct' (actF S v).1 ∧ v9 = some (.int (actF S v).2))) (XK G A (ad, dm, ct) (fun _ => False)) #[.ref (ad (0, 0)), .int v] s (49 + 5 * actP S v) (5866 + 826 * actP S v) A) (F0 m 18 ls []) by
    refine lv_iload_n hx hb dL_act_0 rfl (lv_at hl 1 rfl) ?_
    refine lv_bipush (v := nI 24) hx hb dL_act_1 (by decide) ?_
    refine lv_ishr hx hb dL_act_3 ?_
    refine lv_bipush (v := nI 8) hx hb dL_act_4 (by decide) ?_
    refine kc_S 2 (c_L_low l G A ad dm ct (v >>> (nI 24 &&& 31)) 8 (by decide) (by decide)) F hE hW hS kw_272 kw_273 kw_0 kw_274 (by decide +kernel) rfl ⟨rfl, rfl⟩ ⟨Nat.le_of_ble_eq_true rfl, Nat.le_of_ble_eq_true rfl⟩ hl.1 rfl (Nat.le_of_ble_eq_true rfl) dL_act_6 ⟨(by show _ ≤ 49 + 5 * actP S v; omega), (by show _ ≤ 5866 + 826 * actP S v; omega)⟩ (fun _ _ _ _ _ h => h.elim) (fun v w' H locs hp hW hS => ?_)
    obtain ⟨rfl, rfl⟩ := hp
    refine nz_ne (tgt := 16) hx hb dL_act_9 (by decide) (by have := lowN_lt (v := v >>> (nI 24 &&& 31)) (n := 8) (by decide); omega) (fun c1 => ?_) (fun c1 => ?_)
    · refine lv_iconst (v := nI 0) hx hb dL_act_16 (by decide) ?_
      refine lv_istore_n (lv' := [(2, .int (nI 0)), (0, .ref (ad (0, 0))), (1, .int v)]) hx hb dL_act_17 rfl hl (by decide) rfl (fun ls hl => ?_)
      exact key18 false _ _ _ (decide_eq_false c1) hW hS hl
    · refine lv_iconst (v := nI 1) hx hb dL_act_12 (by decide) ?_
      refine lv_goto (tgt := 17) hx hb dL_act_13 (by decide) ?_
      refine lv_istore_n (lv' := [(2, .int (nI 1)), (0, .ref (ad (0, 0))), (1, .int v)]) hx hb dL_act_17 rfl hl (by decide) rfl (fun ls hl => ?_)
      exact key18 true _ _ _ (decide_eq_true c1) hW hS hl
  clear hl hS hW
  intro ob H locs ls hob hW hS hl
  refine lv_iload_n hx hb dL_act_18 rfl (lv_at hl 2 rfl) ?_
  refine lv_bipush (v := nI 32) hx hb dL_act_19 (by decide) ?_
  refine kc_S 2 (c_L_low l G A ad dm ct v 32 (by decide) (by decide)) F hE hW hS kw_272 kw_273 kw_0 kw_274 (by decide +kernel) rfl ⟨rfl, rfl⟩ ⟨Nat.le_of_ble_eq_true rfl, Nat.le_of_ble_eq_true rfl⟩ hl.1 rfl (Nat.le_of_ble_eq_true rfl) dL_act_21 ⟨(by show _ ≤ 49 + 5 * actP S v; omega), (by show _ ≤ 5866 + 826 * actP S v; omega)⟩ (fun _ _ _ _ _ h => h.elim) (fun v w' H locs hp hW hS => ?_)
  obtain ⟨rfl, rfl⟩ := hp
  have hw32 := lowN_lt (v := v) (n := 32) (by decide)
  refine lv_istore_n (lv' := [(3, .int (nI (lowN v 32))), (2, .int (bI ob)), (0, .ref (ad (0, 0))), (1, .int v)]) hx hb dL_act_24 rfl hl (by decide) rfl (fun ls hl => ?_)
  suffices key68 : ∀ (H : Heap) (locs : List Loc) (ls : Array Slot), wd G A (ad, dm, ct) H → va_S A s.heap H locs → lv_has ls 7 [(4, .int (kyV v)), (3, .int (nI (lowN v 32))), (2, .int (bI ob)), (0, .ref (ad (0, 0))), (1, .int v)] → W p l e { frames := 13, cells := 49 + 5 * actP S v, slots := 5866 + 826 * actP S v, locals := 262 } s m #[.ref (ad (0, 0)), .int v] below meth c H locs 0 0 (vx_MQ below (QK G A (fun v9 w' => ∃ ad' dm' ct', w' = (ad', dm', ct') ∧ FH ad dm ct ad' dm' ct' ∧ HK G ad' dm' ct' (actF S v).1 ∧ v9 = some (.int (actF S v).2))) (XK G A (ad, dm, ct) (fun _ => False)) #[.ref (ad (0, 0)), .int v] s (49 + 5 * actP S v) (5866 + 826 * actP S v) A) (F0 m 68 ls []) by
    cases ob with
    | false =>
      have hl : lv_has ls 7 [(3, .int (nI (lowN v 32))), (2, .int (nI 0)), (0, .ref (ad (0, 0))), (1, .int v)] := hl
      refine lv_iload_n hx hb dL_act_25 rfl (lv_at hl 1 rfl) ?_
      refine nz_eq (tgt := 43) hx hb dL_act_26 (by decide) (by decide) (fun c9 => ?_) (fun c9 => ?_)
      · refine lv_iload_n hx hb dL_act_43 rfl (lv_at hl 3 rfl) ?_
        refine lv_iconst (v := nI 4) hx hb dL_act_44 (by decide) ?_
        refine lv_ishr hx hb dL_act_45 ?_
        refine lv_iload_n hx hb dL_act_46 rfl (lv_at hl 3 rfl) ?_
        refine lv_bipush (v := nI 16) hx hb dL_act_47 (by decide) ?_
        refine lv_ishr hx hb dL_act_49 ?_
        refine lv_iconst (v := nI 1) hx hb dL_act_50 (by decide) ?_
        refine lv_iand hx hb dL_act_51 ?_
        refine lv_if_ne (tgt := 61) hx hb dL_act_52 (by decide) (fun c1 => ?_) (fun c1 => ?_)
        · refine lv_bipush (v := nI 20) hx hb dL_act_61 (by decide) ?_
          refine kc_S 2 (c_L_low l G A ad dm ct (v >>> (nI 4 &&& 31)) 20 (by decide) (by decide)) F hE hW hS kw_272 kw_273 kw_0 kw_274 (by decide +kernel) rfl ⟨rfl, rfl⟩ ⟨Nat.le_of_ble_eq_true rfl, Nat.le_of_ble_eq_true rfl⟩ hl.1 rfl (Nat.le_of_ble_eq_true rfl) dL_act_63 ⟨(by show _ ≤ 49 + 5 * actP S v; omega), (by show _ ≤ 5866 + 826 * actP S v; omega)⟩ (fun _ _ _ _ _ h => h.elim) (fun v w' H locs hp hW hS => ?_)
          obtain ⟨rfl, rfl⟩ := hp
          have ek : kyV v = nI (lowN (v >>> (nI 4 &&& 31)) 20) := by unfold kyV; rw [if_neg (by rw [hob]; decide), if_neg c1]
          refine lv_istore (lv' := [(4, .int (nI (lowN (v >>> (nI 4 &&& 31)) 20))), (3, .int (nI (lowN v 32))), (2, .int (nI 0)), (0, .ref (ad (0, 0))), (1, .int v)]) hx hb dL_act_66 hl (by decide) rfl (fun ls hl => ?_)
          rw [← ek] at hl
          exact key68 _ _ _ hW hS (lv_sub hl [0, 1, 2, 3, 4] rfl)
        · refine lv_sipush (v := nI 200) hx hb dL_act_55 (by decide) ?_
          refine lv_goto (tgt := 63) hx hb dL_act_58 (by decide) ?_
          refine kc_S 2 (c_L_low l G A ad dm ct (v >>> (nI 4 &&& 31)) 200 (by decide) (by decide)) F hE hW hS kw_272 kw_273 kw_0 kw_274 (by decide +kernel) rfl ⟨rfl, rfl⟩ ⟨Nat.le_of_ble_eq_true rfl, Nat.le_of_ble_eq_true rfl⟩ hl.1 rfl (Nat.le_of_ble_eq_true rfl) dL_act_63 ⟨(by show _ ≤ 49 + 5 * actP S v; omega), (by show _ ≤ 5866 + 826 * actP S v; omega)⟩ (fun _ _ _ _ _ h => h.elim) (fun v w' H locs hp hW hS => ?_)
          obtain ⟨rfl, rfl⟩ := hp
          have ek : kyV v = nI (lowN (v >>> (nI 4 &&& 31)) 200) := by unfold kyV; rw [if_neg (by rw [hob]; decide), if_pos c1]
          refine lv_istore (lv' := [(4, .int (nI (lowN (v >>> (nI 4 &&& 31)) 200))), (3, .int (nI (lowN v 32))), (2, .int (nI 0)), (0, .ref (ad (0, 0))), (1, .int v)]) hx hb dL_act_66 hl (by decide) rfl (fun ls hl => ?_)
          rw [← ek] at hl
          exact key68 _ _ _ hW hS (lv_sub hl [0, 1, 2, 3, 4] rfl)
      · exact absurd c9 (by decide)
    | true =>
      have hl : lv_has ls 7 [(3, .int (nI (lowN v 32))), (2, .int (nI 1)), (0, .ref (ad (0, 0))), (1, .int v)] := hl
      refine lv_iload_n hx hb dL_act_25 rfl (lv_at hl 1 rfl) ?_
      refine nz_eq (tgt := 43) hx hb dL_act_26 (by decide) (by decide) (fun c9 => ?_) (fun c9 => ?_)
      · exact absurd c9 (by decide)
      · refine lv_iload_n hx hb dL_act_29 rfl (lv_at hl 3 rfl) ?_
        refine lv_iconst (v := nI 4) hx hb dL_act_30 (by decide) ?_
        refine lv_ishr hx hb dL_act_31 ?_
        refine lv_sipush (v := nI 210) hx hb dL_act_32 (by decide) ?_
        refine kc_S 2 (c_L_low l G A ad dm ct (v >>> (nI 4 &&& 31)) 210 (by decide) (by decide)) F hE hW hS kw_272 kw_273 kw_0 kw_274 (by decide +kernel) rfl ⟨rfl, rfl⟩ ⟨Nat.le_of_ble_eq_true rfl, Nat.le_of_ble_eq_true rfl⟩ hl.1 rfl (Nat.le_of_ble_eq_true rfl) dL_act_35 ⟨(by show _ ≤ 49 + 5 * actP S v; omega), (by show _ ≤ 5866 + 826 * actP S v; omega)⟩ (fun _ _ _ _ _ h => h.elim) (fun v w' H locs hp hW hS => ?_)
        obtain ⟨rfl, rfl⟩ := hp
        refine lv_iconst (v := nI 5) hx hb dL_act_38 (by decide) ?_
        refine lv_isub hx hb dL_act_39 ?_
        refine lv_goto (tgt := 66) hx hb dL_act_40 (by decide) ?_
        have ek : kyV v = nI (lowN (v >>> (nI 4 &&& 31)) 210) - nI 5 := by unfold kyV; rw [if_pos hob]
        refine lv_istore (lv' := [(4, .int (nI (lowN (v >>> (nI 4 &&& 31)) 210) - nI 5)), (3, .int (nI (lowN v 32))), (2, .int (nI 1)), (0, .ref (ad (0, 0))), (1, .int v)]) hx hb dL_act_66 hl (by decide) rfl (fun ls hl => ?_)
        rw [← ek] at hl
        exact key68 _ _ _ hW hS (lv_sub hl [0, 1, 2, 3, 4] rfl)
  clear hl hS hW
  intro H locs ls hW hS hl
  refine lv_iload_n hx hb dL_act_68 rfl (lv_at hl 1 rfl) ?_
  refine lv_bipush (v := nI 16) hx hb dL_act_69 (by decide) ?_
  refine nc_ge (tgt := 109) hx hb dL_act_71 (by decide) (by omega) (by omega) (fun c1 => ?_) (fun c1 => ?_)
  · refine lv_iload_n hx hb dL_act_109 rfl (lv_at hl 1 rfl) ?_
    refine lv_bipush (v := nI 22) hx hb dL_act_110 (by decide) ?_
    refine nc_ge (tgt := 180) hx hb dL_act_112 (by decide) (by omega) (by omega) (fun c2 => ?_) (fun c2 => ?_)
    · refine lv_iload_n hx hb dL_act_180 rfl (lv_at hl 1 rfl) ?_
      refine lv_bipush (v := nI 26) hx hb dL_act_181 (by decide) ?_
      refine nc_ge (tgt := 207) hx hb dL_act_183 (by decide) (by omega) (by omega) (fun c3 => ?_) (fun c3 => ?_)
      · refine lv_iload_n hx hb dL_act_207 rfl (lv_at hl 1 rfl) ?_
        refine lv_bipush (v := nI 29) hx hb dL_act_208 (by decide) ?_
        refine nc_ge (tgt := 231) hx hb dL_act_210 (by decide) (by omega) (by omega) (fun c4 => ?_) (fun c4 => ?_)
        · refine lv_iload_n hx hb dL_act_231 rfl (lv_at hl 1 rfl) ?_
          refine lv_bipush (v := nI 29) hx hb dL_act_232 (by decide) ?_
          refine nc_ne (tgt := 248) hx hb dL_act_234 (by decide) (by omega) (by omega) (fun c5 => ?_) (fun c5 => ?_)
          · refine lv_iload_n hx hb dL_act_248 rfl (lv_at hl 1 rfl) ?_
            refine lv_bipush (v := nI 30) hx hb dL_act_249 (by decide) ?_
            refine nc_ne (tgt := 280) hx hb dL_act_251 (by decide) (by omega) (by omega) (fun c6 => ?_) (fun c6 => ?_)
            · refine lv_aload_n hx hb dL_act_280 rfl (lv_at hl 3 rfl) ?_
              refine lv_iconst (v := nI 4) hx hb dL_act_281 (by decide) ?_
              refine lv_iload_n hx hb dL_act_282 rfl (lv_at hl 4 rfl) ?_
              refine lv_iconst (v := nI 5) hx hb dL_act_283 (by decide) ?_
              refine lv_ishr hx hb dL_act_284 ?_
              refine lv_iload_n hx hb dL_act_285 rfl (lv_at hl 2 rfl) ?_
              cases ob with
              | false =>
                have hl : lv_has ls 7 [(4, .int (kyV v)), (3, .int (nI (lowN v 32))), (2, .int (nI 0)), (0, .ref (ad (0, 0))), (1, .int v)] := hl
                refine nz_eq (tgt := 294) hx hb dL_act_286 (by decide) (by decide) (fun c9 => ?_) (fun c9 => ?_)
                · refine lv_bipush (v := nI 6) hx hb dL_act_294 (by decide) ?_
                  refine kc_S 2 (c_L_low l G A ad dm ct (v >>> (nI 5 &&& 31)) 6 (by decide) (by decide)) F hE hW hS kw_272 kw_273 kw_0 kw_274 (by decide +kernel) rfl ⟨rfl, rfl⟩ ⟨Nat.le_of_ble_eq_true rfl, Nat.le_of_ble_eq_true rfl⟩ hl.1 rfl (Nat.le_of_ble_eq_true rfl) dL_act_296 ⟨(by show _ ≤ 49 + 5 * actP S v; omega), (by show _ ≤ 5866 + 826 * actP S v; omega)⟩ (fun _ _ _ _ _ h => h.elim) (fun v w' H locs hp hW hS => ?_)
                  obtain ⟨rfl, rfl⟩ := hp
                  refine lv_iconst (v := nI 0) hx hb dL_act_299 (by decide) ?_
                  refine kc_SH 4 (c_L_does4 l G A ad dm ct S t0 hst hK hI hd7 (nI (lowN (v >>> (nI 5 &&& 31)) 6)) (nI 0)) F hE hW hS kw_279 kw_280 kw_0 kw_281 (by decide +kernel) rfl ⟨rfl, rfl⟩ ⟨Nat.le_of_ble_eq_true rfl, Nat.le_of_ble_eq_true rfl⟩ hl.1 rfl (Nat.le_of_ble_eq_true rfl) dL_act_300 ⟨(by show _ ≤ 49 + 5 * actP S v; omega), (by show _ ≤ 5866 + 826 * actP S v; omega)⟩ (fun v9 w' H locs hp hW hS => ?_)
                  obtain ⟨ad2, dm2, ct2, rfl, hF2, hK2, rfl⟩ := hp
                  exact kr_i F hr hlk hE hW hS (by omega) (by omega) dL_act_303 ⟨_, _, _, rfl, hF2, by rw [act_8 (N := 6) (by omega) (fun q => c6 q.1) (by rw [if_neg (by rw [hob]; decide)])]; exact hK2, (congrArg (fun q : SG × Int32 => some (Value.int q.2)) (act_8 (N := 6) (by omega) (fun q => c6 q.1) (by rw [if_neg (by rw [hob]; decide)]))).symm⟩
                · exact absurd c9 (by decide)
              | true =>
                have hl : lv_has ls 7 [(4, .int (kyV v)), (3, .int (nI (lowN v 32))), (2, .int (nI 1)), (0, .ref (ad (0, 0))), (1, .int v)] := hl
                refine nz_eq (tgt := 294) hx hb dL_act_286 (by decide) (by decide) (fun c9 => ?_) (fun c9 => ?_)
                · exact absurd c9 (by decide)
                · refine lv_bipush (v := nI 30) hx hb dL_act_289 (by decide) ?_
                  refine lv_goto (tgt := 296) hx hb dL_act_291 (by decide) ?_
                  refine kc_S 2 (c_L_low l G A ad dm ct (v >>> (nI 5 &&& 31)) 30 (by decide) (by decide)) F hE hW hS kw_272 kw_273 kw_0 kw_274 (by decide +kernel) rfl ⟨rfl, rfl⟩ ⟨Nat.le_of_ble_eq_true rfl, Nat.le_of_ble_eq_true rfl⟩ hl.1 rfl (Nat.le_of_ble_eq_true rfl) dL_act_296 ⟨(by show _ ≤ 49 + 5 * actP S v; omega), (by show _ ≤ 5866 + 826 * actP S v; omega)⟩ (fun _ _ _ _ _ h => h.elim) (fun v w' H locs hp hW hS => ?_)
                  obtain ⟨rfl, rfl⟩ := hp
                  refine lv_iconst (v := nI 0) hx hb dL_act_299 (by decide) ?_
                  refine kc_SH 4 (c_L_does4 l G A ad dm ct S t0 hst hK hI hd7 (nI (lowN (v >>> (nI 5 &&& 31)) 30)) (nI 0)) F hE hW hS kw_279 kw_280 kw_0 kw_281 (by decide +kernel) rfl ⟨rfl, rfl⟩ ⟨Nat.le_of_ble_eq_true rfl, Nat.le_of_ble_eq_true rfl⟩ hl.1 rfl (Nat.le_of_ble_eq_true rfl) dL_act_300 ⟨(by show _ ≤ 49 + 5 * actP S v; omega), (by show _ ≤ 5866 + 826 * actP S v; omega)⟩ (fun v9 w' H locs hp hW hS => ?_)
                  obtain ⟨ad2, dm2, ct2, rfl, hF2, hK2, rfl⟩ := hp
                  exact kr_i F hr hlk hE hW hS (by omega) (by omega) dL_act_303 ⟨_, _, _, rfl, hF2, by rw [act_8 (N := 30) (by omega) (fun q => c6 q.1) (by rw [if_pos hob])]; exact hK2, (congrArg (fun q : SG × Int32 => some (Value.int q.2)) (act_8 (N := 30) (by omega) (fun q => c6 q.1) (by rw [if_pos hob]))).symm⟩
            · refine lv_iload_n hx hb dL_act_254 rfl (lv_at hl 4 rfl) ?_
              refine lv_bipush (v := nI 9) hx hb dL_act_255 (by decide) ?_
              refine lv_ishr hx hb dL_act_257 ?_
              refine lv_iconst (v := nI 1) hx hb dL_act_258 (by decide) ?_
              refine lv_iand hx hb dL_act_259 ?_
              refine lv_if_ne (tgt := 280) hx hb dL_act_260 (by decide) (fun c7 => ?_) (fun c7 => ?_)
              · refine lv_aload_n hx hb dL_act_280 rfl (lv_at hl 3 rfl) ?_
                refine lv_iconst (v := nI 4) hx hb dL_act_281 (by decide) ?_
                refine lv_iload_n hx hb dL_act_282 rfl (lv_at hl 4 rfl) ?_
                refine lv_iconst (v := nI 5) hx hb dL_act_283 (by decide) ?_
                refine lv_ishr hx hb dL_act_284 ?_
                refine lv_iload_n hx hb dL_act_285 rfl (lv_at hl 2 rfl) ?_
                cases ob with
                | false =>
                  have hl : lv_has ls 7 [(4, .int (kyV v)), (3, .int (nI (lowN v 32))), (2, .int (nI 0)), (0, .ref (ad (0, 0))), (1, .int v)] := hl
                  refine nz_eq (tgt := 294) hx hb dL_act_286 (by decide) (by decide) (fun c9 => ?_) (fun c9 => ?_)
                  · refine lv_bipush (v := nI 6) hx hb dL_act_294 (by decide) ?_
                    refine kc_S 2 (c_L_low l G A ad dm ct (v >>> (nI 5 &&& 31)) 6 (by decide) (by decide)) F hE hW hS kw_272 kw_273 kw_0 kw_274 (by decide +kernel) rfl ⟨rfl, rfl⟩ ⟨Nat.le_of_ble_eq_true rfl, Nat.le_of_ble_eq_true rfl⟩ hl.1 rfl (Nat.le_of_ble_eq_true rfl) dL_act_296 ⟨(by show _ ≤ 49 + 5 * actP S v; omega), (by show _ ≤ 5866 + 826 * actP S v; omega)⟩ (fun _ _ _ _ _ h => h.elim) (fun v w' H locs hp hW hS => ?_)
                    obtain ⟨rfl, rfl⟩ := hp
                    refine lv_iconst (v := nI 0) hx hb dL_act_299 (by decide) ?_
                    refine kc_SH 4 (c_L_does4 l G A ad dm ct S t0 hst hK hI hd7 (nI (lowN (v >>> (nI 5 &&& 31)) 6)) (nI 0)) F hE hW hS kw_279 kw_280 kw_0 kw_281 (by decide +kernel) rfl ⟨rfl, rfl⟩ ⟨Nat.le_of_ble_eq_true rfl, Nat.le_of_ble_eq_true rfl⟩ hl.1 rfl (Nat.le_of_ble_eq_true rfl) dL_act_300 ⟨(by show _ ≤ 49 + 5 * actP S v; omega), (by show _ ≤ 5866 + 826 * actP S v; omega)⟩ (fun v9 w' H locs hp hW hS => ?_)
                    obtain ⟨ad2, dm2, ct2, rfl, hF2, hK2, rfl⟩ := hp
                    exact kr_i F hr hlk hE hW hS (by omega) (by omega) dL_act_303 ⟨_, _, _, rfl, hF2, by rw [act_8 (N := 6) (by omega) (fun q => c7 q.2) (by rw [if_neg (by rw [hob]; decide)])]; exact hK2, (congrArg (fun q : SG × Int32 => some (Value.int q.2)) (act_8 (N := 6) (by omega) (fun q => c7 q.2) (by rw [if_neg (by rw [hob]; decide)]))).symm⟩
                  · exact absurd c9 (by decide)
                | true =>
                  have hl : lv_has ls 7 [(4, .int (kyV v)), (3, .int (nI (lowN v 32))), (2, .int (nI 1)), (0, .ref (ad (0, 0))), (1, .int v)] := hl
                  refine nz_eq (tgt := 294) hx hb dL_act_286 (by decide) (by decide) (fun c9 => ?_) (fun c9 => ?_)
                  · exact absurd c9 (by decide)
                  · refine lv_bipush (v := nI 30) hx hb dL_act_289 (by decide) ?_
                    refine lv_goto (tgt := 296) hx hb dL_act_291 (by decide) ?_
                    refine kc_S 2 (c_L_low l G A ad dm ct (v >>> (nI 5 &&& 31)) 30 (by decide) (by decide)) F hE hW hS kw_272 kw_273 kw_0 kw_274 (by decide +kernel) rfl ⟨rfl, rfl⟩ ⟨Nat.le_of_ble_eq_true rfl, Nat.le_of_ble_eq_true rfl⟩ hl.1 rfl (Nat.le_of_ble_eq_true rfl) dL_act_296 ⟨(by show _ ≤ 49 + 5 * actP S v; omega), (by show _ ≤ 5866 + 826 * actP S v; omega)⟩ (fun _ _ _ _ _ h => h.elim) (fun v w' H locs hp hW hS => ?_)
                    obtain ⟨rfl, rfl⟩ := hp
                    refine lv_iconst (v := nI 0) hx hb dL_act_299 (by decide) ?_
                    refine kc_SH 4 (c_L_does4 l G A ad dm ct S t0 hst hK hI hd7 (nI (lowN (v >>> (nI 5 &&& 31)) 30)) (nI 0)) F hE hW hS kw_279 kw_280 kw_0 kw_281 (by decide +kernel) rfl ⟨rfl, rfl⟩ ⟨Nat.le_of_ble_eq_true rfl, Nat.le_of_ble_eq_true rfl⟩ hl.1 rfl (Nat.le_of_ble_eq_true rfl) dL_act_300 ⟨(by show _ ≤ 49 + 5 * actP S v; omega), (by show _ ≤ 5866 + 826 * actP S v; omega)⟩ (fun v9 w' H locs hp hW hS => ?_)
                    obtain ⟨ad2, dm2, ct2, rfl, hF2, hK2, rfl⟩ := hp
                    exact kr_i F hr hlk hE hW hS (by omega) (by omega) dL_act_303 ⟨_, _, _, rfl, hF2, by rw [act_8 (N := 30) (by omega) (fun q => c7 q.2) (by rw [if_pos hob])]; exact hK2, (congrArg (fun q : SG × Int32 => some (Value.int q.2)) (act_8 (N := 30) (by omega) (fun q => c7 q.2) (by rw [if_pos hob]))).symm⟩
              · refine lv_aload_n hx hb dL_act_263 rfl (lv_at hl 3 rfl) ?_
                refine lv_iconst (v := nI 5) hx hb dL_act_264 (by decide) ?_
                refine lv_iload_n hx hb dL_act_265 rfl (lv_at hl 4 rfl) ?_
                refine lv_iconst (v := nI 5) hx hb dL_act_266 (by decide) ?_
                refine lv_ishr hx hb dL_act_267 ?_
                refine lv_bipush (v := nI 8) hx hb dL_act_268 (by decide) ?_
                refine kc_S 2 (c_L_low l G A ad dm ct (v >>> (nI 5 &&& 31)) 8 (by decide) (by decide)) F hE hW hS kw_272 kw_273 kw_0 kw_274 (by decide +kernel) rfl ⟨rfl, rfl⟩ ⟨Nat.le_of_ble_eq_true rfl, Nat.le_of_ble_eq_true rfl⟩ hl.1 rfl (Nat.le_of_ble_eq_true rfl) dL_act_270 ⟨(by show _ ≤ 49 + 5 * actP S v; omega), (by show _ ≤ 5866 + 826 * actP S v; omega)⟩ (fun _ _ _ _ _ h => h.elim) (fun v w' H locs hp hW hS => ?_)
                obtain ⟨rfl, rfl⟩ := hp
                refine lv_iconst (v := nI 0) hx hb dL_act_273 (by decide) ?_
                refine kc_SH 4 (c_L_does5 l G A ad dm ct S t0 hst hK hI hd7 (nI (lowN (v >>> (nI 5 &&& 31)) 8)) (nI 0)) F hE hW hS kw_279 kw_280 kw_0 kw_281 (by decide +kernel) rfl ⟨rfl, rfl⟩ ⟨Nat.le_of_ble_eq_true rfl, Nat.le_of_ble_eq_true rfl⟩ hl.1 rfl (Nat.le_of_ble_eq_true rfl) dL_act_274 ⟨(by show _ ≤ 49 + 5 * actP S v; omega), (by show _ ≤ 5866 + 826 * actP S v; omega)⟩ (fun v9 w' H locs hp hW hS => ?_)
                obtain ⟨ad2, dm2, ct2, rfl, hF2, hK2, rfl⟩ := hp
                refine lv_goto (tgt := 303) hx hb dL_act_277 (by decide) ?_
                exact kr_i F hr hlk hE hW hS (by omega) (by omega) dL_act_303 ⟨_, _, _, rfl, hF2, by rw [act_7 c6 c7]; exact hK2, (congrArg (fun q : SG × Int32 => some (Value.int q.2)) (act_7 c6 c7)).symm⟩
          · refine lv_aload_n hx hb dL_act_237 rfl (lv_at hl 3 rfl) ?_
            refine lv_iconst (v := nI 3) hx hb dL_act_238 (by decide) ?_
            refine lv_iload hx hb dL_act_239 (lv_at hl 0 rfl) ?_
            refine lv_iconst (v := nI 0) hx hb dL_act_241 (by decide) ?_
            refine kc_SH 4 (c_L_does3 l G A ad dm ct S t0 hst hK hI hd7 (kyV v) (nI 0)) F hE hW hS kw_279 kw_280 kw_0 kw_281 (by decide +kernel) rfl ⟨rfl, rfl⟩ ⟨Nat.le_of_ble_eq_true rfl, Nat.le_of_ble_eq_true rfl⟩ hl.1 rfl (Nat.le_of_ble_eq_true rfl) dL_act_242 ⟨(by show _ ≤ 49 + 5 * actP S v; omega), (by show _ ≤ 5866 + 826 * actP S v; omega)⟩ (fun v9 w' H locs hp hW hS => ?_)
            obtain ⟨ad2, dm2, ct2, rfl, hF2, hK2, rfl⟩ := hp
            refine lv_goto (tgt := 303) hx hb dL_act_245 (by decide) ?_
            exact kr_i F hr hlk hE hW hS (by omega) (by omega) dL_act_303 ⟨_, _, _, rfl, hF2, by rw [act_6 c5]; exact hK2, (congrArg (fun q : SG × Int32 => some (Value.int q.2)) (act_6 c5)).symm⟩
        · refine lv_iload_n hx hb dL_act_213 rfl (lv_at hl 1 rfl) ?_
          refine lv_bipush (v := nI 28) hx hb dL_act_214 (by decide) ?_
          refine nc_ge (tgt := 226) hx hb dL_act_216 (by decide) (by omega) (by omega) (fun c5 => ?_) (fun c5 => ?_)
          · skip
            obtain ⟨lv, lev, lo, hi, ri, sz, ky, vl, go, rt, ep, wq, wn, cn, op, cl, ca, ce, kc, nb⟩ := S
            have hH : HKF G ad dm ct lv lev lo hi ri sz ky vl go rt ep wq wn cn op cl ca ce kc nb := hK
            refine lv_aload_n hx hb dL_act_226 rfl (lv_at hl 3 rfl) ?_
            refine kc_V 0 (c_X2_recycle l G A ad dm ct lv lev lo hi ri sz ky vl go rt ep wq wn cn op cl ca ce kc nb hH t0 hI) F hE hW hS (0, 0) hH.1.1 hH.2.1 rfl [] rfl kw_261 kw_262 kw_263 kw_1 kw_264 (by decide +kernel) rfl ⟨rfl, rfl⟩ ⟨Nat.le_of_ble_eq_true rfl, Nat.le_of_ble_eq_true rfl⟩ hl.1 rfl (Nat.le_of_ble_eq_true rfl) dL_act_227 ⟨(by show _ ≤ 49 + 5 * actP (lv, lev, lo, hi, ri, sz, ky, vl, go, rt, ep, wq, wn, cn, op, cl, ca, ce, kc, nb) v; omega), (by show _ ≤ 5866 + 826 * actP (lv, lev, lo, hi, ri, sz, ky, vl, go, rt, ep, wq, wn, cn, op, cl, ca, ce, kc, nb) v; omega)⟩ (fun _ _ _ _ _ h => h.elim) (fun v w' H locs hp hW hS => ?_)
            obtain ⟨dm2, ct2, rfl, hK2, hF2, rfl⟩ := hp
            exact kr_i F hr hlk hE hW hS (by omega) (by omega) dL_act_230 ⟨_, _, _, rfl, hF2, by rw [act_5 (s := (lv, lev, lo, hi, ri, sz, ky, vl, go, rt, ep, wq, wn, cn, op, cl, ca, ce, kc, nb)) (v := v) (by omega)]; exact hK2, (congrArg (fun q : SG × Int32 => some (Value.int q.2)) (act_5 (s := (lv, lev, lo, hi, ri, sz, ky, vl, go, rt, ep, wq, wn, cn, op, cl, ca, ce, kc, nb)) (v := v) (by omega))).symm⟩
          · skip
            obtain ⟨lv, lev, lo, hi, ri, sz, ky, vl, go, rt, ep, wq, wn, cn, op, cl, ca, ce, kc, nb⟩ := S
            have hH : HKF G ad dm ct lv lev lo hi ri sz ky vl go rt ep wq wn cn op cl ca ce kc nb := hK
            refine lv_aload_n hx hb dL_act_219 rfl (lv_at hl 3 rfl) ?_
            refine kc_V 0 (c_X2_takeOut l G A ad dm ct lv lev lo hi ri sz ky vl go rt ep wq wn cn op cl ca ce kc nb hH t0 hI) F hE hW hS (0, 0) hH.1.1 hH.2.1 rfl [] rfl kw_470 kw_471 kw_472 kw_1 kw_473 (by decide +kernel) rfl ⟨rfl, rfl⟩ ⟨Nat.le_of_ble_eq_true rfl, Nat.le_of_ble_eq_true rfl⟩ hl.1 rfl (Nat.le_of_ble_eq_true rfl) dL_act_220 ⟨(by show _ ≤ 49 + 5 * actP (lv, lev, lo, hi, ri, sz, ky, vl, go, rt, ep, wq, wn, cn, op, cl, ca, ce, kc, nb) v; omega), (by show _ ≤ 5866 + 826 * actP (lv, lev, lo, hi, ri, sz, ky, vl, go, rt, ep, wq, wn, cn, op, cl, ca, ce, kc, nb) v; omega)⟩ (fun _ _ _ _ _ h => h.elim) (fun v w' H locs hp hW hS => ?_)
            obtain ⟨ct2, r9, rfl, hF2, hT9, hK2, rfl⟩ := hp
            obtain rfl := touF_eq hI hT9
            refine lv_goto (tgt := 230) hx hb dL_act_223 (by decide) ?_
            exact kr_i F hr hlk hE hW hS (by omega) (by omega) dL_act_230 ⟨_, _, _, rfl, hF2, by rw [act_4 (s := (lv, lev, lo, hi, ri, sz, ky, vl, go, rt, ep, wq, wn, cn, op, cl, ca, ce, kc, nb)) (v := v) (by omega) (by omega)]; exact hK2, (congrArg (fun q : SG × Int32 => some (Value.int q.2)) (act_4 (s := (lv, lev, lo, hi, ri, sz, ky, vl, go, rt, ep, wq, wn, cn, op, cl, ca, ce, kc, nb)) (v := v) (by omega) (by omega))).symm⟩
      · refine lv_iload_n hx hb dL_act_186 rfl (lv_at hl 1 rfl) ?_
        refine lv_bipush (v := nI 25) hx hb dL_act_187 (by decide) ?_
        refine nc_ge (tgt := 202) hx hb dL_act_189 (by decide) (by omega) (by omega) (fun c4 => ?_) (fun c4 => ?_)
        · have hpp : actP S v = (paS 1024 S).2 := actP_25 (by omega)
          obtain ⟨lv, lev, lo, hi, ri, sz, ky, vl, go, rt, ep, wq, wn, cn, op, cl, ca, ce, kc, nb⟩ := S
          have hH : HKF G ad dm ct lv lev lo hi ri sz ky vl go rt ep wq wn cn op cl ca ce kc nb := hK
          refine lv_aload_n hx hb dL_act_202 rfl (lv_at hl 3 rfl) ?_
          refine kc_V 0 (c_X2_postAll l G A ad dm ct lv lev lo hi ri sz ky vl go rt ep wq wn cn op cl ca ce kc nb hH t0 hI) F hE hW hS (0, 0) hH.1.1 hH.2.1 rfl [] rfl kw_130 kw_131 kw_132 kw_1 kw_133 (by decide +kernel) rfl ⟨rfl, rfl⟩ ⟨Nat.le_of_ble_eq_true rfl, Nat.le_of_ble_eq_true rfl⟩ hl.1 rfl (Nat.le_of_ble_eq_true rfl) dL_act_203 ⟨(by show _ ≤ 49 + 5 * actP (lv, lev, lo, hi, ri, sz, ky, vl, go, rt, ep, wq, wn, cn, op, cl, ca, ce, kc, nb) v; rw [hpp]; omega), (by show _ ≤ 5866 + 826 * actP (lv, lev, lo, hi, ri, sz, ky, vl, go, rt, ep, wq, wn, cn, op, cl, ca, ce, kc, nb) v; rw [hpp]; omega)⟩ (fun _ _ _ _ _ h => h.elim) (fun v w' H locs hp hW hS => ?_)
          obtain ⟨ad2, dm2, ct2, rfl, hF2, hK2, rfl⟩ := hp
          exact kr_i F hr hlk hE hW hS (by rw [hpp]; omega) (by rw [hpp]; omega) dL_act_206 ⟨_, _, _, rfl, hF2, by rw [act_3 (s := (lv, lev, lo, hi, ri, sz, ky, vl, go, rt, ep, wq, wn, cn, op, cl, ca, ce, kc, nb)) (v := v) (by omega)]; exact hK2, (congrArg (fun q : SG × Int32 => some (Value.int q.2)) (act_3 (s := (lv, lev, lo, hi, ri, sz, ky, vl, go, rt, ep, wq, wn, cn, op, cl, ca, ce, kc, nb)) (v := v) (by omega))).symm⟩
        · refine lv_aload_n hx hb dL_act_192 rfl (lv_at hl 3 rfl) ?_
          refine lv_iconst (v := nI 2) hx hb dL_act_193 (by decide) ?_
          refine lv_iconst (v := nI 0) hx hb dL_act_194 (by decide) ?_
          refine lv_iconst (v := nI 0) hx hb dL_act_195 (by decide) ?_
          refine kc_SH 4 (c_L_does2 l G A ad dm ct S t0 hst hK hI hd7 (nI 0) (nI 0)) F hE hW hS kw_279 kw_280 kw_0 kw_281 (by decide +kernel) rfl ⟨rfl, rfl⟩ ⟨Nat.le_of_ble_eq_true rfl, Nat.le_of_ble_eq_true rfl⟩ hl.1 rfl (Nat.le_of_ble_eq_true rfl) dL_act_196 ⟨(by show _ ≤ 49 + 5 * actP S v; omega), (by show _ ≤ 5866 + 826 * actP S v; omega)⟩ (fun v9 w' H locs hp hW hS => ?_)
          obtain ⟨ad2, dm2, ct2, rfl, hF2, hK2, rfl⟩ := hp
          refine lv_goto (tgt := 206) hx hb dL_act_199 (by decide) ?_
          exact kr_i F hr hlk hE hW hS (by omega) (by omega) dL_act_206 ⟨_, _, _, rfl, hF2, by rw [act_2 c2 c4]; exact hK2, (congrArg (fun q : SG × Int32 => some (Value.int q.2)) (act_2 c2 c4)).symm⟩
    · refine lv_iconst (v := nI 0) hx hb dL_act_115 (by decide) ?_
      refine lv_istore (lv' := [(5, .int (nI 0)), (4, .int (kyV v)), (3, .int (nI (lowN v 32))), (2, .int (bI ob)), (0, .ref (ad (0, 0))), (1, .int v)]) hx hb dL_act_116 hl (by decide) rfl (fun ls hl => ?_)
      refine lv_iconst (v := nI 0) hx hb dL_act_118 (by decide) ?_
      refine lv_istore (lv' := [(6, .int (nI 0)), (5, .int (nI 0)), (4, .int (kyV v)), (3, .int (nI (lowN v 32))), (2, .int (bI ob)), (0, .ref (ad (0, 0))), (1, .int v)]) hx hb dL_act_119 hl (by decide) rfl (fun ls hl => ?_)
      have hBB : ∃ B, ((lowN v 32 < 19 ∧ B = 1) ∨ (19 ≤ lowN v 32 ∧ B = 7)) := by
        by_cases h : lowN v 32 < 19
        · exact ⟨1, Or.inl ⟨h, rfl⟩⟩
        · exact ⟨7, Or.inr ⟨by omega, rfl⟩⟩
      obtain ⟨B, hB⟩ := hBB
      suffices loop : ∀ (d k : Nat) (q : Int32) (S1 : SG) (ad1 : Lb → Nat) (dm1 : Lb → Prop) (ct1 : Lb → va_E) (H : Heap) (locs : List Loc) (ls : Array Slot) (cells slots : Nat), k + d = B → tkL (kyV v) d k S1 q = tkL (kyV v) B 0 S (nI 0) → HK G ad1 dm1 ct1 S1 → Inv S1 t0 → FH ad dm ct ad1 dm1 ct1 → ¬ dm1 (7, 0) → cells ≤ 7 * k → slots ≤ 838 * k → wd G A (ad1, dm1, ct1) H → va_S A s.heap H locs → lv_has ls 7 [(6, .int (nI k)), (5, .int q), (4, .int (kyV v)), (3, .int (nI (lowN v 32))), (2, .int (bI ob)), (0, .ref (ad (0, 0))), (1, .int v)] → W _ l e _ s m _ below meth c H locs cells slots _ (F0 m 121 ls []) from
        loop B 0 (nI 0) S ad dm ct H locs ls _ _ (Nat.zero_add _) rfl hK hI FH.rf hd7 (Nat.le_refl _) (Nat.le_refl _) hW hS (lv_sub hl [0, 1, 2, 3, 4, 5, 6] rfl)
      clear hl hS hW
      intro d
      induction d with
      | zero =>
        intro k q S1 ad1 dm1 ct1 H locs ls cells slots hkd htk hK1 hI1 hF1 hd1 hc1 hs1 hW hS hl
        have hB7 : B ≤ 7 := by omega
        refine lv_iload hx hb dL_act_121 (lv_at hl 0 rfl) ?_
        refine lv_iload_n hx hb dL_act_123 rfl (lv_at hl 3 rfl) ?_
        refine lv_bipush (v := nI 19) hx hb dL_act_124 (by decide) ?_
        refine nc_ge (tgt := 133) hx hb dL_act_126 (by decide) (by omega) (by omega) (fun c3 => ?_) (fun c3 => ?_)
        · have hb7 : B = 7 := by omega
          refine lv_bipush (v := nI 7) hx hb dL_act_133 (by decide) ?_
          refine nc_ge (tgt := 174) hx hb dL_act_135 (by decide) (by omega) (by omega) (fun c4 => ?_) (fun c4 => ?_)
          · have htk : (S1, q) = tkL (kyV v) B 0 S (nI 0) := htk
            refine lv_iload hx hb dL_act_174 (lv_at hl 1 rfl) ?_
            refine lv_ldc (v := (1073741823)) hx hb F.2.2.2.1 (F.2.2.2.2 _ kw_469) dL_act_176 ?_
            refine lv_iand hx hb dL_act_178 ?_
            have e9 : actF S v = (S1, q &&& (1073741823 : Int32)) := by rw [act_1 c1 c2 hB, ← htk]
            exact kr_i F hr hlk hE hW hS (by omega) (by omega) dL_act_179 ⟨_, _, _, rfl, hF1, by rw [e9]; exact hK1, (congrArg (fun q : SG × Int32 => some (Value.int q.2)) (e9)).symm⟩
          · exfalso; omega
        · have hb1 : B = 1 := by omega
          refine lv_iconst (v := nI 1) hx hb dL_act_129 (by decide) ?_
          refine lv_goto (tgt := 135) hx hb dL_act_130 (by decide) ?_
          refine nc_ge (tgt := 174) hx hb dL_act_135 (by decide) (by omega) (by omega) (fun c4 => ?_) (fun c4 => ?_)
          · have htk : (S1, q) = tkL (kyV v) B 0 S (nI 0) := htk
            refine lv_iload hx hb dL_act_174 (lv_at hl 1 rfl) ?_
            refine lv_ldc (v := (1073741823)) hx hb F.2.2.2.1 (F.2.2.2.2 _ kw_469) dL_act_176 ?_
            refine lv_iand hx hb dL_act_178 ?_
            have e9 : actF S v = (S1, q &&& (1073741823 : Int32)) := by rw [act_1 c1 c2 hB, ← htk]
            exact kr_i F hr hlk hE hW hS (by omega) (by omega) dL_act_179 ⟨_, _, _, rfl, hF1, by rw [e9]; exact hK1, (congrArg (fun q : SG × Int32 => some (Value.int q.2)) (e9)).symm⟩
          · exfalso; omega
      | succ d ih =>
        intro k q S1 ad1 dm1 ct1 H locs ls cells slots hkd htk hK1 hI1 hF1 hd1 hc1 hs1 hW hS hl
        have hB7 : B ≤ 7 := by omega
        refine lv_iload hx hb dL_act_121 (lv_at hl 0 rfl) ?_
        refine lv_iload_n hx hb dL_act_123 rfl (lv_at hl 3 rfl) ?_
        refine lv_bipush (v := nI 19) hx hb dL_act_124 (by decide) ?_
        refine nc_ge (tgt := 133) hx hb dL_act_126 (by decide) (by omega) (by omega) (fun c3 => ?_) (fun c3 => ?_)
        · have hb7 : B = 7 := by omega
          refine lv_bipush (v := nI 7) hx hb dL_act_133 (by decide) ?_
          refine nc_ge (tgt := 174) hx hb dL_act_135 (by decide) (by omega) (by omega) (fun c4 => ?_) (fun c4 => ?_)
          · exfalso; omega
          · refine lv_iload hx hb dL_act_138 (lv_at hl 2 rfl) ?_
            refine lv_iload hx hb dL_act_140 (lv_at hl 0 rfl) ?_
            refine lv_iadd hx hb dL_act_142 ?_
            refine lv_sipush (v := nI 200) hx hb dL_act_143 (by decide) ?_
            refine lv_icmp_ge (tgt := 174) hx hb dL_act_146 (by decide) (fun c5 => ?_) (fun c5 => ?_)
            · have htk : (S1, q) = tkL (kyV v) B 0 S (nI 0) := by
                rw [← htk]
                exact (if_neg (Int32.not_lt.mpr c5)).symm
              refine lv_iload hx hb dL_act_174 (lv_at hl 1 rfl) ?_
              refine lv_ldc (v := (1073741823)) hx hb F.2.2.2.1 (F.2.2.2.2 _ kw_469) dL_act_176 ?_
              refine lv_iand hx hb dL_act_178 ?_
              have e9 : actF S v = (S1, q &&& (1073741823 : Int32)) := by rw [act_1 c1 c2 hB, ← htk]
              exact kr_i F hr hlk hE hW hS (by omega) (by omega) dL_act_179 ⟨_, _, _, rfl, hF1, by rw [e9]; exact hK1, (congrArg (fun q : SG × Int32 => some (Value.int q.2)) (e9)).symm⟩
            · refine lv_iload hx hb dL_act_149 (lv_at hl 1 rfl) ?_
              refine lv_bipush (v := nI 31) hx hb dL_act_151 (by decide) ?_
              refine lv_imul hx hb dL_act_153 ?_
              refine lv_aload_n hx hb dL_act_154 rfl (lv_at hl 5 rfl) ?_
              refine lv_iconst (v := nI 1) hx hb dL_act_155 (by decide) ?_
              refine lv_iload hx hb dL_act_156 (lv_at hl 2 rfl) ?_
              refine lv_iload hx hb dL_act_158 (lv_at hl 0 rfl) ?_
              refine lv_iadd hx hb dL_act_160 ?_
              refine lv_iconst (v := nI 0) hx hb dL_act_161 (by decide) ?_
              refine kc_SH 4 (c_L_does1 l G A ad1 dm1 ct1 S1 t0 hst hK1 hI1 hd1 (kyV v + nI k) (nI 0)) F hE hW hS kw_279 kw_280 kw_0 kw_281 (by decide +kernel) rfl ⟨rfl, rfl⟩ ⟨Nat.le_of_ble_eq_true rfl, Nat.le_of_ble_eq_true rfl⟩ hl.1 (by rw [hF1.2]; rfl) (Nat.le_of_ble_eq_true rfl) dL_act_162 ⟨(by show _ ≤ 49 + 5 * actP S v; omega), (by show _ ≤ 5866 + 826 * actP S v; omega)⟩ (fun v9 w' H locs hp hW hS => ?_)
              obtain ⟨ad2, dm2, ct2, rfl, hF2, hK2, rfl⟩ := hp
              refine lv_iadd hx hb dL_act_165 ?_
              refine lv_istore (lv' := [(5, .int ((q * (nI 31)) + ((doF 1 S1 (kyV v + nI k) (nI 0)).2))), (6, .int (nI k)), (4, .int (kyV v)), (3, .int (nI (lowN v 32))), (2, .int (bI ob)), (0, .ref (ad (0, 0))), (1, .int v)]) hx hb dL_act_166 hl (by decide) rfl (fun ls hl => ?_)
              refine lv_iinc (v := nI (k + 1)) (lv' := [(6, .int (nI (k + 1))), (5, .int ((q * (nI 31)) + ((doF 1 S1 (kyV v + nI k) (nI 0)).2))), (4, .int (kyV v)), (3, .int (nI (lowN v 32))), (2, .int (bI ob)), (0, .ref (ad (0, 0))), (1, .int v)]) hx hb dL_act_168 hl (k := 1) rfl (ki1 _) (by decide) rfl (fun ls hl => ?_)
              refine lv_goto (tgt := 121) hx hb dL_act_171 (by decide) ?_
              refine ih (k + 1) _ (doF 1 S1 (kyV v + nI k) (nI 0)).1 ad2 dm2 ct2 _ _ _ _ _ (by omega) ?_ hK2 (do_tak hI1) (hF1.tr hF2) (fun z9 => hd1 ((hF2.1 (7, 0) (by decide)).2.2.mp z9)) (by omega) (by omega) hW hS (lv_sub hl [0, 1, 2, 3, 4, 5, 6] rfl)
              rw [← htk]
              exact (if_pos (Int32.not_le.mp c5)).symm
        · have hb1 : B = 1 := by omega
          refine lv_iconst (v := nI 1) hx hb dL_act_129 (by decide) ?_
          refine lv_goto (tgt := 135) hx hb dL_act_130 (by decide) ?_
          refine nc_ge (tgt := 174) hx hb dL_act_135 (by decide) (by omega) (by omega) (fun c4 => ?_) (fun c4 => ?_)
          · exfalso; omega
          · refine lv_iload hx hb dL_act_138 (lv_at hl 2 rfl) ?_
            refine lv_iload hx hb dL_act_140 (lv_at hl 0 rfl) ?_
            refine lv_iadd hx hb dL_act_142 ?_
            refine lv_sipush (v := nI 200) hx hb dL_act_143 (by decide) ?_
            refine lv_icmp_ge (tgt := 174) hx hb dL_act_146 (by decide) (fun c5 => ?_) (fun c5 => ?_)
            · have htk : (S1, q) = tkL (kyV v) B 0 S (nI 0) := by
                rw [← htk]
                exact (if_neg (Int32.not_lt.mpr c5)).symm
              refine lv_iload hx hb dL_act_174 (lv_at hl 1 rfl) ?_
              refine lv_ldc (v := (1073741823)) hx hb F.2.2.2.1 (F.2.2.2.2 _ kw_469) dL_act_176 ?_
              refine lv_iand hx hb dL_act_178 ?_
              have e9 : actF S v = (S1, q &&& (1073741823 : Int32)) := by rw [act_1 c1 c2 hB, ← htk]
              exact kr_i F hr hlk hE hW hS (by omega) (by omega) dL_act_179 ⟨_, _, _, rfl, hF1, by rw [e9]; exact hK1, (congrArg (fun q : SG × Int32 => some (Value.int q.2)) (e9)).symm⟩
            · refine lv_iload hx hb dL_act_149 (lv_at hl 1 rfl) ?_
              refine lv_bipush (v := nI 31) hx hb dL_act_151 (by decide) ?_
              refine lv_imul hx hb dL_act_153 ?_
              refine lv_aload_n hx hb dL_act_154 rfl (lv_at hl 5 rfl) ?_
              refine lv_iconst (v := nI 1) hx hb dL_act_155 (by decide) ?_
              refine lv_iload hx hb dL_act_156 (lv_at hl 2 rfl) ?_
              refine lv_iload hx hb dL_act_158 (lv_at hl 0 rfl) ?_
              refine lv_iadd hx hb dL_act_160 ?_
              refine lv_iconst (v := nI 0) hx hb dL_act_161 (by decide) ?_
              refine kc_SH 4 (c_L_does1 l G A ad1 dm1 ct1 S1 t0 hst hK1 hI1 hd1 (kyV v + nI k) (nI 0)) F hE hW hS kw_279 kw_280 kw_0 kw_281 (by decide +kernel) rfl ⟨rfl, rfl⟩ ⟨Nat.le_of_ble_eq_true rfl, Nat.le_of_ble_eq_true rfl⟩ hl.1 (by rw [hF1.2]; rfl) (Nat.le_of_ble_eq_true rfl) dL_act_162 ⟨(by show _ ≤ 49 + 5 * actP S v; omega), (by show _ ≤ 5866 + 826 * actP S v; omega)⟩ (fun v9 w' H locs hp hW hS => ?_)
              obtain ⟨ad2, dm2, ct2, rfl, hF2, hK2, rfl⟩ := hp
              refine lv_iadd hx hb dL_act_165 ?_
              refine lv_istore (lv' := [(5, .int ((q * (nI 31)) + ((doF 1 S1 (kyV v + nI k) (nI 0)).2))), (6, .int (nI k)), (4, .int (kyV v)), (3, .int (nI (lowN v 32))), (2, .int (bI ob)), (0, .ref (ad (0, 0))), (1, .int v)]) hx hb dL_act_166 hl (by decide) rfl (fun ls hl => ?_)
              refine lv_iinc (v := nI (k + 1)) (lv' := [(6, .int (nI (k + 1))), (5, .int ((q * (nI 31)) + ((doF 1 S1 (kyV v + nI k) (nI 0)).2))), (4, .int (kyV v)), (3, .int (nI (lowN v 32))), (2, .int (bI ob)), (0, .ref (ad (0, 0))), (1, .int v)]) hx hb dL_act_168 hl (k := 1) rfl (ki1 _) (by decide) rfl (fun ls hl => ?_)
              refine lv_goto (tgt := 121) hx hb dL_act_171 (by decide) ?_
              refine ih (k + 1) _ (doF 1 S1 (kyV v + nI k) (nI 0)).1 ad2 dm2 ct2 _ _ _ _ _ (by omega) ?_ hK2 (do_tak hI1) (hF1.tr hF2) (fun z9 => hd1 ((hF2.1 (7, 0) (by decide)).2.2.mp z9)) (by omega) (by omega) hW hS (lv_sub hl [0, 1, 2, 3, 4, 5, 6] rfl)
              rw [← htk]
              exact (if_pos (Int32.not_le.mp c5)).symm
  · refine lv_aload_n hx hb dL_act_74 rfl (lv_at hl 3 rfl) ?_
    refine lv_iconst (v := nI 0) hx hb dL_act_75 (by decide) ?_
    refine lv_iload hx hb dL_act_76 (lv_at hl 0 rfl) ?_
    cases ob with
    | false =>
      have hl : lv_has ls 7 [(4, .int (kyV v)), (3, .int (nI (lowN v 32))), (2, .int (nI 0)), (0, .ref (ad (0, 0))), (1, .int v)] := hl
      refine lv_iload_n hx hb dL_act_78 rfl (lv_at hl 2 rfl) ?_
      refine nz_eq (tgt := 95) hx hb dL_act_79 (by decide) (by decide) (fun c9 => ?_) (fun c9 => ?_)
      · refine lv_iload_n hx hb dL_act_95 rfl (lv_at hl 4 rfl) ?_
        refine lv_bipush (v := nI 8) hx hb dL_act_96 (by decide) ?_
        refine lv_ishr hx hb dL_act_98 ?_
        refine lv_sipush (v := nI 10000) hx hb dL_act_99 (by decide) ?_
        refine kc_S 2 (c_L_low l G A ad dm ct (v >>> (nI 8 &&& 31)) 10000 (by decide) (by decide)) F hE hW hS kw_272 kw_273 kw_0 kw_274 (by decide +kernel) rfl ⟨rfl, rfl⟩ ⟨Nat.le_of_ble_eq_true rfl, Nat.le_of_ble_eq_true rfl⟩ hl.1 rfl (Nat.le_of_ble_eq_true rfl) dL_act_102 ⟨(by show _ ≤ 49 + 5 * actP S v; omega), (by show _ ≤ 5866 + 826 * actP S v; omega)⟩ (fun _ _ _ _ _ h => h.elim) (fun v w' H locs hp hW hS => ?_)
        obtain ⟨rfl, rfl⟩ := hp
        have ev : vlV v = nI (lowN (v >>> (nI 8 &&& 31)) 10000) := by unfold vlV; rw [if_neg (by rw [hob]; decide)]
        rw [← ev]
        refine kc_SH 4 (c_L_does0 l G A ad dm ct S t0 hst hK hI hd7 (kyV v) (vlV v)) F hE hW hS kw_279 kw_280 kw_0 kw_281 (by decide +kernel) rfl ⟨rfl, rfl⟩ ⟨Nat.le_of_ble_eq_true rfl, Nat.le_of_ble_eq_true rfl⟩ hl.1 rfl (Nat.le_of_ble_eq_true rfl) dL_act_105 ⟨(by show _ ≤ 49 + 5 * actP S v; omega), (by show _ ≤ 5866 + 826 * actP S v; omega)⟩ (fun v9 w' H locs hp hW hS => ?_)
        obtain ⟨ad2, dm2, ct2, rfl, hF2, hK2, rfl⟩ := hp
        exact kr_i F hr hlk hE hW hS (by omega) (by omega) dL_act_108 ⟨_, _, _, rfl, hF2, by rw [act_0 c1]; exact hK2, (congrArg (fun q : SG × Int32 => some (Value.int q.2)) (act_0 c1)).symm⟩
      · exact absurd c9 (by decide)
    | true =>
      have hl : lv_has ls 7 [(4, .int (kyV v)), (3, .int (nI (lowN v 32))), (2, .int (nI 1)), (0, .ref (ad (0, 0))), (1, .int v)] := hl
      refine lv_iload_n hx hb dL_act_78 rfl (lv_at hl 2 rfl) ?_
      refine nz_eq (tgt := 95) hx hb dL_act_79 (by decide) (by decide) (fun c9 => ?_) (fun c9 => ?_)
      · exact absurd c9 (by decide)
      · refine lv_iload_n hx hb dL_act_82 rfl (lv_at hl 4 rfl) ?_
        refine lv_bipush (v := nI 8) hx hb dL_act_83 (by decide) ?_
        refine lv_ishr hx hb dL_act_85 ?_
        refine lv_sipush (v := nI 11000) hx hb dL_act_86 (by decide) ?_
        refine kc_S 2 (c_L_low l G A ad dm ct (v >>> (nI 8 &&& 31)) 11000 (by decide) (by decide)) F hE hW hS kw_272 kw_273 kw_0 kw_274 (by decide +kernel) rfl ⟨rfl, rfl⟩ ⟨Nat.le_of_ble_eq_true rfl, Nat.le_of_ble_eq_true rfl⟩ hl.1 rfl (Nat.le_of_ble_eq_true rfl) dL_act_89 ⟨(by show _ ≤ 49 + 5 * actP S v; omega), (by show _ ≤ 5866 + 826 * actP S v; omega)⟩ (fun _ _ _ _ _ h => h.elim) (fun v w' H locs hp hW hS => ?_)
        obtain ⟨rfl, rfl⟩ := hp
        have ev : vlV v = nI (lowN (v >>> (nI 8 &&& 31)) 11000) := by unfold vlV; rw [if_pos hob]
        refine lv_goto (tgt := 105) hx hb dL_act_92 (by decide) ?_
        rw [← ev]
        refine kc_SH 4 (c_L_does0 l G A ad dm ct S t0 hst hK hI hd7 (kyV v) (vlV v)) F hE hW hS kw_279 kw_280 kw_0 kw_281 (by decide +kernel) rfl ⟨rfl, rfl⟩ ⟨Nat.le_of_ble_eq_true rfl, Nat.le_of_ble_eq_true rfl⟩ hl.1 rfl (Nat.le_of_ble_eq_true rfl) dL_act_105 ⟨(by show _ ≤ 49 + 5 * actP S v; omega), (by show _ ≤ 5866 + 826 * actP S v; omega)⟩ (fun v9 w' H locs hp hW hS => ?_)
        obtain ⟨ad2, dm2, ct2, rfl, hF2, hK2, rfl⟩ := hp
        exact kr_i F hr hlk hE hW hS (by omega) (by omega) dL_act_108 ⟨_, _, _, rfl, hF2, by rw [act_0 c1]; exact hK2, (congrArg (fun q : SG × Int32 => some (Value.int q.2)) (act_0 c1)).symm⟩
