/-! The list: a new element. -/
set_option maxRecDepth 100000 in
set_option maxHeartbeats 4000000 in
theorem c_Jx4a65c_grow_92f84 (l : Launch) (G : GG) (A : Nat → Prop) (ad : Lb → Nat) (dm : Lb → Prop) (ct : Lb → va_E) (mcn : Int32) (sz cap : Nat) (f : Nat → Option Nat) (hL : LL G ad dm ct mcn sz cap f) (h512 : sz ≤ 512) (hD6 : ¬ dm (6, 0)) (hel : ∀ j, j < sz → isP1 ad dm ct (f j)) (hfull : sz = cap) :
    CT l yJx4a65c_grow_92f84 cJx4a65c_grow_92f84 4 (some (FieldType.array (FieldType.object "java/lang/Object"))) { frames := 5, cells := 1, slots := 800, locals := 84 } [.ref (ad (0, 2)), .int (nI (sz + 1))] G A (ad, dm, ct) (fun v w' => ∃ ad' dm' ct' cap' g, w' = (ad', dm', ct') ∧ v = some (.ref (ad' (0, 3))) ∧ dm' (0, 3) ∧ sz < cap' ∧ 10 ≤ cap' ∧ cap' ≤ 800 ∧ ct' (0, 2) = LO mcn (ad' (0, 3)) sz ∧ ct' (0, 3) = .inl (G.2.1 4, cap', .inr (.inr (.inr (.inr g)))) ∧ (∀ j, j < sz → g j = f j) ∧ XL ad dm ct ad' dm' ct') (fun _ => False) (1) (800) := by
  refine ct_of (by decide) (Nat.le_of_ble_eq_true rfl) ?_
  intro p e s m below meth c ls F hr hlk hnm hex hE hW hl
  have hx := F.1
  have hb := F.2.1
  have hS : va_S A s.heap s.heap [] := va_S.rf
  have hl : lv_has ls 4 [(0, .ref (ad (0, 2))), (1, .int (nI (sz + 1)))] := hl
  obtain ⟨a0, ha0⟩ : ∃ a, ad (0, 2) = a := ⟨_, rfl⟩
  have hl : lv_has ls 4 [(0, .ref a0), (1, .int (nI (sz + 1)))] := by rw [← ha0]; exact hl
  subst hfull
  obtain ⟨hD, ⟨hn3, hz, -, hO⟩ | ⟨hD3, hsc, h10, hcap, hO, hR⟩⟩ := hL
  · refine lv_aload_n hx hb dJx4a65c_grow_92f84_0 rfl (lv_at hl 0 rfl) ?_
    refine kg F hE hW (0, 2) hD ha0 hO rfl inA_JL 1 (by decide) kw_43 (v := .ref G.2.2.1) rfl dJx4a65c_grow_92f84_1 ?_
    refine va_tlen hx hb hE.2.1.2.2.2.2.2.2.2.2.2 hS (v := nI 0) rfl dJx4a65c_grow_92f84_4 ?_
    refine lv_istore_n (lv' := [(2, .int (nI 0)), (0, .ref a0), (1, .int (nI (sz + 1)))]) hx hb dJx4a65c_grow_92f84_5 rfl hl (by decide) rfl (fun ls hl => ?_)
    refine lv_iload_n hx hb dJx4a65c_grow_92f84_6 rfl (lv_at hl 0 rfl) ?_
    refine nz_gt (tgt := 20) hx hb dJx4a65c_grow_92f84_7 (by decide) (by omega) (fun c1 => ?_) (fun c1 => ?_)
    · exact absurd c1 (by omega)
    · refine lv_aload_n hx hb dJx4a65c_grow_92f84_10 rfl (lv_at hl 1 rfl) ?_
      refine kg F hE hW (0, 2) hD ha0 hO rfl inA_JL 1 (by decide) kw_43 (v := .ref G.2.2.1) rfl dJx4a65c_grow_92f84_11 ?_
      refine va_gets hx hb hE.2.1.2.2.2.2.2.2.2.2.1 hS F.2.2.2.1 (F.2.2.2.2 _ kw_41) (fun _ h => h) dJx4a65c_grow_92f84_14 ?_
      refine lv_acmp_eq (rx := some G.2.2.1) (ry := some G.2.2.1) (tgt := 45) hx hb dJx4a65c_grow_92f84_17 (by decide) (fun _ => ?_) (fun h => absurd rfl h)
      refine lv_aload_n hx hb dJx4a65c_grow_92f84_45 rfl (lv_at hl 1 rfl) ?_
      refine lv_bipush (v := nI 10) hx hb dJx4a65c_grow_92f84_46 (by decide) ?_
      refine lv_iload_n hx hb dJx4a65c_grow_92f84_48 rfl (lv_at hl 2 rfl) ?_
      refine va_mmax hx hb (F.2.2.1.trans hl.1.symm) F.2.2.2.1 (F.2.2.2.2 _ kw_259) (F.2.2.2.2 _ kw_229) (F.2.2.2.2 _ kw_11) (F.2.2.2.2 _ kw_230) (Nat.le_of_ble_eq_true rfl) (Nat.le_of_ble_eq_true rfl) (Nat.le_of_ble_eq_true rfl) (Nat.le_of_ble_eq_true rfl) dJx4a65c_grow_92f84_49 ?_
      refine ktop (max_10 (by omega)) ?_
      refine nq (C := "java/lang/Object") 4 F hE hW hS (0, 3) hn3 kw_260 kn_253 rfl 10 rfl (by decide) (by decide) (Nat.le_of_ble_eq_true rfl) (Nat.le_of_ble_eq_true rfl) dJx4a65c_grow_92f84_52 (fun ad1 dm1 ct1 H hW hN hS => ?_)
      have ha1 : ad1 (0, 2) = a0 := (hN.1 _ (by decide)).1.trans ha0
      have hO1 : ct1 (0, 2) = _ := (hN.1 _ (by decide)).2.trans hO
      have hd1 : dm1 (0, 2) := (hN.2.2 _).mpr (Or.inr hD)
      refine lv_dup_x1 hx hb dJx4a65c_grow_92f84_55 rfl rfl ?_
      refine kp F hE hW hS (0, 2) hd1 ha1 hO1 rfl inA_JL tyJx4a65c tyJx4a65c_ok nmJx4a65c 1 (by decide) kw_43 rfl rfl rfl (Nat.le_of_ble_eq_true rfl) dJx4a65c_grow_92f84_56 (fun ct1x H locs hW hc1 hf1 hS => ?_)
      exact kr_a F hr hlk hE hW hS (Nat.le_of_ble_eq_true rfl) (Nat.le_of_ble_eq_true rfl) (Or.inr ⟨_, rfl⟩) (Or.inr ⟨_, rfl⟩) dJx4a65c_grow_92f84_59 (⟨ad1, dm1, ct1x, 10, fun _ => none, rfl, rfl, (hN.2.2 _).mpr (Or.inl rfl), by omega, by omega, by omega, hc1, (hf1 _ (by decide)).trans hN.2.1, fun j hj => by omega, ⟨fun z z2 z3 => ⟨(hN.1 z z3).1, (hf1 z z2).trans (hN.1 z z3).2, by rw [hN.2.2]; simp [z3]⟩, ha1.trans ha0.symm, by rw [hN.2.2]; simp⟩⟩)
  · refine lv_aload_n hx hb dJx4a65c_grow_92f84_0 rfl (lv_at hl 0 rfl) ?_
    refine kg F hE hW (0, 2) hD ha0 hO rfl inA_JL 1 (by decide) kw_43 (v := .ref (ad (0, 3))) rfl dJx4a65c_grow_92f84_1 ?_
    refine kal 4 F hE hW (0, 3) hD3 rfl rfl hR dJx4a65c_grow_92f84_4 ?_
    refine lv_istore_n (lv' := [(2, .int (nI sz)), (0, .ref a0), (1, .int (nI (sz + 1)))]) hx hb dJx4a65c_grow_92f84_5 rfl hl (by decide) rfl (fun ls hl => ?_)
    refine lv_iload_n hx hb dJx4a65c_grow_92f84_6 rfl (lv_at hl 0 rfl) ?_
    refine nz_gt (tgt := 20) hx hb dJx4a65c_grow_92f84_7 (by decide) (by omega) (fun c1 => ?_) (fun c1 => ?_)
    · refine lv_iload_n hx hb dJx4a65c_grow_92f84_20 rfl (lv_at hl 0 rfl) ?_
      refine lv_iload_n hx hb dJx4a65c_grow_92f84_21 rfl (lv_at hl 2 rfl) ?_
      refine lv_iload_n hx hb dJx4a65c_grow_92f84_22 rfl (lv_at hl 0 rfl) ?_
      refine lv_isub hx hb dJx4a65c_grow_92f84_23 ?_
      refine ktop ((pk_sub (by omega)).trans (by rw [Nat.add_sub_cancel_left])) ?_
      refine lv_iload_n hx hb dJx4a65c_grow_92f84_24 rfl (lv_at hl 0 rfl) ?_
      refine lv_iconst (v := nI 1) hx hb dJx4a65c_grow_92f84_25 (by decide) ?_
      refine lv_ishr hx hb dJx4a65c_grow_92f84_26 ?_
      refine ktop (shr1 _ (by omega)) ?_
      refine kc_S 3 (c_J8_newLength_cabcc l G A ad dm ct sz h10 hcap) F hE hW hS kw_225 kw_226 kw_10 kw_227 (by decide +kernel) rfl ⟨rfl, rfl⟩ ⟨Nat.le_of_ble_eq_true rfl, Nat.le_of_ble_eq_true rfl⟩ hl.1 rfl (Nat.le_of_ble_eq_true rfl) dJx4a65c_grow_92f84_27 ⟨Nat.le_of_ble_eq_true rfl, Nat.le_of_ble_eq_true rfl⟩ (fun _ _ _ _ _ h => h.elim) (fun v w' H locs hp hW hS => ?_)
      obtain ⟨rfl, rfl⟩ := hp
      refine lv_istore_n (lv' := [(3, .int (nI (sz + sz / 2))), (2, .int (nI sz)), (0, .ref a0), (1, .int (nI (sz + 1)))]) hx hb dJx4a65c_grow_92f84_30 rfl hl (by decide) rfl (fun ls hl => ?_)
      refine lv_aload_n hx hb dJx4a65c_grow_92f84_31 rfl (lv_at hl 2 rfl) ?_
      refine lv_aload_n hx hb dJx4a65c_grow_92f84_32 rfl (lv_at hl 2 rfl) ?_
      refine kg F hE hW (0, 2) hD ha0 hO rfl inA_JL 1 (by decide) kw_43 (v := .ref (ad (0, 3))) rfl dJx4a65c_grow_92f84_33 ?_
      refine lv_iload_n hx hb dJx4a65c_grow_92f84_36 rfl (lv_at hl 0 rfl) ?_
      refine kc_S 2 (c_J7_copyOf_1904c l G A ad dm ct sz (sz + sz / 2) f (by omega) (by omega) hD3 hD6 hR hel) F hE hW hS kw_235 kw_236 kw_12 kw_237 (by decide +kernel) rfl ⟨rfl, rfl⟩ ⟨Nat.le_of_ble_eq_true rfl, Nat.le_of_ble_eq_true rfl⟩ hl.1 rfl (Nat.le_of_ble_eq_true rfl) dJx4a65c_grow_92f84_37 ⟨Nat.le_of_ble_eq_true rfl, by show 0 + 0 + (sz + sz / 2) ≤ 800; omega⟩ (fun _ _ _ _ _ h => h.elim) (fun v w' H locs hp hW hS => ?_)
      obtain ⟨ad1, dm1, ct1, g, rfl, rfl, hN, hg⟩ := hp
      have ha1 : ad1 (0, 2) = a0 := (hN.1 _ (by decide)).1.trans ha0
      have hO1 : ct1 (0, 2) = _ := (hN.1 _ (by decide)).2.trans hO
      have hd1 : dm1 (0, 2) := (hN.2.2 _).mpr (Or.inr hD)
      refine lv_dup_x1 hx hb dJx4a65c_grow_92f84_40 rfl rfl ?_
      refine kp F hE hW hS (0, 2) hd1 ha1 hO1 rfl inA_JL tyJx4a65c tyJx4a65c_ok nmJx4a65c 1 (by decide) kw_43 rfl rfl rfl (Nat.le_of_ble_eq_true rfl) dJx4a65c_grow_92f84_41 (fun ct2 H locs hW hc2 hf2 hS => ?_)
      have hd6 : dm1 (6, 0) := (hN.2.2 _).mpr (Or.inl rfl)
      have hW := wd_mv (ad0 := ad) (ct0 := fun z => if z = (6, 0) then ct z else ct2 z) (0, 3) (6, 0) hW hd6 (fun z h1 h2 h3 => ⟨((hN.1 z h2).1).symm, if_neg h2⟩)
      refine kr_a F hr hlk hE hW hS (by decide) (by show 0 + 0 + (sz + sz / 2) ≤ 800; omega) (Or.inr ⟨_, rfl⟩) (Or.inr ⟨_, rfl⟩) dJx4a65c_grow_92f84_44 (⟨_, _, _, sz + sz / 2, g, rfl, rfl, Or.inl rfl, by omega, by omega, by omega, hc2, (hf2 _ (by decide)).trans hN.2.1, hg, ⟨fun z z2 z3 => ⟨if_neg z3, ?_, ?_⟩, rfl, ?_⟩⟩)
      · dsimp only; rw [if_neg z3]
        by_cases e6 : z = (6, 0)
        · rw [if_pos e6]
        · rw [if_neg e6]; exact (hf2 z z2).trans (hN.1 z e6).2
      · dsimp only; rw [hN.2.2]; constructor
        · rintro (h | ⟨h | h, h2⟩)
          · exact absurd h z3
          · exact absurd h h2
          · exact h
        · intro h; exact Or.inr ⟨Or.inr h, by rintro rfl; exact hD6 h⟩
      · simp [hN.2.2, hD]
    · exact absurd c1 (by omega)
set_option maxRecDepth 100000 in
set_option maxHeartbeats 4000000 in
theorem c_Jx4a65c_grow_d5877 (l : Launch) (G : GG) (A : Nat → Prop) (ad : Lb → Nat) (dm : Lb → Prop) (ct : Lb → va_E) (mcn : Int32) (sz cap : Nat) (f : Nat → Option Nat) (hL : LL G ad dm ct mcn sz cap f) (h512 : sz ≤ 512) (hD6 : ¬ dm (6, 0)) (hel : ∀ j, j < sz → isP1 ad dm ct (f j)) (hfull : sz = cap) :
    CT l yJx4a65c_grow_d5877 cJx4a65c_grow_d5877 1 (some (FieldType.array (FieldType.object "java/lang/Object"))) { frames := 6, cells := 1, slots := 800, locals := 107 } [.ref (ad (0, 2))] G A (ad, dm, ct) (fun v w' => ∃ ad' dm' ct' cap' g, w' = (ad', dm', ct') ∧ v = some (.ref (ad' (0, 3))) ∧ dm' (0, 3) ∧ sz < cap' ∧ 10 ≤ cap' ∧ cap' ≤ 800 ∧ ct' (0, 2) = LO mcn (ad' (0, 3)) sz ∧ ct' (0, 3) = .inl (G.2.1 4, cap', .inr (.inr (.inr (.inr g)))) ∧ (∀ j, j < sz → g j = f j) ∧ XL ad dm ct ad' dm' ct') (fun _ => False) (1) (800) := by
  refine ct_of (by decide) (Nat.le_of_ble_eq_true rfl) ?_
  intro p e s m below meth c ls F hr hlk hnm hex hE hW hl
  have hx := F.1
  have hb := F.2.1
  have hS : va_S A s.heap s.heap [] := va_S.rf
  have hl : lv_has ls 1 [(0, .ref (ad (0, 2)))] := hl
  have hL0 := hL
  obtain ⟨hD, hsz, E, hO⟩ := hL0.obj
  refine lv_aload_n hx hb dJx4a65c_grow_d5877_0 rfl (lv_at hl 0 rfl) ?_
  refine lv_aload_n hx hb dJx4a65c_grow_d5877_1 rfl (lv_at hl 0 rfl) ?_
  refine kg F hE hW (0, 2) hD rfl hO rfl inA_JL 2 (by decide) kw_44 (v := .int (nI sz)) rfl dJx4a65c_grow_d5877_2 ?_
  refine lv_iconst (v := nI 1) hx hb dJx4a65c_grow_d5877_5 (by decide) ?_
  refine lv_iadd hx hb dJx4a65c_grow_d5877_6 ?_
  refine ktop (nI_add _ _) ?_
  refine kc_V 1 (c_Jx4a65c_grow_92f84 l G A ad dm ct mcn sz cap f hL h512 hD6 hel hfull) F hE hW hS (0, 2) hD hO rfl [.int (nI (sz + 1))] rfl kw_221 kw_223 kp_9 kw_4 kw_224 (by decide +kernel) rfl ⟨rfl, rfl⟩ ⟨Nat.le_of_ble_eq_true rfl, Nat.le_of_ble_eq_true rfl⟩ hl.1 rfl (Nat.le_of_ble_eq_true rfl) dJx4a65c_grow_d5877_7 ⟨Nat.le_of_ble_eq_true rfl, Nat.le_of_ble_eq_true rfl⟩ (fun _ _ _ _ _ h => h.elim) (fun v w' H locs hp hW hS => ?_)
  obtain ⟨ad1, dm1, ct1, cap1, g, rfl, rfl, hp⟩ := hp
  exact kr_a F hr hlk hE hW hS (Nat.le_of_ble_eq_true rfl) (Nat.le_of_ble_eq_true rfl) (Or.inr ⟨_, rfl⟩) (Or.inr ⟨_, rfl⟩) dJx4a65c_grow_d5877_10 (⟨ad1, dm1, ct1, cap1, g, rfl, rfl, hp⟩)
set_option maxRecDepth 100000 in
set_option maxHeartbeats 4000000 in
theorem c_add3A (l : Launch) (G : GG) (A : Nat → Prop) (ad : Lb → Nat) (dm : Lb → Prop) (ct : Lb → va_E) (mcn : Int32) (sz cap : Nat) (f : Nat → Option Nat) (hL : LL G ad dm ct mcn sz cap f) (h512 : sz ≤ 512) (hD6 : ¬ dm (6, 0)) (hel : ∀ j, j < sz → isP1 ad dm ct (f j)) (e0 : Nat) (he0 : isP1 ad dm ct (some e0)) (hnf : sz < cap) :
    CT l yJx4a65c_add_72be8 cJx4a65c_add_72be8 4 none { frames := 7, cells := 1, slots := 800, locals := 127 } [.ref (ad (0, 2)), .ref e0, .ref (ad (0, 3)), .int (nI sz)] G A (ad, dm, ct) (fun v w' => ∃ ad' dm' ct' cap' g, w' = (ad', dm', ct') ∧ v = none ∧ LL G ad' dm' ct' mcn (sz + 1) cap' g ∧ (∀ j, j < sz → g j = f j) ∧ g sz = some e0 ∧ XL ad dm ct ad' dm' ct') (fun _ => False) (1) (800) := by
  refine ct_of (by decide) (Nat.le_of_ble_eq_true rfl) ?_
  intro p e s m below meth c ls F hr hlk hnm hex hE hW hl
  have hx := F.1
  have hb := F.2.1
  have hS : va_S A s.heap s.heap [] := va_S.rf
  have hl : lv_has ls 4 [(0, .ref (ad (0, 2))), (1, .ref e0), (2, .ref (ad (0, 3))), (3, .int (nI sz))] := hl
  obtain ⟨a0, ha0⟩ : ∃ a, ad (0, 2) = a := ⟨_, rfl⟩
  have hl : lv_has ls 4 [(0, .ref a0), (1, .ref e0), (2, .ref (ad (0, 3))), (3, .int (nI sz))] := by rw [← ha0]; exact hl
  obtain ⟨hD, ⟨-, hz, hz2, -⟩ | ⟨hD3, hsc, h10, hcap, hO, hR⟩⟩ := hL
  · omega
  · refine lv_iload_n hx hb dJx4a65c_add_72be8_0 rfl (lv_at hl 3 rfl) ?_
    refine lv_aload_n hx hb dJx4a65c_add_72be8_1 rfl (lv_at hl 2 rfl) ?_
    refine kal 4 F hE hW (0, 3) hD3 rfl rfl hR dJx4a65c_add_72be8_2 ?_
    refine nc_ne (tgt := 11) hx hb dJx4a65c_add_72be8_3 (by decide) (by omega) (by omega) (fun c1 => ?_) (fun c1 => ?_)
    · refine lv_aload_n hx hb dJx4a65c_add_72be8_11 rfl (lv_at hl 2 rfl) ?_
      refine lv_iload_n hx hb dJx4a65c_add_72be8_12 rfl (lv_at hl 3 rfl) ?_
      refine lv_aload_n hx hb dJx4a65c_add_72be8_13 rfl (lv_at hl 1 rfl) ?_
      refine ks_o F hE hW hS (0, 3) hD3 rfl hR (he0.any hE hW _ rfl) sz rfl hnf (by omega) dJx4a65c_add_72be8_14 (fun ct5 H locs hW hc5 hf5 hS => ?_)
      have hO5 : ct5 (0, 2) = _ := (hf5 _ (by decide)).trans hO
      refine lv_aload_n hx hb dJx4a65c_add_72be8_15 rfl (lv_at hl 0 rfl) ?_
      refine lv_iload_n hx hb dJx4a65c_add_72be8_16 rfl (lv_at hl 3 rfl) ?_
      refine lv_iconst (v := nI 1) hx hb dJx4a65c_add_72be8_17 (by decide) ?_
      refine lv_iadd hx hb dJx4a65c_add_72be8_18 ?_
      refine ktop (nI_add _ _) ?_
      refine kp F hE hW hS (0, 2) hD ha0 hO5 rfl inA_JL tyJx4a65c tyJx4a65c_ok nmJx4a65c 2 (by decide) kw_44 rfl rfl rfl (Nat.le_of_ble_eq_true rfl) dJx4a65c_add_72be8_19 (fun ct1 H locs hW hc1 hf1 hS => ?_)
      exact kr_v F hr hlk hE hW hS (Nat.le_of_ble_eq_true rfl) (Nat.le_of_ble_eq_true rfl) dJx4a65c_add_72be8_22 (⟨ad, dm, ct1, cap, _, rfl, rfl, ⟨hD, Or.inr ⟨hD3, by omega, h10, hcap, hc1, (hf1 _ (by decide)).trans hc5⟩⟩, fun j hj => va_up_ne _ _ (by omega), va_up_self _ _ _, (XL.put (Or.inr rfl) hf5).tr (XL.put (Or.inl rfl) hf1)⟩)
    · exact absurd c1 (by omega)
set_option maxRecDepth 100000 in
set_option maxHeartbeats 4000000 in
theorem c_add3B (l : Launch) (G : GG) (A : Nat → Prop) (ad : Lb → Nat) (dm : Lb → Prop) (ct : Lb → va_E) (mcn : Int32) (sz cap : Nat) (f : Nat → Option Nat) (hL : LL G ad dm ct mcn sz cap f) (h512 : sz ≤ 512) (hD6 : ¬ dm (6, 0)) (hel : ∀ j, j < sz → isP1 ad dm ct (f j)) (e0 : Nat) (he0 : isP1 ad dm ct (some e0)) (hfull : sz = cap) (E : Nat) (hE0 : ct (0, 2) = LO mcn E sz) :
    CT l yJx4a65c_add_72be8 cJx4a65c_add_72be8 4 none { frames := 7, cells := 1, slots := 800, locals := 127 } [.ref (ad (0, 2)), .ref e0, .ref E, .int (nI sz)] G A (ad, dm, ct) (fun v w' => ∃ ad' dm' ct' cap' g, w' = (ad', dm', ct') ∧ v = none ∧ LL G ad' dm' ct' mcn (sz + 1) cap' g ∧ (∀ j, j < sz → g j = f j) ∧ g sz = some e0 ∧ XL ad dm ct ad' dm' ct') (fun _ => False) (1) (800) := by
  refine ct_of (by decide) (Nat.le_of_ble_eq_true rfl) ?_
  intro p e s m below meth c ls F hr hlk hnm hex hE hW hl
  have hx := F.1
  have hb := F.2.1
  have hS : va_S A s.heap s.heap [] := va_S.rf
  have hl : lv_has ls 4 [(0, .ref (ad (0, 2))), (1, .ref e0), (2, .ref E), (3, .int (nI sz))] := hl
  obtain ⟨a0, ha0⟩ : ∃ a, ad (0, 2) = a := ⟨_, rfl⟩
  have hl : lv_has ls 4 [(0, .ref a0), (1, .ref e0), (2, .ref E), (3, .int (nI sz))] := by rw [← ha0]; exact hl
  refine lv_iload_n hx hb dJx4a65c_add_72be8_0 rfl (lv_at hl 3 rfl) ?_
  refine lv_aload_n hx hb dJx4a65c_add_72be8_1 rfl (lv_at hl 2 rfl) ?_
  have hL0 := hL
  obtain ⟨hD, ⟨hn3, hz, -, hO⟩ | ⟨hD3, hsc, h10, hcap, hO, hR⟩⟩ := hL
  · have hEe : E = G.2.2.1 := by rw [hO] at hE0; simp [LO] at hE0; exact hE0.symm
    subst hEe
    refine va_tlen hx hb hE.2.1.2.2.2.2.2.2.2.2.2 hS (v := nI sz) (by rw [hz]; rfl) dJx4a65c_add_72be8_2 ?_
    refine nc_ne (tgt := 11) hx hb dJx4a65c_add_72be8_3 (by decide) (by omega) (by omega) (fun c1 => ?_) (fun c1 => ?_)
    · exact absurd rfl c1
    · refine lv_aload_n hx hb dJx4a65c_add_72be8_6 rfl (lv_at hl 0 rfl) ?_
      refine kc_Va 0 (c_Jx4a65c_grow_d5877 l G A ad dm ct mcn sz cap f hL0 h512 hD6 hel hfull) F hE hW hS (0, 2) hD hE0 ha0 rfl [] rfl kw_217 kw_219 kp_8 kw_4 kw_220 (by decide +kernel) rfl ⟨rfl, rfl⟩ ⟨Nat.le_of_ble_eq_true rfl, Nat.le_of_ble_eq_true rfl⟩ hl.1 rfl (Nat.le_of_ble_eq_true rfl) dJx4a65c_add_72be8_7 ⟨Nat.le_of_ble_eq_true rfl, Nat.le_of_ble_eq_true rfl⟩ (fun _ _ _ _ _ h => h.elim) (fun v w' H locs hp hW hS => ?_)
      obtain ⟨ad1, dm1, ct1, cap1, g, rfl, rfl, hd3, hlt, h10', h8', hO1, hR1, hg, hX⟩ := hp
      have ha1 : ad1 (0, 2) = a0 := hX.2.1.trans ha0
      have hd1 : dm1 (0, 2) := hX.2.2.mpr hD
      have he1 := he0.xl hX
      refine lv_astore_n (lv' := [(2, .ref (ad1 (0, 3))), (0, .ref a0), (1, .ref e0), (3, .int (nI sz))]) hx hb dJx4a65c_add_72be8_10 rfl hl (by decide) rfl (fun ls hl => ?_)
      refine lv_aload_n hx hb dJx4a65c_add_72be8_11 rfl (lv_at hl 0 rfl) ?_
      refine lv_iload_n hx hb dJx4a65c_add_72be8_12 rfl (lv_at hl 3 rfl) ?_
      refine lv_aload_n hx hb dJx4a65c_add_72be8_13 rfl (lv_at hl 2 rfl) ?_
      refine ks_o F hE hW hS (0, 3) hd3 rfl hR1 (he1.any hE hW _ rfl) sz rfl hlt (by omega) dJx4a65c_add_72be8_14 (fun ct5 H locs hW hc5 hf5 hS => ?_)
      have hO5 : ct5 (0, 2) = _ := (hf5 _ (by decide)).trans hO1
      refine lv_aload_n hx hb dJx4a65c_add_72be8_15 rfl (lv_at hl 1 rfl) ?_
      refine lv_iload_n hx hb dJx4a65c_add_72be8_16 rfl (lv_at hl 3 rfl) ?_
      refine lv_iconst (v := nI 1) hx hb dJx4a65c_add_72be8_17 (by decide) ?_
      refine lv_iadd hx hb dJx4a65c_add_72be8_18 ?_
      refine ktop (nI_add _ _) ?_
      refine kp F hE hW hS (0, 2) hd1 ha1 hO5 rfl inA_JL tyJx4a65c tyJx4a65c_ok nmJx4a65c 2 (by decide) kw_44 rfl rfl rfl (Nat.le_of_ble_eq_true rfl) dJx4a65c_add_72be8_19 (fun ct7 H locs hW hc7 hf7 hS => ?_)
      exact kr_v F hr hlk hE hW hS (Nat.le_of_ble_eq_true rfl) (Nat.le_of_ble_eq_true rfl) dJx4a65c_add_72be8_22 (⟨ad1, dm1, ct7, cap1, _, rfl, rfl, ⟨hd1, Or.inr ⟨hd3, by omega, h10', h8', hc7, (hf7 _ (by decide)).trans hc5⟩⟩, fun j hj => (va_up_ne _ _ (by omega)).trans (hg j hj), va_up_self _ _ _, hX.tr ((XL.put (Or.inr rfl) hf5).tr (XL.put (Or.inl rfl) hf7))⟩)
  · have hEe : E = ad (0, 3) := by rw [hO] at hE0; simp [LO] at hE0; exact hE0.symm
    subst hEe
    subst hfull
    refine kal 4 F hE hW (0, 3) hD3 rfl rfl hR dJx4a65c_add_72be8_2 ?_
    refine nc_ne (tgt := 11) hx hb dJx4a65c_add_72be8_3 (by decide) (by omega) (by omega) (fun c1 => ?_) (fun c1 => ?_)
    · exact absurd rfl c1
    · refine lv_aload_n hx hb dJx4a65c_add_72be8_6 rfl (lv_at hl 0 rfl) ?_
      refine kc_Va 0 (c_Jx4a65c_grow_d5877 l G A ad dm ct mcn sz sz f hL0 h512 hD6 hel rfl) F hE hW hS (0, 2) hD hE0 ha0 rfl [] rfl kw_217 kw_219 kp_8 kw_4 kw_220 (by decide +kernel) rfl ⟨rfl, rfl⟩ ⟨Nat.le_of_ble_eq_true rfl, Nat.le_of_ble_eq_true rfl⟩ hl.1 rfl (Nat.le_of_ble_eq_true rfl) dJx4a65c_add_72be8_7 ⟨Nat.le_of_ble_eq_true rfl, Nat.le_of_ble_eq_true rfl⟩ (fun _ _ _ _ _ h => h.elim) (fun v w' H locs hp hW hS => ?_)
      obtain ⟨ad1, dm1, ct1, cap1, g, rfl, rfl, hd3, hlt, h10', h8', hO1, hR1, hg, hX⟩ := hp
      have ha1 : ad1 (0, 2) = a0 := hX.2.1.trans ha0
      have hd1 : dm1 (0, 2) := hX.2.2.mpr hD
      have he1 := he0.xl hX
      refine lv_astore_n (lv' := [(2, .ref (ad1 (0, 3))), (0, .ref a0), (1, .ref e0), (3, .int (nI sz))]) hx hb dJx4a65c_add_72be8_10 rfl hl (by decide) rfl (fun ls hl => ?_)
      refine lv_aload_n hx hb dJx4a65c_add_72be8_11 rfl (lv_at hl 0 rfl) ?_
      refine lv_iload_n hx hb dJx4a65c_add_72be8_12 rfl (lv_at hl 3 rfl) ?_
      refine lv_aload_n hx hb dJx4a65c_add_72be8_13 rfl (lv_at hl 2 rfl) ?_
      refine ks_o F hE hW hS (0, 3) hd3 rfl hR1 (he1.any hE hW _ rfl) sz rfl hlt (by omega) dJx4a65c_add_72be8_14 (fun ct5 H locs hW hc5 hf5 hS => ?_)
      have hO5 : ct5 (0, 2) = _ := (hf5 _ (by decide)).trans hO1
      refine lv_aload_n hx hb dJx4a65c_add_72be8_15 rfl (lv_at hl 1 rfl) ?_
      refine lv_iload_n hx hb dJx4a65c_add_72be8_16 rfl (lv_at hl 3 rfl) ?_
      refine lv_iconst (v := nI 1) hx hb dJx4a65c_add_72be8_17 (by decide) ?_
      refine lv_iadd hx hb dJx4a65c_add_72be8_18 ?_
      refine ktop (nI_add _ _) ?_
      refine kp F hE hW hS (0, 2) hd1 ha1 hO5 rfl inA_JL tyJx4a65c tyJx4a65c_ok nmJx4a65c 2 (by decide) kw_44 rfl rfl rfl (Nat.le_of_ble_eq_true rfl) dJx4a65c_add_72be8_19 (fun ct7 H locs hW hc7 hf7 hS => ?_)
      exact kr_v F hr hlk hE hW hS (Nat.le_of_ble_eq_true rfl) (Nat.le_of_ble_eq_true rfl) dJx4a65c_add_72be8_22 (⟨ad1, dm1, ct7, cap1, _, rfl, rfl, ⟨hd1, Or.inr ⟨hd3, by omega, h10', h8', hc7, (hf7 _ (by decide)).trans hc5⟩⟩, fun j hj => (va_up_ne _ _ (by omega)).trans (hg j hj), va_up_self _ _ _, hX.tr ((XL.put (Or.inr rfl) hf5).tr (XL.put (Or.inl rfl) hf7))⟩)
set_option maxRecDepth 100000 in
set_option maxHeartbeats 4000000 in
theorem c_Jx4a65c_add_9ea2d (l : Launch) (G : GG) (A : Nat → Prop) (ad : Lb → Nat) (dm : Lb → Prop) (ct : Lb → va_E) (mcn : Int32) (sz cap : Nat) (f : Nat → Option Nat) (hL : LL G ad dm ct mcn sz cap f) (h512 : sz ≤ 512) (hD6 : ¬ dm (6, 0)) (hel : ∀ j, j < sz → isP1 ad dm ct (f j)) (e0 : Nat) (he0 : isP1 ad dm ct (some e0)) :
    CT l yJx4a65c_add_9ea2d cJx4a65c_add_9ea2d 2 (some FieldType.boolean) { frames := 8, cells := 1, slots := 800, locals := 150 } [.ref (ad (0, 2)), .ref e0] G A (ad, dm, ct) (fun v w' => ∃ ad' dm' ct' cap' g, w' = (ad', dm', ct') ∧ v = some (.int (nI 1)) ∧ LL G ad' dm' ct' (mcn + nI 1) (sz + 1) cap' g ∧ (∀ j, j < sz → g j = f j) ∧ g sz = some e0 ∧ XL ad dm ct ad' dm' ct') (fun _ => False) (1) (800) := by
  refine ct_of (by decide) (Nat.le_of_ble_eq_true rfl) ?_
  intro p e s m below meth c ls F hr hlk hnm hex hE hW hl
  have hx := F.1
  have hb := F.2.1
  have hS : va_S A s.heap s.heap [] := va_S.rf
  have hl : lv_has ls 2 [(0, .ref (ad (0, 2))), (1, .ref e0)] := hl
  have hL0 := hL
  obtain ⟨hD, hsz8, E, hO⟩ := hL0.obj
  refine lv_aload_n hx hb dJx4a65c_add_9ea2d_0 rfl (lv_at hl 0 rfl) ?_
  refine lv_dup hx hb dJx4a65c_add_9ea2d_1 rfl ?_
  refine kgS F hE hW (0, 2) hD rfl hO rfl inA_JL 0 (by decide) kw_46 (fun x9 h9 => u_same (F.2.2.2.2 _ kw_47) x9 h9) (v := .int mcn) rfl dJx4a65c_add_9ea2d_2 ?_
  refine lv_iconst (v := nI 1) hx hb dJx4a65c_add_9ea2d_5 (by decide) ?_
  refine lv_iadd hx hb dJx4a65c_add_9ea2d_6 ?_
  refine kpS F hE hW hS (0, 2) hD rfl hO rfl inA_JL tyJx4a65c tyJx4a65c_ok nmJx4a65c 0 (by decide) kw_46 (fun x9 h9 => u_same (F.2.2.2.2 _ kw_47) x9 h9) rfl rfl rfl (Nat.le_of_ble_eq_true rfl) dJx4a65c_add_9ea2d_7 (fun ct1 H locs hW hc1 hf1 hS => ?_)
  refine lv_aload_n hx hb dJx4a65c_add_9ea2d_10 rfl (lv_at hl 0 rfl) ?_
  refine lv_aload_n hx hb dJx4a65c_add_9ea2d_11 rfl (lv_at hl 1 rfl) ?_
  refine lv_aload_n hx hb dJx4a65c_add_9ea2d_12 rfl (lv_at hl 0 rfl) ?_
  refine kg F hE hW (0, 2) hD rfl hc1 rfl inA_JL 1 (by decide) kw_43 (v := .ref E) rfl dJx4a65c_add_9ea2d_13 ?_
  refine lv_aload_n hx hb dJx4a65c_add_9ea2d_16 rfl (lv_at hl 0 rfl) ?_
  refine kg F hE hW (0, 2) hD rfl hc1 rfl inA_JL 2 (by decide) kw_44 (v := .int (nI sz)) rfl dJx4a65c_add_9ea2d_17 ?_
  have hX0 : XL ad dm ct ad dm ct1 := XL.put (Or.inl rfl) hf1
  have hel1 : ∀ j, j < sz → isP1 ad dm ct1 (f j) := fun j hj => (hel j hj).xl hX0
  have he1 := he0.xl hX0
  have hL1 : LL G ad dm ct1 (mcn + nI 1) sz cap f := by
    obtain ⟨q1, ⟨q2, q3, q4, q5⟩ | ⟨q2, q3, q4, q5, q6, q7⟩⟩ := hL
    · have hEe : E = G.2.2.1 := by rw [q5] at hO; simp [LO] at hO; exact hO.symm
      exact ⟨q1, Or.inl ⟨q2, q3, q4, by rw [hEe] at hc1; exact hc1⟩⟩
    · have hEe : E = ad (0, 3) := by rw [q6] at hO; simp [LO] at hO; exact hO.symm
      exact ⟨q1, Or.inr ⟨q2, q3, q4, q5, by rw [hEe] at hc1; exact hc1, (hf1 _ (by decide)).trans q7⟩⟩
  rcases Nat.lt_or_ge sz cap with hq | hq
  · have hEe : E = ad (0, 3) := by
      obtain ⟨q1, ⟨q2, q3, q4, q5⟩ | ⟨q2, q3, q4, q5, q6, q7⟩⟩ := hL
      · omega
      · rw [q6] at hO; simp [LO] at hO; exact hO.symm
    subst hEe
    refine kc_V 3 (c_add3A l G A ad dm ct1 (mcn + nI 1) sz cap f hL1 h512 hD6 hel1 e0 he1 hq) F hE hW hS (0, 2) hD hc1 rfl [.ref e0, .ref (ad (0, 3)), .int (nI sz)] rfl kw_213 kw_215 kp_7 kw_4 kw_216 (by decide +kernel) rfl ⟨rfl, rfl⟩ ⟨Nat.le_of_ble_eq_true rfl, Nat.le_of_ble_eq_true rfl⟩ hl.1 rfl (Nat.le_of_ble_eq_true rfl) dJx4a65c_add_9ea2d_20 ⟨Nat.le_of_ble_eq_true rfl, Nat.le_of_ble_eq_true rfl⟩ (fun _ _ _ _ _ h => h.elim) (fun v w' H locs hp hW hS => ?_)
    obtain ⟨ad1, dm1, ct2, cap1, g, rfl, rfl, hL2, hg, hgs, hX⟩ := hp
    refine lv_iconst (v := nI 1) hx hb dJx4a65c_add_9ea2d_23 (by decide) ?_
    exact kr_z F hr hlk hE hW hS (Nat.le_of_ble_eq_true rfl) (Nat.le_of_ble_eq_true rfl) rfl dJx4a65c_add_9ea2d_24 (⟨ad1, dm1, ct2, cap1, g, rfl, rfl, hL2, hg, hgs, hX0.tr hX⟩)
  · have hfull : sz = cap := by
      obtain ⟨q1, ⟨q2, q3, q4, q5⟩ | ⟨q2, q3, q4, q5, q6, q7⟩⟩ := hL <;> omega
    refine kc_V 3 (c_add3B l G A ad dm ct1 (mcn + nI 1) sz cap f hL1 h512 hD6 hel1 e0 he1 hfull E hc1) F hE hW hS (0, 2) hD hc1 rfl [.ref e0, .ref E, .int (nI sz)] rfl kw_213 kw_215 kp_7 kw_4 kw_216 (by decide +kernel) rfl ⟨rfl, rfl⟩ ⟨Nat.le_of_ble_eq_true rfl, Nat.le_of_ble_eq_true rfl⟩ hl.1 rfl (Nat.le_of_ble_eq_true rfl) dJx4a65c_add_9ea2d_20 ⟨Nat.le_of_ble_eq_true rfl, Nat.le_of_ble_eq_true rfl⟩ (fun _ _ _ _ _ h => h.elim) (fun v w' H locs hp hW hS => ?_)
    obtain ⟨ad1, dm1, ct2, cap1, g, rfl, rfl, hL2, hg, hgs, hX⟩ := hp
    refine lv_iconst (v := nI 1) hx hb dJx4a65c_add_9ea2d_23 (by decide) ?_
    exact kr_z F hr hlk hE hW hS (Nat.le_of_ble_eq_true rfl) (Nat.le_of_ble_eq_true rfl) rfl dJx4a65c_add_9ea2d_24 (⟨ad1, dm1, ct2, cap1, g, rfl, rfl, hL2, hg, hgs, hX0.tr hX⟩)
set_option maxRecDepth 100000 in
set_option maxHeartbeats 4000000 in
theorem c_Jxa1e45_init_da8c8 (l : Launch) (G : GG) (A : Nat → Prop) (ad : Lb → Nat) (dm : Lb → Prop) (ct : Lb → va_E) (a : Nat) :
    CT l yJxa1e45_init_da8c8 cJxa1e45_init_da8c8 1 none { frames := 1, cells := 0, slots := 0, locals := 12 } [.ref a] G A (ad, dm, ct) (fun v w' => (ad, dm, ct) = w' ∧ v = none) (fun _ => False) (0) (0) := by
  refine ct_of (by decide) (Nat.le_of_ble_eq_true rfl) ?_
  intro p e s m below meth c ls F hr hlk hnm hex hE hW hl
  have hx := F.1
  have hb := F.2.1
  have hS : va_S A s.heap s.heap [] := va_S.rf
  have hl : lv_has ls 1 [(0, .ref a)] := hl
  refine lv_aload_n hx hb dJxa1e45_init_da8c8_0 rfl (lv_at hl 0 rfl) ?_
  refine W.objInit hx hb F.2.2.2.1 (F.2.2.2.2 _ kw_40) (F.2.2.2.2 _ kw_25) (F.2.2.2.2 _ kw_26) rfl (by rw [F.2.2.1]; exact hl.1) rfl dJxa1e45_init_da8c8_1 (Nat.le_of_ble_eq_true rfl) (Nat.le_of_ble_eq_true rfl) ?_
  exact kr_v F hr hlk hE hW hS (Nat.le_of_ble_eq_true rfl) (Nat.le_of_ble_eq_true rfl) dJxa1e45_init_da8c8_4 (⟨rfl, rfl⟩)
set_option maxRecDepth 100000 in
set_option maxHeartbeats 4000000 in
theorem c_Jxc12de_init_da8c8 (l : Launch) (G : GG) (A : Nat → Prop) (ad : Lb → Nat) (dm : Lb → Prop) (ct : Lb → va_E) (hD : dm (0, 2)) (hO : ct (0, 2) = .inr (0, [.int 0, .null, .int 0])) :
    CT l yJxc12de_init_da8c8 cJxc12de_init_da8c8 1 none { frames := 2, cells := 0, slots := 0, locals := 32 } [.ref (ad (0, 2))] G A (ad, dm, ct) (fun v w' => ∃ ct', w' = (ad, dm, ct') ∧ v = none ∧ ct' (0, 2) = .inr (0, [.int (nI 0), .null, .int 0]) ∧ (∀ z, z ≠ (0, 2) → ct' z = ct z)) (fun _ => False) (0) (0) := by
  refine ct_of (by decide) (Nat.le_of_ble_eq_true rfl) ?_
  intro p e s m below meth c ls F hr hlk hnm hex hE hW hl
  have hx := F.1
  have hb := F.2.1
  have hS : va_S A s.heap s.heap [] := va_S.rf
  have hl : lv_has ls 1 [(0, .ref (ad (0, 2)))] := hl
  refine lv_aload_n hx hb dJxc12de_init_da8c8_0 rfl (lv_at hl 0 rfl) ?_
  refine kc_I 0 (c_Jxa1e45_init_da8c8 l G A ad dm ct (ad (0, 2))) (As := []) rfl F hE hW hS kw_37 kw_38 kw_2 kw_39 rfl (by decide +kernel) rfl ⟨rfl, rfl⟩ ⟨(Nat.le_of_ble_eq_true rfl), (Nat.le_of_ble_eq_true rfl)⟩ hl.1 rfl (Nat.le_of_ble_eq_true rfl) dJxc12de_init_da8c8_1 ⟨(Nat.le_of_ble_eq_true rfl), (Nat.le_of_ble_eq_true rfl)⟩ (fun _ _ _ _ _ h => h.elim) (fun v w' H locs hp hW hS => ?_)
  obtain ⟨rfl, rfl⟩ := hp
  refine lv_aload_n hx hb dJxc12de_init_da8c8_4 rfl (lv_at hl 0 rfl) ?_
  refine lv_iconst (v := nI 0) hx hb dJxc12de_init_da8c8_5 (by decide) ?_
  refine kp F hE hW hS (0, 2) hD rfl hO rfl inA_JL tyJx4a65c tyJx4a65c_ok nmJx4a65c 0 (by decide) kw_45 rfl rfl rfl (Nat.le_of_ble_eq_true rfl) dJxc12de_init_da8c8_6 (fun ct1 H locs hW hc1 hf1 hS => ?_)
  exact kr_v F hr hlk hE hW hS (Nat.le_of_ble_eq_true rfl) (Nat.le_of_ble_eq_true rfl) dJxc12de_init_da8c8_9 (⟨ct1, rfl, rfl, hc1, hf1⟩)
set_option maxRecDepth 100000 in
set_option maxHeartbeats 4000000 in
theorem c_Jx4a65c_init_da8c8 (l : Launch) (G : GG) (A : Nat → Prop) (ad : Lb → Nat) (dm : Lb → Prop) (ct : Lb → va_E) (hD : dm (0, 2)) (hO : ct (0, 2) = .inr (0, [.int 0, .null, .int 0])) (hD3 : ¬ dm (0, 3)) :
    CT l yJx4a65c_init_da8c8 cJx4a65c_init_da8c8 1 none { frames := 3, cells := 0, slots := 0, locals := 52 } [.ref (ad (0, 2))] G A (ad, dm, ct) (fun v w' => ∃ ct', w' = (ad, dm, ct') ∧ v = none ∧ LL G ad dm ct' (nI 0) 0 0 (fun _ => none) ∧ (∀ z, z ≠ (0, 2) → ct' z = ct z)) (fun _ => False) (0) (0) := by
  refine ct_of (by decide) (Nat.le_of_ble_eq_true rfl) ?_
  intro p e s m below meth c ls F hr hlk hnm hex hE hW hl
  have hx := F.1
  have hb := F.2.1
  have hS : va_S A s.heap s.heap [] := va_S.rf
  have hl : lv_has ls 1 [(0, .ref (ad (0, 2)))] := hl
  refine lv_aload_n hx hb dJx4a65c_init_da8c8_0 rfl (lv_at hl 0 rfl) ?_
  refine kc_I 0 (c_Jxc12de_init_da8c8 l G A ad dm ct hD hO) (As := []) rfl F hE hW hS kw_34 kw_35 kw_3 kw_36 rfl (by decide +kernel) rfl ⟨rfl, rfl⟩ ⟨(Nat.le_of_ble_eq_true rfl), (Nat.le_of_ble_eq_true rfl)⟩ hl.1 rfl (Nat.le_of_ble_eq_true rfl) dJx4a65c_init_da8c8_1 ⟨(Nat.le_of_ble_eq_true rfl), (Nat.le_of_ble_eq_true rfl)⟩ (fun _ _ _ _ _ h => h.elim) (fun v w' H locs hp hW hS => ?_)
  obtain ⟨ct2, rfl, rfl, hO2, hf2⟩ := hp
  refine lv_aload_n hx hb dJx4a65c_init_da8c8_4 rfl (lv_at hl 0 rfl) ?_
  refine va_gets hx hb hE.2.1.2.2.2.2.2.2.2.2.1 hS F.2.2.2.1 (F.2.2.2.2 _ kw_41) (fun _ h => h) dJx4a65c_init_da8c8_5 ?_
  refine kp F hE hW hS (0, 2) hD rfl hO2 rfl inA_JL tyJx4a65c tyJx4a65c_ok nmJx4a65c 1 (by decide) kw_43 rfl rfl rfl (Nat.le_of_ble_eq_true rfl) dJx4a65c_init_da8c8_8 (fun ct3 H locs hW hc3 hf3 hS => ?_)
  exact kr_v F hr hlk hE hW hS (Nat.le_of_ble_eq_true rfl) (Nat.le_of_ble_eq_true rfl) dJx4a65c_init_da8c8_11 (⟨ct3, rfl, rfl, ⟨hD, Or.inl ⟨hD3, rfl, rfl, hc3⟩⟩, fun z hz => (hf3 z hz).trans (hf2 z hz)⟩)
