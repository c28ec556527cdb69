/-! The law: both objects together, its loop, its end. -/
/-- between the rounds of the law: both objects in one state; k rounds made -/
def JN (G : GG) (a0 a1 : Nat) (ad : Lb → Nat) (dm : Lb → Prop) (ct : Lb → va_E) (S : SG) (k cells slots : Nat) : Prop :=
  J2 G a0 a1 ad dm ct S S ∧ Inv S (k + 2 * ((k + 1) / 9)) ∧ CN S ∧ cells + 10 * waits S ≤ 100 + 5500 * k + 10 * nbS S ∧ slots + 1652 * waits S ≤ 4000 + 50000 * k + 1652 * nbS S
theorem inv_eq {S : SG} {t t2 : Nat} (h : Inv S t) (e : t = t2) : Inv S t2 := by subst e; exact h
set_option maxRecDepth 100000 in
set_option maxHeartbeats 4000000 in
theorem law_loop {p : Program} {l : Launch} {e : Env} {s : State} {m : MethodId} {below : List Frame} {meth : Method} {c : Code} {b L : Nat} {xs : Nat → Int32} {Q : State → Prop} {G : GG} {A : Nat → Prop} {a0 a1 : Nat}
    (F : Fx p m c cL_law 6 s #[.ref b] RL) (hst : l.stackTraces = false) (hE : VE G A s) (hXs : va_X b L xs s s.heap) (hbl : b < s.heap.size) (hbA : ¬ A b) (hL9 : L ≤ 260)
    (kend : ∀ (ad : Lb → Nat) (dm : Lb → Prop) (ct : Lb → va_E) (S : SG) (H : Heap) (locs : List Loc) (ls : Array Slot) (cells slots : Nat), wd G A (ad, dm, ct) H → va_S A s.heap H locs → JN G a0 a1 ad dm ct S 90 cells slots → lv_has ls 6 [(3, .int (nI 90)), (2, .ref a1), (1, .ref a0), (0, .ref b)] → W p l e room_1 s m #[.ref b] below meth c H locs cells slots Q (F0 m 176 ls [])) :
    ∀ (d k : Nat) (ad : Lb → Nat) (dm : Lb → Prop) (ct : Lb → va_E) (S : SG) (H : Heap) (locs : List Loc) (ls : Array Slot) (cells slots : Nat), k + d = 90 → wd G A (ad, dm, ct) H → va_S A s.heap H locs → JN G a0 a1 ad dm ct S k cells slots → lv_has ls 6 [(3, .int (nI k)), (2, .ref a1), (1, .ref a0), (0, .ref b)] → W p l e room_1 s m #[.ref b] below meth c H locs cells slots Q (F0 m 18 ls []) := by
  have hx := F.1
  have hb := F.2.1
  intro d
  induction d with
  | zero =>
    intro k ad dm ct S H locs ls cells slots hd9 hW hS hJN hl
    refine lv_iload_n hx hb dL_law_18 rfl (lv_at hl 0 rfl) ?_
    refine lv_bipush (v := nI 90) hx hb dL_law_19 (by decide) ?_
    refine nc_ge (tgt := 176) hx hb dL_law_21 (by decide) (by omega) (by omega) (fun c1 => ?_) (fun c1 => ?_)
    · obtain rfl : k = 90 := by omega
      exact kend _ _ _ _ _ _ _ _ _ hW hS hJN hl
    · exfalso; omega
  | succ d ih =>
    intro k ad dm ct S H locs ls cells slots hd9 hW hS hJN hl
    refine lv_iload_n hx hb dL_law_18 rfl (lv_at hl 0 rfl) ?_
    refine lv_bipush (v := nI 90) hx hb dL_law_19 (by decide) ?_
    refine nc_ge (tgt := 176) hx hb dL_law_21 (by decide) (by omega) (by omega) (fun c1 => ?_) (fun c1 => ?_)
    · obtain rfl : k = 90 := by omega
      exact kend _ _ _ _ _ _ _ _ _ hW hS hJN hl
    · obtain ⟨hJ, hI, hN, hc0, hs0⟩ := hJN
      have hnb := inv_nb hI
      suffices key72 : ∀ (v : Int32) (H : Heap) (locs : List Loc) (ls : Array Slot), wd G A (ad, dm, ct) H → va_S A s.heap H locs → lv_has ls 6 [(4, .int v), (3, .int (nI k)), (2, .ref a1), (1, .ref a0), (0, .ref b)] → W p l e room_1 s m #[.ref b] below meth c H locs cells slots Q (F0 m 72 ls []) by
        refine lv_aload_n hx hb dL_law_24 rfl (lv_at hl 3 rfl) ?_
        refine lv_iload_n hx hb dL_law_25 rfl (lv_at hl 0 rfl) ?_
        refine lv_bipush (v := nI 61) hx hb dL_law_26 (by decide) ?_
        refine lv_irem hx hb dL_law_28 (by decide) ?_
        refine ktop (pk_rem (by omega) (by decide) (by decide)) ?_
        refine kc_SX 2 (c_L_cell l G A (ad, dm, ct) b L xs hbA (by omega) (k % 61) (by omega)) F hE hXs hbl hbA hW hS kw_269 kw_270 kw_0 kw_271 (by decide +kernel) rfl ⟨rfl, rfl⟩ ⟨Nat.le_of_ble_eq_true rfl, Nat.le_of_ble_eq_true rfl⟩ hl.1 rfl (Nat.le_of_ble_eq_true rfl) dL_law_29 ⟨(by show _ ≤ 655541; omega), (by show _ ≤ 7134559; omega)⟩ (fun v w' H locs hp hW hS => ?_)
        obtain ⟨rfl, x9, rfl⟩ := hp
        refine lv_sipush (v := nI 1009) hx hb dL_law_32 (by decide) ?_
        refine lv_iload_n hx hb dL_law_35 rfl (lv_at hl 0 rfl) ?_
        refine lv_bipush (v := nI 61) hx hb dL_law_36 (by decide) ?_
        refine lv_idiv hx hb dL_law_38 (by decide) ?_
        refine ktop (pk_div (by omega) (by decide) (by decide)) ?_
        refine lv_imul hx hb dL_law_39 ?_
        refine ktop (pk_mul _ _) ?_
        refine lv_iadd hx hb dL_law_40 ?_
        refine lv_istore (lv' := [(4, .int (x9 + (nI (1009 * (k / 61))))), (3, .int (nI k)), (2, .ref a1), (1, .ref a0), (0, .ref b)]) hx hb dL_law_41 hl (by decide) rfl (fun ls hl => ?_)
        refine lv_iload_n hx hb dL_law_43 rfl (lv_at hl 1 rfl) ?_
        refine lv_bipush (v := nI 18) hx hb dL_law_44 (by decide) ?_
        refine nc_ge (tgt := 68) hx hb dL_law_46 (by decide) (by omega) (by omega) (fun c2 => ?_) (fun c2 => ?_)
        · refine lv_iload hx hb dL_law_68 (lv_at hl 0 rfl) ?_
          refine lv_istore (lv' := [(4, .int (x9 + (nI (1009 * (k / 61))))), (3, .int (nI k)), (2, .ref a1), (1, .ref a0), (0, .ref b)]) hx hb dL_law_70 hl (by decide) rfl (fun ls hl => ?_)
          exact key72 _ _ _ _ hW hS (lv_sub hl [0, 1, 2, 3, 4] rfl)
        · refine lv_iload hx hb dL_law_49 (lv_at hl 0 rfl) ?_
          refine lv_bipush (v := nI 32) hx hb dL_law_51 (by decide) ?_
          refine lv_idiv hx hb dL_law_53 (by decide) ?_
          refine lv_bipush (v := nI 32) hx hb dL_law_54 (by decide) ?_
          refine lv_imul hx hb dL_law_56 ?_
          refine lv_iload hx hb dL_law_57 (lv_at hl 0 rfl) ?_
          refine lv_bipush (v := nI 17) hx hb dL_law_59 (by decide) ?_
          refine kc_S 2 (c_L_low l G A ad dm ct (x9 + (nI (1009 * (k / 61)))) 17 (by decide) (by decide)) F hE hW hS kw_272 kw_273 kw_0 kw_274 (by decide +kernel) rfl ⟨rfl, rfl⟩ ⟨Nat.le_of_ble_eq_true rfl, Nat.le_of_ble_eq_true rfl⟩ hl.1 rfl (Nat.le_of_ble_eq_true rfl) dL_law_61 ⟨(by show _ ≤ 655541; omega), (by show _ ≤ 7134559; omega)⟩ (fun _ _ _ _ _ h => h.elim) (fun v w' H locs hp hW hS => ?_)
          obtain ⟨rfl, rfl⟩ := hp
          refine lv_iadd hx hb dL_law_64 ?_
          refine lv_goto (tgt := 70) hx hb dL_law_65 (by decide) ?_
          refine lv_istore (lv' := [(4, .int ((((x9 + (nI (1009 * (k / 61)))) / (nI 32)) * (nI 32)) + (nI (lowN (x9 + (nI (1009 * (k / 61)))) 17)))), (3, .int (nI k)), (2, .ref a1), (1, .ref a0), (0, .ref b)]) hx hb dL_law_70 hl (by decide) rfl (fun ls hl => ?_)
          exact key72 _ _ _ _ hW hS (lv_sub hl [0, 1, 2, 3, 4] rfl)
      clear hl hS hW
      intro v H locs ls hW hS hl
      suffices key98 : ∀ (ad : Lb → Nat) (dm : Lb → Prop) (ct : Lb → va_E) (S : SG) (H : Heap) (locs : List Loc) (ls : Array Slot) (cells slots : Nat), J2 G a0 a1 ad dm ct S S → Inv S (k + 2 * ((k + 1) / 9) + 1) → CN S → cells + 10 * waits S ≤ 198 + 5500 * k + 10 * nbS S → slots + 1652 * waits S ≤ 15732 + 50000 * k + 1652 * nbS S → wd G A (ad, dm, ct) H → va_S A s.heap H locs → lv_has ls 6 [(4, .int v), (3, .int (nI k)), (2, .ref a1), (1, .ref a0), (0, .ref b)] → W p l e room_1 s m #[.ref b] below meth c H locs cells slots Q (F0 m 98 ls []) by
        have I1 := act_inv (v := v) hI (by omega)
        have N1 := act_cn (v := v) hI hN
        have P1 := act_P (v := v) hI
        have nb1 := inv_nb I1
        refine lv_aload_n hx hb dL_law_72 rfl (lv_at hl 3 rfl) ?_
        refine lv_iload hx hb dL_law_73 (lv_at hl 0 rfl) ?_
        refine kc_S 2 (c_L_act l G A ad dm ct S _ hst hJ.1 hI hJ.2.2.1 v) F hE hW hS kw_276 kw_277 kw_0 kw_278 (by decide +kernel) rfl ⟨rfl, rfl⟩ ⟨Nat.le_of_ble_eq_true rfl, Nat.le_of_ble_eq_true rfl⟩ hl.1 (by rw [hJ.2.2.2.1]; rfl) (Nat.le_of_ble_eq_true rfl) dL_law_75 ⟨(by show _ ≤ 655541; omega), (by show _ ≤ 7134559; omega)⟩ (fun _ _ _ _ _ h => h.elim) (fun v w' H locs hp hW hS => ?_)
        obtain ⟨ad8, dm8, ct8, rfl, hF8, hK8, rfl⟩ := hp
        have hJ1 := hJ.one hF8 hK8
        refine lv_istore (lv' := [(5, .int (actF S v).2), (4, .int v), (3, .int (nI k)), (2, .ref a1), (1, .ref a0), (0, .ref b)]) hx hb dL_law_78 hl (by decide) rfl (fun ls hl => ?_)
        refine lv_iload hx hb dL_law_80 (lv_at hl 0 rfl) ?_
        refine lv_ldc (v := (-99999)) hx hb F.2.2.2.1 (F.2.2.2.2 _ kw_468) dL_law_82 ?_
        refine lv_icmp_eq (tgt := 98) hx hb dL_law_84 (by decide) (fun c3 => ?_) (fun c3 => ?_)
        · have es := act_same hI c3
          rw [es] at hJ1 I1 N1 P1
          exact key98 _ _ _ _ _ _ _ _ _ hJ1 I1 N1 (by omega) (by omega) hW hS (lv_sub hl [1, 2, 3, 4, 5] rfl)
        · refine lv_aload_n hx hb dL_law_87 rfl (lv_at hl 3 rfl) ?_
          refine lv_iload hx hb dL_law_88 (lv_at hl 1 rfl) ?_
          refine kc_S 2 (c_L_act l G A (fun z => ad8 (sg z)) (fun z => dm8 (sg z)) (fun z => ct8 (sg z)) S _ hst hJ1.2.1 hI hJ1.2.2.1 v) F hE (wd_sw hW) hS kw_276 kw_277 kw_0 kw_278 (by decide +kernel) rfl ⟨rfl, rfl⟩ ⟨Nat.le_of_ble_eq_true rfl, Nat.le_of_ble_eq_true rfl⟩ hl.1 (by rw [show ad8 (sg (0, 0)) = a1 from hJ1.2.2.2.2]; rfl) (Nat.le_of_ble_eq_true rfl) dL_law_90 ⟨(by show _ ≤ 655541; omega), (by show _ ≤ 7134559; omega)⟩ (fun _ _ _ _ _ h => h.elim) (fun v w' H locs hp hW hS => ?_)
          obtain ⟨ad9, dm9, ct9, rfl, hF9, hK9, rfl⟩ := hp
          have hJ2 := hJ1.two hF9 hK9
          refine lv_iload hx hb dL_law_93 (lv_at hl 0 rfl) ?_
          refine lv_icmp_ne (tgt := 128) hx hb dL_law_95 (by decide) (fun c9 => ?_) (fun c9 => ?_)
          · exact absurd rfl c9
          · exact key98 _ _ _ _ _ _ _ _ _ hJ2 I1 N1 (by omega) (by omega) (wd_sw hW) hS (lv_sub hl [1, 2, 3, 4, 5] rfl)
      clear hl hS hW hJ hI hN hc0 hs0 hnb
      intro ad dm ct S H locs ls cells slots hJ hI hN hc0 hs0 hW hS hl
      have hnb := inv_nb hI
      suffices key114 : ∀ (H : Heap) (locs : List Loc) (ls : Array Slot) (cells2 slots2 : Nat), cells2 ≤ cells + 376 → slots2 ≤ slots + 2256 → wd G A (ad, dm, ct) H → va_S A s.heap H locs → lv_has ls 6 [(4, .int v), (3, .int (nI k)), (2, .ref a1), (1, .ref a0), (0, .ref b)] → W p l e room_1 s m #[.ref b] below meth c H locs cells2 slots2 Q (F0 m 114 ls []) by
        refine lv_iload_n hx hb dL_law_98 rfl (lv_at hl 1 rfl) ?_
        refine lv_bipush (v := nI 6) hx hb dL_law_99 (by decide) ?_
        refine lv_irem hx hb dL_law_101 (by decide) ?_
        refine ktop (pk_rem (by omega) (by decide) (by decide)) ?_
        refine lv_iconst (v := nI 3) hx hb dL_law_102 (by decide) ?_
        refine nc_ne (tgt := 114) hx hb dL_law_103 (by decide) (by omega) (by omega) (fun c4 => ?_) (fun c4 => ?_)
        · exact key114 _ _ _ _ _ (by omega) (by omega) hW hS hl
        · refine lv_aload_n hx hb dL_law_106 rfl (lv_at hl 3 rfl) ?_
          refine lv_aload_n hx hb dL_law_107 rfl (lv_at hl 2 rfl) ?_
          refine kc_S 2 (c_L_areAlike l G A ad dm ct S _ hst hJ.1 hJ.2.1 hI) F hE hW hS kw_483 kw_484 kw_0 kw_485 (by decide +kernel) rfl ⟨rfl, rfl⟩ ⟨Nat.le_of_ble_eq_true rfl, Nat.le_of_ble_eq_true rfl⟩ hl.1 (by rw [hJ.2.2.2.1, hJ.2.2.2.2]; rfl) (Nat.le_of_ble_eq_true rfl) dL_law_108 ⟨(by show _ ≤ 655541; omega), (by show _ ≤ 7134559; omega)⟩ (fun _ _ _ _ _ h => h.elim) (fun v w' H locs hp hW hS => ?_)
          obtain ⟨rfl, rfl⟩ := hp
          refine nz_eq (tgt := 128) hx hb dL_law_111 (by decide) (by decide) (fun c9 => ?_) (fun c9 => ?_)
          · exact absurd c9 (by decide)
          · exact key114 _ _ _ _ _ (by omega) (by omega) hW hS hl
      clear hl hS hW
      intro H locs ls cells2 slots2 hc2 hs2 hW hS hl
      suffices key130 : ∀ (H : Heap) (locs : List Loc) (ls : Array Slot) (cells3 slots3 : Nat), cells3 ≤ cells + 376 + (2 + 41 * nbS S) → slots3 ≤ slots + 2256 + (12 + 246 * nbS S) → wd G A (ad, dm, ct) H → va_S A s.heap H locs → lv_has ls 6 [(4, .int v), (3, .int (nI k)), (2, .ref a1), (1, .ref a0), (0, .ref b)] → W p l e room_1 s m #[.ref b] below meth c H locs cells3 slots3 Q (F0 m 130 ls []) by
        refine lv_iload_n hx hb dL_law_114 rfl (lv_at hl 1 rfl) ?_
        refine lv_iconst (v := nI 4) hx hb dL_law_115 (by decide) ?_
        refine lv_irem hx hb dL_law_116 (by decide) ?_
        refine ktop (pk_rem (by omega) (by decide) (by decide)) ?_
        refine lv_iconst (v := nI 1) hx hb dL_law_117 (by decide) ?_
        refine nc_ne (tgt := 130) hx hb dL_law_118 (by decide) (by omega) (by omega) (fun c5 => ?_) (fun c5 => ?_)
        · exact key130 _ _ _ _ _ (by omega) (by omega) hW hS hl
        · refine lv_aload_n hx hb dL_law_121 rfl (lv_at hl 3 rfl) ?_
          refine kc_S 1 (c_L_areLevelsSo l G A ad dm ct S _ hst hJ.1 hI hN) F hE hW hS kw_554 kw_555 kw_0 kw_556 (by decide +kernel) rfl ⟨rfl, rfl⟩ ⟨Nat.le_of_ble_eq_true rfl, Nat.le_of_ble_eq_true rfl⟩ hl.1 (by rw [hJ.2.2.2.1]; rfl) (Nat.le_of_ble_eq_true rfl) dL_law_122 ⟨(by show _ ≤ 655541; omega), (by show _ ≤ 7134559; omega)⟩ (fun _ _ _ _ _ h => h.elim) (fun v w' H locs hp hW hS => ?_)
          obtain ⟨rfl, rfl⟩ := hp
          refine nz_ne (tgt := 130) hx hb dL_law_125 (by decide) (by decide) (fun c9 => ?_) (fun c9 => ?_)
          · exact key130 _ _ _ _ _ (by omega) (by omega) hW hS hl
          · exact absurd c9 (by decide)
      clear hl hS hW
      intro H locs ls cells3 slots3 hc3 hs3 hW hS hl
      suffices key170 : ∀ (ad : Lb → Nat) (dm : Lb → Prop) (ct : Lb → va_E) (S : SG) (H : Heap) (locs : List Loc) (ls : Array Slot) (cells slots : Nat), JN G a0 a1 ad dm ct S (k + 1) cells slots → wd G A (ad, dm, ct) H → va_S A s.heap H locs → lv_has ls 6 [(3, .int (nI k)), (2, .ref a1), (1, .ref a0), (0, .ref b)] → W p l e room_1 s m #[.ref b] below meth c H locs cells slots Q (F0 m 170 ls []) by
        refine lv_iload_n hx hb dL_law_130 rfl (lv_at hl 1 rfl) ?_
        refine lv_bipush (v := nI 9) hx hb dL_law_131 (by decide) ?_
        refine lv_irem hx hb dL_law_133 (by decide) ?_
        refine ktop (pk_rem (by omega) (by decide) (by decide)) ?_
        refine lv_bipush (v := nI 7) hx hb dL_law_134 (by decide) ?_
        refine nc_ne (tgt := 170) hx hb dL_law_136 (by decide) (by omega) (by omega) (fun c6 => ?_) (fun c6 => ?_)
        · exact key170 _ _ _ _ _ _ _ _ _ ⟨hJ, inv_eq hI (by omega), hN, by omega, by omega⟩ hW hS (lv_sub hl [1, 2, 3, 4] rfl)
        · refine lv_aload_n hx hb dL_law_139 rfl (lv_at hl 3 rfl) ?_
          refine lv_aload_n hx hb dL_law_140 rfl (lv_at hl 2 rfl) ?_
          refine lv_iload hx hb dL_law_141 (lv_at hl 0 rfl) ?_
          refine lv_iconst (v := nI 5) hx hb dL_law_143 (by decide) ?_
          refine lv_ishr hx hb dL_law_144 ?_
          refine lv_sipush (v := nI 200) hx hb dL_law_145 (by decide) ?_
          refine kc_S 2 (c_L_low l G A ad dm ct (v >>> (nI 5 &&& 31)) 200 (by decide) (by decide)) F hE hW hS kw_272 kw_273 kw_0 kw_274 (by decide +kernel) rfl ⟨rfl, rfl⟩ ⟨Nat.le_of_ble_eq_true rfl, Nat.le_of_ble_eq_true rfl⟩ hl.1 rfl (Nat.le_of_ble_eq_true rfl) dL_law_148 ⟨(by show _ ≤ 655541; omega), (by show _ ≤ 7134559; omega)⟩ (fun _ _ _ _ _ h => h.elim) (fun v w' H locs hp hW hS => ?_)
          obtain ⟨rfl, rfl⟩ := hp
          refine lv_iload hx hb dL_law_151 (lv_at hl 0 rfl) ?_
          refine lv_bipush (v := nI 7) hx hb dL_law_153 (by decide) ?_
          refine lv_ishr hx hb dL_law_155 ?_
          refine lv_sipush (v := nI 10000) hx hb dL_law_156 (by decide) ?_
          refine kc_S 2 (c_L_low l G A ad dm ct (v >>> (nI 7 &&& 31)) 10000 (by decide) (by decide)) F hE hW hS kw_272 kw_273 kw_0 kw_274 (by decide +kernel) rfl ⟨rfl, rfl⟩ ⟨Nat.le_of_ble_eq_true rfl, Nat.le_of_ble_eq_true rfl⟩ hl.1 rfl (Nat.le_of_ble_eq_true rfl) dL_law_159 ⟨(by show _ ≤ 655541; omega), (by show _ ≤ 7134559; omega)⟩ (fun _ _ _ _ _ h => h.elim) (fun v w' H locs hp hW hS => ?_)
          obtain ⟨rfl, rfl⟩ := hp
          refine kc_S 4 (c_L_isPutSo l G A ad dm ct a0 a1 S _ hst hJ hI (by omega) hN _ _ (lowN_lt (by decide)) (lowN_lt (by decide))) F hE hW hS kw_564 kw_565 kw_0 kw_566 (by decide +kernel) rfl ⟨rfl, rfl⟩ ⟨Nat.le_of_ble_eq_true rfl, Nat.le_of_ble_eq_true rfl⟩ hl.1 rfl (Nat.le_of_ble_eq_true rfl) dL_law_162 ⟨(by show _ ≤ 655541; omega), (by show _ ≤ 7134559; omega)⟩ (fun _ _ _ _ _ h => h.elim) (fun v w' H locs hp hW hS => ?_)
          obtain ⟨ad9, dm9, ct9, S9, rfl, hJ9, hI9, hN9, hP9, rfl⟩ := hp
          have hnb9 := inv_nb hI9
          refine nz_ne (tgt := 170) hx hb dL_law_165 (by decide) (by decide) (fun c9 => ?_) (fun c9 => ?_)
          · exact key170 _ _ _ _ _ _ _ _ _ ⟨hJ9, inv_eq hI9 (by omega), hN9, by omega, by omega⟩ hW hS (lv_sub hl [1, 2, 3, 4] rfl)
          · exact absurd c9 (by decide)
      clear hl hS hW hJ hI hN hc0 hs0 hnb hc2 hs2 hc3 hs3
      intro ad dm ct S H locs ls cells slots hJN hW hS hl
      refine lv_iinc (v := nI (k + 1)) (lv' := [(3, .int (nI (k + 1))), (2, .ref a1), (1, .ref a0), (0, .ref b)]) hx hb dL_law_170 hl (k := 0) rfl (ki1 _) (by decide) rfl (fun ls hl => ?_)
      refine lv_goto (tgt := 18) hx hb dL_law_173 (by decide) ?_
      exact ih (k + 1) _ _ _ _ _ _ _ _ _ (by omega) hW hS hJN (lv_sub hl [0, 1, 2, 3] rfl)
set_option maxRecDepth 100000 in
set_option maxHeartbeats 4000000 in
theorem law_end {p : Program} {l : Launch} {e : Env} {s : State} {m : MethodId} {below : List Frame} {meth : Method} {c : Code} {b L : Nat} {xs : Nat → Int32} {Q : State → Prop} {G : GG} {A : Nat → Prop} {a0 a1 : Nat}
    (F : Fx p m c cL_law 6 s #[.ref b] RL) (hst : l.stackTraces = false) (hE : VE G A s) (hXs : va_X b L xs s s.heap) (hbl : b < s.heap.size) (hbA : ¬ A b) (hL9 : L ≤ 260)
    (kend : ∀ (H : Heap) (locs : List Loc) (ls : Array Slot) (cells slots : Nat), va_S A s.heap H locs → cells ≤ 655541 → slots ≤ 7134559 → W p l e room_1 s m #[.ref b] below meth c H locs cells slots Q (F0 m 225 ls [.int 1]))
    (ad : Lb → Nat) (dm : Lb → Prop) (ct : Lb → va_E) (S : SG) (H : Heap) (locs : List Loc) (ls : Array Slot) (cells slots : Nat) (hW : wd G A (ad, dm, ct) H) (hS : va_S A s.heap H locs) (hJN : JN G a0 a1 ad dm ct S 90 cells slots) (hl : lv_has ls 6 [(3, .int (nI 90)), (2, .ref a1), (1, .ref a0), (0, .ref b)]) : W p l e room_1 s m #[.ref b] below meth c H locs cells slots Q (F0 m 176 ls []) := by
  have hx := F.1
  have hb := F.2.1
  obtain ⟨hJ, hI, hN, hc0, hs0⟩ := hJN
  have hnb := inv_nb hI
  have I1 := inv_rec hI
  have N1 := cn_rec hI hN
  have P1 := rec_P (s := S)
  have n1 := inv_nb I1
  have I2 := (inv_pa 1024 I1 (inv_room I1)).1
  have N2 := cn_pa 1024 I1 N1
  have P2 := pa_P 1024 (recS S).1
  have n2 := inv_nb I2
  refine lv_aload_n hx hb dL_law_176 rfl (lv_at hl 2 rfl) ?_
  refine lv_aload_n hx hb dL_law_177 rfl (lv_at hl 1 rfl) ?_
  refine kc_S 2 (c_L_areAlike l G A ad dm ct S _ hst hJ.1 hJ.2.1 hI) F hE hW hS kw_483 kw_484 kw_0 kw_485 (by decide +kernel) rfl ⟨rfl, rfl⟩ ⟨Nat.le_of_ble_eq_true rfl, Nat.le_of_ble_eq_true rfl⟩ hl.1 (by rw [hJ.2.2.2.1, hJ.2.2.2.2]; rfl) (Nat.le_of_ble_eq_true rfl) dL_law_178 ⟨(by show _ ≤ 655541; omega), (by show _ ≤ 7134559; omega)⟩ (fun _ _ _ _ _ h => h.elim) (fun v w' H locs hp hW hS => ?_)
  obtain ⟨rfl, rfl⟩ := hp
  refine nz_eq (tgt := 224) hx hb dL_law_181 (by decide) (by decide) (fun c9 => ?_) (fun c9 => ?_)
  · exact absurd c9 (by decide)
  · refine lv_aload_n hx hb dL_law_184 rfl (lv_at hl 2 rfl) ?_
    refine kc_S 1 (c_L_areLevelsSo l G A ad dm ct S _ hst hJ.1 hI hN) F hE hW hS kw_554 kw_555 kw_0 kw_556 (by decide +kernel) rfl ⟨rfl, rfl⟩ ⟨Nat.le_of_ble_eq_true rfl, Nat.le_of_ble_eq_true rfl⟩ hl.1 (by rw [hJ.2.2.2.1]; rfl) (Nat.le_of_ble_eq_true rfl) dL_law_185 ⟨(by show _ ≤ 655541; omega), (by show _ ≤ 7134559; omega)⟩ (fun _ _ _ _ _ h => h.elim) (fun v w' H locs hp hW hS => ?_)
    obtain ⟨rfl, rfl⟩ := hp
    refine nz_eq (tgt := 224) hx hb dL_law_188 (by decide) (by decide) (fun c9 => ?_) (fun c9 => ?_)
    · exact absurd c9 (by decide)
    · obtain ⟨S1, hS1⟩ : ∃ S1, (recS S).1 = S1 := ⟨_, rfl⟩
      rw [hS1] at I1 N1 P1 n1 I2 N2 P2 n2
      obtain ⟨S2, hS2⟩ : ∃ S2, (paS 1024 S1).1 = S2 := ⟨_, rfl⟩
      rw [hS2] at I2 N2 P2 n2
      refine lv_aload_n hx hb dL_law_191 rfl (lv_at hl 2 rfl) ?_
      refine kc_Va 0 (s_recycle l G A ad dm ct S hJ.1 _ hI) F hE hW hS (0, 0) hJ.1.o0.1 hJ.1.o0.2 hJ.2.2.2.1 rfl [] rfl kw_261 kw_262 kw_263 kw_1 kw_264 (by decide +kernel) rfl ⟨rfl, rfl⟩ ⟨Nat.le_of_ble_eq_true rfl, Nat.le_of_ble_eq_true rfl⟩ hl.1 rfl (Nat.le_of_ble_eq_true rfl) dL_law_192 ⟨(by show _ ≤ 655541; omega), (by show _ ≤ 7134559; omega)⟩ (fun _ _ _ _ _ h => h.elim) (fun v w' H locs hp hW hS => ?_)
      obtain ⟨dm8, ct8, rfl, hK8, hF8, rfl⟩ := hp
      rw [hS1] at hK8
      obtain ⟨adw1, dmw1, ctw1, hW, hJ⟩ : ∃ ad2 dm2 ct2, wd G A (ad2, dm2, ct2) _ ∧ J2 G a0 a1 ad2 dm2 ct2 S1 S := ⟨_, _, _, hW, hJ.one hF8 hK8⟩
      refine lv_aload_n hx hb dL_law_195 rfl (lv_at hl 1 rfl) ?_
      refine kc_Va 0 (s_recycle l G A (fun z => adw1 (sg z)) (fun z => dmw1 (sg z)) (fun z => ctw1 (sg z)) S hJ.2.1 _ hI) F hE (wd_sw hW) hS (0, 0) hJ.2.1.o0.1 hJ.2.1.o0.2 hJ.2.2.2.2 rfl [] rfl kw_261 kw_262 kw_263 kw_1 kw_264 (by decide +kernel) rfl ⟨rfl, rfl⟩ ⟨Nat.le_of_ble_eq_true rfl, Nat.le_of_ble_eq_true rfl⟩ hl.1 rfl (Nat.le_of_ble_eq_true rfl) dL_law_196 ⟨(by show _ ≤ 655541; omega), (by show _ ≤ 7134559; omega)⟩ (fun _ _ _ _ _ h => h.elim) (fun v w' H locs hp hW hS => ?_)
      obtain ⟨dm8, ct8, rfl, hK8, hF8, rfl⟩ := hp
      rw [hS1] at hK8
      obtain ⟨adw2, dmw2, ctw2, hW, hJ⟩ : ∃ ad2 dm2 ct2, wd G A (ad2, dm2, ct2) _ ∧ J2 G a0 a1 ad2 dm2 ct2 S1 S1 := ⟨_, _, _, wd_sw hW, hJ.two hF8 hK8⟩
      refine lv_icmp_ne (tgt := 224) hx hb dL_law_199 (by decide) (fun c9 => ?_) (fun c9 => ?_)
      · exact absurd rfl c9
      · refine lv_aload_n hx hb dL_law_202 rfl (lv_at hl 2 rfl) ?_
        refine kc_Va 0 (s_postAll l G A adw2 dmw2 ctw2 S1 hJ.1 _ I1) F hE hW hS (0, 0) hJ.1.o0.1 hJ.1.o0.2 hJ.2.2.2.1 rfl [] rfl kw_130 kw_131 kw_132 kw_1 kw_133 (by decide +kernel) rfl ⟨rfl, rfl⟩ ⟨Nat.le_of_ble_eq_true rfl, Nat.le_of_ble_eq_true rfl⟩ hl.1 rfl (Nat.le_of_ble_eq_true rfl) dL_law_203 ⟨(by show _ ≤ 655541; omega), (by show _ ≤ 7134559; omega)⟩ (fun _ _ _ _ _ h => h.elim) (fun v w' H locs hp hW hS => ?_)
        obtain ⟨ad8, dm8, ct8, rfl, hF8, hK8, rfl⟩ := hp
        rw [hS2] at hK8
        obtain ⟨adw3, dmw3, ctw3, hW, hJ⟩ : ∃ ad2 dm2 ct2, wd G A (ad2, dm2, ct2) _ ∧ J2 G a0 a1 ad2 dm2 ct2 S2 S1 := ⟨_, _, _, hW, hJ.one hF8 hK8⟩
        refine lv_aload_n hx hb dL_law_206 rfl (lv_at hl 1 rfl) ?_
        refine kc_Va 0 (s_postAll l G A (fun z => adw3 (sg z)) (fun z => dmw3 (sg z)) (fun z => ctw3 (sg z)) S1 hJ.2.1 _ I1) F hE (wd_sw hW) hS (0, 0) hJ.2.1.o0.1 hJ.2.1.o0.2 hJ.2.2.2.2 rfl [] rfl kw_130 kw_131 kw_132 kw_1 kw_133 (by decide +kernel) rfl ⟨rfl, rfl⟩ ⟨Nat.le_of_ble_eq_true rfl, Nat.le_of_ble_eq_true rfl⟩ hl.1 rfl (Nat.le_of_ble_eq_true rfl) dL_law_207 ⟨(by show _ ≤ 655541; omega), (by show _ ≤ 7134559; omega)⟩ (fun _ _ _ _ _ h => h.elim) (fun v w' H locs hp hW hS => ?_)
        obtain ⟨ad8, dm8, ct8, rfl, hF8, hK8, rfl⟩ := hp
        rw [hS2] at hK8
        obtain ⟨adw4, dmw4, ctw4, hW, hJ⟩ : ∃ ad2 dm2 ct2, wd G A (ad2, dm2, ct2) _ ∧ J2 G a0 a1 ad2 dm2 ct2 S2 S2 := ⟨_, _, _, wd_sw hW, hJ.two hF8 hK8⟩
        refine lv_icmp_ne (tgt := 224) hx hb dL_law_210 (by decide) (fun c9 => ?_) (fun c9 => ?_)
        · exact absurd rfl c9
        · refine lv_aload_n hx hb dL_law_213 rfl (lv_at hl 2 rfl) ?_
          refine kc_S 1 (c_L_areLevelsSo l G A adw4 dmw4 ctw4 S2 _ hst hJ.1 I2 N2) F hE hW hS kw_554 kw_555 kw_0 kw_556 (by decide +kernel) rfl ⟨rfl, rfl⟩ ⟨Nat.le_of_ble_eq_true rfl, Nat.le_of_ble_eq_true rfl⟩ hl.1 (by rw [hJ.2.2.2.1]; rfl) (Nat.le_of_ble_eq_true rfl) dL_law_214 ⟨(by show _ ≤ 655541; omega), (by show _ ≤ 7134559; omega)⟩ (fun _ _ _ _ _ h => h.elim) (fun v w' H locs hp hW hS => ?_)
          obtain ⟨rfl, rfl⟩ := hp
          refine nz_eq (tgt := 224) hx hb dL_law_217 (by decide) (by decide) (fun c9 => ?_) (fun c9 => ?_)
          · exact absurd c9 (by decide)
          · refine lv_iconst (v := 1) hx hb dL_law_220 (by decide) ?_
            refine lv_goto (tgt := 225) hx hb dL_law_221 (by decide) ?_
            exact kend _ _ _ _ _ hS (by omega) (by omega)
