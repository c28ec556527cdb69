/-! The law: the calls that may throw, both sides. -/
set_option maxRecDepth 100000 in
set_option maxHeartbeats 4000000 in
theorem lc_put {p : Program} {l : Launch} {e : Env} {s : State} {m : MethodId} {below : List Frame} {meth : Method} {c : Code} {b L : Nat} {xs : Nat → Int32} {Q : State → Prop} {G : GG} {A : Nat → Prop} {ad : Lb → Nat} {dm : Lb → Prop} {ct : Lb → va_E} {S : SG} {H : Heap} {locs : List Loc} {cells slots i a0 a1 a2 : Nat} {ls : Array Slot}
    (F : Fx p m c cL_law 7 s #[.ref b] RL) (hst : l.stackTraces = false) (hE : VE G A s) (hXs : va_X b L xs s s.heap) (hbl : b < s.heap.size) (hbA : ¬ A b) (hi9 : 3 * i + 3 ≤ L) (hL9 : L ≤ 1536) (hW : wd G A (ad, dm, ct) H) (hS : va_S A s.heap H locs) (hJ : JN G a0 a1 a2 ad dm ct S i cells slots) (hl : lv_has ls 7 [(4, .int (nI (3 * i))), (3, .ref a2), (2, .ref a1), (1, .ref a0), (0, .ref b)])
    (kk : ∀ (ad2 : Lb → Nat) (dm2 : Lb → Prop) (ct2 : Lb → va_E) (S2 : SG) (H2 : Heap) (locs2 : List Loc) (ls2 : Array Slot) (cells2 slots2 : Nat), wd G A (ad2, dm2, ct2) H2 → va_S A s.heap H2 locs2 → JN G a0 a1 a2 ad2 dm2 ct2 S2 (i + 1) cells2 slots2 → lv_has ls2 7 [(4, .int (nI (3 * i))), (3, .ref a2), (2, .ref a1), (1, .ref a0), (0, .ref b)] → W p l e room_1 s m #[.ref b] below meth c H2 locs2 cells2 slots2 Q (F0 m 1189 ls2 [])) :
    W p l e room_1 s m #[.ref b] below meth c H locs cells slots Q (F0 m 152 ls []) := by
  have hx := F.1
  have hb := F.2.1
  obtain ⟨hcb, hsb⟩ := hJ.room
  have hJ0 := hJ
  obtain ⟨hK, ⟨th0, fo0, hM⟩, hI, ⟨ha0, ha1, ha2⟩, ⟨hO1, fO, hO2⟩, h7, -, -⟩ := hJ
  have ht9 : i < 512 := by omega
  have hIu := inv_up hI ht9
  obtain ⟨lv, lev, lo, hi, ri, sz, ky, vl, go, rt, ep, wq, wn, cn, op, cl, ca, ce, kc, nb⟩ := S
  have hH : HKF G ad dm ct lv lev lo hi ri sz ky vl go rt ep wq wn cn op cl ca ce kc nb := hK
  have hMf : MDF G ad dm ct lv lev lo hi ri sz ky vl go rt ep wq wn cn op cl ca ce kc nb th0 fo0 := hM
  have hIf : InvF lv lev lo hi ri sz ky vl go rt ep wq wn cn op cl ca ce kc nb 800 i := hI
  have hP := hIf.1
  have hnb : nb ≤ 513 := by have := hIf.2.2.2.2; omega
  have hcn9 := hIf.2.2.1.1
  obtain ⟨x, hx1⟩ : ∃ x, xs (nI (3 * i + 1)).toNatClampNeg = x := ⟨_, rfl⟩
  obtain ⟨y, hx2⟩ : ∃ x, xs (nI (3 * i + 2)).toNatClampNeg = x := ⟨_, rfl⟩
  refine lv_aload_n hx hb dL_law_152 rfl (lv_at hl 3 rfl) ?_
  refine lv_aload_n hx hb dL_law_153 rfl (lv_at hl 4 rfl) ?_
  refine lv_iload hx hb dL_law_154 (lv_at hl 0 rfl) ?_
  refine lv_iconst (v := nI 1) hx hb dL_law_156 (by decide) ?_
  refine lv_iadd hx hb dL_law_157 ?_
  refine ktop (nI_add _ _) ?_
  refine va_sld hx hb hXs hbl hbA hS (nI_vp (j := 3 * i + 1) rfl (by omega) (by omega)) dL_law_158 ?_
  refine ktop hx1 ?_
  refine lv_aload_n hx hb dL_law_159 rfl (lv_at hl 4 rfl) ?_
  refine lv_iload hx hb dL_law_160 (lv_at hl 0 rfl) ?_
  refine lv_iconst (v := nI 2) hx hb dL_law_162 (by decide) ?_
  refine lv_iadd hx hb dL_law_163 ?_
  refine ktop (nI_add _ _) ?_
  refine va_sld hx hb hXs hbl hbA hS (nI_vp (j := 3 * i + 2) rfl (by omega) (by omega)) dL_law_164 ?_
  refine ktop hx2 ?_
  refine lv_aload_n hx hb dL_law_165 rfl (lv_at hl 1 rfl) ?_
  refine kc_SH 4 (w_put l G A ad dm ct x y hH.1.1 hH.2.1 (c_X2_put l G A ad dm ct lv lev lo hi ri sz ky vl go rt ep wq wn cn op cl ca ce kc nb hst hH i hIf x y) (fun v w1 h => by obtain ⟨ad2, dm2, ct2, rfl, hF, key, hk, rfl, u, hu, rfl, hK2, hv⟩ := h; exact ⟨(hF.1 (20, 0) (by decide)).2.2.mpr hO1, (hF.1 (20, 0) (by decide)).1, ⟨fO, (hF.1 (20, 0) (by decide)).2.1.trans hO2⟩, _, hv⟩) (fun E h => h.1)) F hE hW hS kw_316 kw_317 kw_0 kw_318 (by decide +kernel) rfl ⟨rfl, rfl⟩ ⟨(Nat.le_of_ble_eq_true rfl), (Nat.le_of_ble_eq_true rfl)⟩ hl.1 (by rw [ha0, ha2]; rfl) (Nat.le_of_ble_eq_true rfl) dL_law_166 ⟨by show cells + 7 ≤ 601024; omega, by show slots + 838 ≤ 7293034; omega⟩ (fun v w9 H locs hp hW hS => ?_)
  rcases hp with ⟨ans, w1, f1, hp, e1, e2, e3, e4, rfl⟩ | ⟨E, hpx, rfl, rfl⟩
  · obtain ⟨ad9, dm9, ct9⟩ := w9
    obtain ⟨ad2, dm2, ct2, rfl, hF, key, hk, rfl, u, hu, rfl, hK2, hv⟩ := hp
    cases hv
    dsimp only at e1 e2 e3 e4
    obtain rfl := e1.symm
    obtain rfl := e2.symm
    have hM9 : MDF G ad2 dm2 ct9 lv lev lo hi ri sz ky vl go rt ep wq wn cn op cl ca ce kc nb th0 fo0 := md_pass hM hF e4
    have hb1 : ad2 (10, 0) = a1 := (hF.1 (10, 0) (by decide)).1.trans ha1
    have hb2 : ad2 (20, 0) = a2 := (hF.1 (20, 0) (by decide)).1.trans ha2
    have hO9 : dm2 (20, 0) := (hF.1 (20, 0) (by decide)).2.2.mpr hO1
    refine lv_istore (lv' := [(5, .int (nI 0)), (4, .int (nI (3 * i))), (3, .ref a2), (2, .ref a1), (1, .ref a0), (0, .ref b)]) hx hb dL_law_169 hl (by decide) rfl (fun ls hl => ?_)
    refine lv_aload_n hx hb dL_law_171 rfl (lv_at hl 3 rfl) ?_
    refine lv_aload_n hx hb dL_law_172 rfl (lv_at hl 5 rfl) ?_
    refine lv_iload hx hb dL_law_173 (lv_at hl 1 rfl) ?_
    refine lv_iconst (v := nI 1) hx hb dL_law_175 (by decide) ?_
    refine lv_iadd hx hb dL_law_176 ?_
    refine ktop (nI_add _ _) ?_
    refine va_sld hx hb hXs hbl hbA hS (nI_vp (j := 3 * i + 1) rfl (by omega) (by omega)) dL_law_177 ?_
    refine ktop hx1 ?_
    refine lv_aload_n hx hb dL_law_178 rfl (lv_at hl 5 rfl) ?_
    refine lv_iload hx hb dL_law_179 (lv_at hl 1 rfl) ?_
    refine lv_iconst (v := nI 2) hx hb dL_law_181 (by decide) ?_
    refine lv_iadd hx hb dL_law_182 ?_
    refine ktop (nI_add _ _) ?_
    refine va_sld hx hb hXs hbl hbA hS (nI_vp (j := 3 * i + 2) rfl (by omega) (by omega)) dL_law_183 ?_
    refine ktop hx2 ?_
    refine kc_Va 2 (c_X3_put l G A ad2 dm2 ct9 lv lev lo hi ri sz ky vl go rt ep wq wn cn op cl ca ce kc nb th0 fo0 hM9 i hIf (nI key) (nI u)) F hE hW hS (10, 0) (hM9.1 0 (by decide)) hM9.2.1 hb1 rfl [.int (nI key), .int (nI u)] rfl kw_672 kw_673 kw_674 kw_6 kw_675 (by decide +kernel) rfl ⟨rfl, rfl⟩ ⟨Nat.le_of_ble_eq_true rfl, Nat.le_of_ble_eq_true rfl⟩ hl.1 rfl (Nat.le_of_ble_eq_true rfl) dL_law_184 ⟨by show cells + 7 + 0 ≤ 601024; omega, by show slots + 838 + 0 ≤ 7293034; omega⟩ (fun _ _ _ _ _ h => h.elim) (fun v w' H locs hp hW hS => ?_)
    obtain ⟨ct3, th3, fo3, s3, rfl, hM3, hXM, hcs⟩ := hp
    rcases hcs with ⟨k2, hk2, hxe, u2, hu2, hye, rfl, rfl, rfl⟩ | ⟨hbad, rfl, rfl, rfl⟩
    · obtain rfl : key = k2 := nI_inj (by omega) (by omega) hxe
      obtain rfl : u = u2 := nI_inj (by omega) (by omega) hye
      refine lv_istore (lv' := [(6, .int (oI (putS (lv, lev, lo, hi, ri, sz, ky, vl, go, rt, ep, wq, wn, cn, op, cl, ca, ce, kc, nb) key u).2)), (5, .int (nI 0)), (4, .int (nI (3 * i))), (3, .ref a2), (2, .ref a1), (1, .ref a0), (0, .ref b)]) hx hb dL_law_187 hl (by decide) rfl (fun ls hl => ?_)
      refine lv_aload_n hx hb dL_law_189 rfl (lv_at hl 4 rfl) ?_
      obtain ⟨hT1, fsT, hT2⟩ := MD.o0 (s := (putS (lv, lev, lo, hi, ri, sz, ky, vl, go, rt, ep, wq, wn, cn, op, cl, ca, ce, kc, nb) key u).1) hM3
      refine kc_Va 0 (c_thrown l G A ad2 dm2 ct3 ((putS (lv, lev, lo, hi, ri, sz, ky, vl, go, rt, ep, wq, wn, cn, op, cl, ca, ce, kc, nb) key u).1) _ _ hM3) F hE hW hS (10, 0) hT1 hT2 hb1 rfl [] rfl kw_668 kw_669 kw_670 kw_6 kw_671 (by decide +kernel) rfl ⟨rfl, rfl⟩ ⟨Nat.le_of_ble_eq_true rfl, Nat.le_of_ble_eq_true rfl⟩ hl.1 rfl (Nat.le_of_ble_eq_true rfl) dL_law_190 ⟨by show cells + 7 + 0 + 0 ≤ 601024; omega, by show slots + 838 + 0 + 0 ≤ 7293034; omega⟩ (fun _ _ _ _ _ h => h.elim) (fun v w' H locs hp hW hS => ?_)
      obtain ⟨rfl, rfl⟩ := hp
      refine lv_iload hx hb dL_law_193 (lv_at hl 1 rfl) ?_
      refine nc_eq (tgt := 200) hx hb dL_law_195 (by decide) (by decide) (by decide) (fun c1 => ?_) (fun c1 => ?_)
      · refine lv_iload hx hb dL_law_200 (lv_at hl 1 rfl) ?_
        refine nz_ne (tgt := 217) hx hb dL_law_202 (by decide) (by decide) (fun c2 => ?_) (fun c2 => ?_)
        · exact absurd rfl c2
        · refine lv_aload_n hx hb dL_law_205 rfl (lv_at hl 3 rfl) ?_
          refine lv_iconst (v := nI 0) hx hb dL_law_206 (by decide) ?_
          refine kl_l F hE hW (20, 0) hO9 hb2 ((hXM (20, 0) (by decide)).trans e3) 0 rfl (by decide) (by decide) dL_law_207 ?_
          refine ktopv (congrArg Value.long (va_up_self _ _ _)) ?_
          refine lv_iload hx hb dL_law_208 (lv_at hl 0 rfl) ?_
          refine lv_i2l hx hb dL_law_210 rfl ?_
          refine lq_lcmp hx hb dL_law_211 ?_
          refine nz_eq (tgt := 217) hx hb dL_law_212 (by decide) (by decide) (fun c9 => ?_) (fun c9 => ?_)
          · refine lv_goto (tgt := 1189) hx hb dL_law_217 (by decide) ?_
            exact kk _ _ _ _ _ _ _ _ _ hW hS (jn_mk (0) hJ0 hF hK2 e3 e4 hXM hM3 (inv_put hI ht9 hk hu) put_P (by show cells + 7 + 0 + 0 ≤ _; omega) (by show slots + 838 + 0 + 0 ≤ _; omega)) (lv_sub hl [2, 3, 4, 5, 6] rfl)
          · exact absurd c9 (by decide)
      · exact absurd rfl c1
    · rcases hbad with h | h
      · exact absurd rfl (h key hk)
      · exact absurd rfl (h u hu)
  · refine ktop (y := nI 1) rfl ?_
    refine lv_istore (lv' := [(5, .int (nI 1)), (4, .int (nI (3 * i))), (3, .ref a2), (2, .ref a1), (1, .ref a0), (0, .ref b)]) hx hb dL_law_169 hl (by decide) rfl (fun ls hl => ?_)
    refine lv_aload_n hx hb dL_law_171 rfl (lv_at hl 3 rfl) ?_
    refine lv_aload_n hx hb dL_law_172 rfl (lv_at hl 5 rfl) ?_
    refine lv_iload hx hb dL_law_173 (lv_at hl 1 rfl) ?_
    refine lv_iconst (v := nI 1) hx hb dL_law_175 (by decide) ?_
    refine lv_iadd hx hb dL_law_176 ?_
    refine ktop (nI_add _ _) ?_
    refine va_sld hx hb hXs hbl hbA hS (nI_vp (j := 3 * i + 1) rfl (by omega) (by omega)) dL_law_177 ?_
    refine ktop hx1 ?_
    refine lv_aload_n hx hb dL_law_178 rfl (lv_at hl 5 rfl) ?_
    refine lv_iload hx hb dL_law_179 (lv_at hl 1 rfl) ?_
    refine lv_iconst (v := nI 2) hx hb dL_law_181 (by decide) ?_
    refine lv_iadd hx hb dL_law_182 ?_
    refine ktop (nI_add _ _) ?_
    refine va_sld hx hb hXs hbl hbA hS (nI_vp (j := 3 * i + 2) rfl (by omega) (by omega)) dL_law_183 ?_
    refine ktop hx2 ?_
    have hF : FH ad dm ct ad dm ct := FH.rf
    have hM9 := hMf
    have hb1 : ad (10, 0) = a1 := ha1
    refine kc_Va 2 (c_X3_put l G A ad dm ct lv lev lo hi ri sz ky vl go rt ep wq wn cn op cl ca ce kc nb th0 fo0 hMf i hIf x y) F hE hW hS (10, 0) (hM9.1 0 (by decide)) hM9.2.1 hb1 rfl [.int x, .int y] rfl kw_672 kw_673 kw_674 kw_6 kw_675 (by decide +kernel) rfl ⟨rfl, rfl⟩ ⟨Nat.le_of_ble_eq_true rfl, Nat.le_of_ble_eq_true rfl⟩ hl.1 rfl (Nat.le_of_ble_eq_true rfl) dL_law_184 ⟨by show cells + 7 + 0 ≤ 601024; omega, by show slots + 838 + 0 ≤ 7293034; omega⟩ (fun _ _ _ _ _ h => h.elim) (fun v w' H locs hp hW hS => ?_)
    obtain ⟨ct3, th3, fo3, s3, rfl, hM3, hXM, hcs⟩ := hp
    rcases hcs with ⟨k2, hk2, hxe, u2, hu2, hye, rfl, rfl, rfl⟩ | ⟨hbad, rfl, rfl, rfl⟩
    · rcases hpx.2 with h | h
      · exact absurd hxe (h k2 hk2)
      · exact absurd hye (h u2 hu2)
    · refine lv_istore (lv' := [(6, .int (nI 0)), (5, .int (nI 1)), (4, .int (nI (3 * i))), (3, .ref a2), (2, .ref a1), (1, .ref a0), (0, .ref b)]) hx hb dL_law_187 hl (by decide) rfl (fun ls hl => ?_)
      refine lv_aload_n hx hb dL_law_189 rfl (lv_at hl 4 rfl) ?_
      obtain ⟨hT1, fsT, hT2⟩ := MD.o0 (s := (lv, lev, lo, hi, ri, sz, ky, vl, go, rt, ep, wq, wn, cn, op, cl, ca, ce, kc, nb)) hM3
      refine kc_Va 0 (c_thrown l G A ad dm ct3 (lv, lev, lo, hi, ri, sz, ky, vl, go, rt, ep, wq, wn, cn, op, cl, ca, ce, kc, nb) _ _ hM3) F hE hW hS (10, 0) hT1 hT2 hb1 rfl [] rfl kw_668 kw_669 kw_670 kw_6 kw_671 (by decide +kernel) rfl ⟨rfl, rfl⟩ ⟨Nat.le_of_ble_eq_true rfl, Nat.le_of_ble_eq_true rfl⟩ hl.1 rfl (Nat.le_of_ble_eq_true rfl) dL_law_190 ⟨by show cells + 7 + 0 + 0 ≤ 601024; omega, by show slots + 838 + 0 + 0 ≤ 7293034; omega⟩ (fun _ _ _ _ _ h => h.elim) (fun v w' H locs hp hW hS => ?_)
      obtain ⟨rfl, rfl⟩ := hp
      refine lv_iload hx hb dL_law_193 (lv_at hl 1 rfl) ?_
      refine nc_eq (tgt := 200) hx hb dL_law_195 (by decide) (by decide) (by decide) (fun c1 => ?_) (fun c1 => ?_)
      · refine lv_iload hx hb dL_law_200 (lv_at hl 1 rfl) ?_
        refine nz_ne (tgt := 217) hx hb dL_law_202 (by decide) (by decide) (fun c2 => ?_) (fun c2 => ?_)
        · refine lv_goto (tgt := 1189) hx hb dL_law_217 (by decide) ?_
          exact kk _ _ _ _ _ _ _ _ _ hW hS (jn_mk (0) hJ0 hF hK hO2 (fun _ _ => rfl) hXM hM3 hIu (Nat.le_refl _) (by show cells + 7 + 0 + 0 ≤ _; omega) (by show slots + 838 + 0 + 0 ≤ _; omega)) (lv_sub hl [2, 3, 4, 5, 6] rfl)
        · exact absurd c2 (by decide)
      · exact absurd rfl c1
set_option maxRecDepth 100000 in
set_option maxHeartbeats 4000000 in
theorem lc_take {p : Program} {l : Launch} {e : Env} {s : State} {m : MethodId} {below : List Frame} {meth : Method} {c : Code} {b L : Nat} {xs : Nat → Int32} {Q : State → Prop} {G : GG} {A : Nat → Prop} {ad : Lb → Nat} {dm : Lb → Prop} {ct : Lb → va_E} {S : SG} {H : Heap} {locs : List Loc} {cells slots i a0 a1 a2 : Nat} {ls : Array Slot}
    (F : Fx p m c cL_law 7 s #[.ref b] RL) (hst : l.stackTraces = false) (hE : VE G A s) (hXs : va_X b L xs s s.heap) (hbl : b < s.heap.size) (hbA : ¬ A b) (hi9 : 3 * i + 3 ≤ L) (hL9 : L ≤ 1536) (hW : wd G A (ad, dm, ct) H) (hS : va_S A s.heap H locs) (hJ : JN G a0 a1 a2 ad dm ct S i cells slots) (hl : lv_has ls 7 [(4, .int (nI (3 * i))), (3, .ref a2), (2, .ref a1), (1, .ref a0), (0, .ref b)])
    (kk : ∀ (ad2 : Lb → Nat) (dm2 : Lb → Prop) (ct2 : Lb → va_E) (S2 : SG) (H2 : Heap) (locs2 : List Loc) (ls2 : Array Slot) (cells2 slots2 : Nat), wd G A (ad2, dm2, ct2) H2 → va_S A s.heap H2 locs2 → JN G a0 a1 a2 ad2 dm2 ct2 S2 (i + 1) cells2 slots2 → lv_has ls2 7 [(4, .int (nI (3 * i))), (3, .ref a2), (2, .ref a1), (1, .ref a0), (0, .ref b)] → W p l e room_1 s m #[.ref b] below meth c H2 locs2 cells2 slots2 Q (F0 m 1189 ls2 [])) :
    W p l e room_1 s m #[.ref b] below meth c H locs cells slots Q (F0 m 220 ls []) := by
  have hx := F.1
  have hb := F.2.1
  obtain ⟨hcb, hsb⟩ := hJ.room
  have hJ0 := hJ
  obtain ⟨hK, ⟨th0, fo0, hM⟩, hI, ⟨ha0, ha1, ha2⟩, ⟨hO1, fO, hO2⟩, h7, -, -⟩ := hJ
  have ht9 : i < 512 := by omega
  have hIu := inv_up hI ht9
  obtain ⟨lv, lev, lo, hi, ri, sz, ky, vl, go, rt, ep, wq, wn, cn, op, cl, ca, ce, kc, nb⟩ := S
  have hH : HKF G ad dm ct lv lev lo hi ri sz ky vl go rt ep wq wn cn op cl ca ce kc nb := hK
  have hMf : MDF G ad dm ct lv lev lo hi ri sz ky vl go rt ep wq wn cn op cl ca ce kc nb th0 fo0 := hM
  have hIf : InvF lv lev lo hi ri sz ky vl go rt ep wq wn cn op cl ca ce kc nb 800 i := hI
  have hP := hIf.1
  have hnb : nb ≤ 513 := by have := hIf.2.2.2.2; omega
  have hcn9 := hIf.2.2.1.1
  obtain ⟨x, hx1⟩ : ∃ x, xs (nI (3 * i + 1)).toNatClampNeg = x := ⟨_, rfl⟩
  refine lv_aload_n hx hb dL_law_220 rfl (lv_at hl 3 rfl) ?_
  refine lv_aload_n hx hb dL_law_221 rfl (lv_at hl 4 rfl) ?_
  refine lv_iload hx hb dL_law_222 (lv_at hl 0 rfl) ?_
  refine lv_iconst (v := nI 1) hx hb dL_law_224 (by decide) ?_
  refine lv_iadd hx hb dL_law_225 ?_
  refine ktop (nI_add _ _) ?_
  refine va_sld hx hb hXs hbl hbA hS (nI_vp (j := 3 * i + 1) rfl (by omega) (by omega)) dL_law_226 ?_
  refine ktop hx1 ?_
  refine lv_aload_n hx hb dL_law_227 rfl (lv_at hl 1 rfl) ?_
  refine kc_SH 3 (w_take l G A ad dm ct x hH.1.1 hH.2.1 (c_X2_take l G A ad dm ct lv lev lo hi ri sz ky vl go rt ep wq wn cn op cl ca ce kc nb hst hH i hIf x) (fun v w1 h => by obtain ⟨ad2, dm2, ct2, rfl, hF, key, hk, rfl, hK2, hv⟩ := h; exact ⟨(hF.1 (20, 0) (by decide)).2.2.mpr hO1, (hF.1 (20, 0) (by decide)).1, ⟨fO, (hF.1 (20, 0) (by decide)).2.1.trans hO2⟩, _, hv⟩) (fun E h => h.1)) F hE hW hS kw_407 kw_408 kw_0 kw_409 (by decide +kernel) rfl ⟨rfl, rfl⟩ ⟨(Nat.le_of_ble_eq_true rfl), (Nat.le_of_ble_eq_true rfl)⟩ hl.1 (by rw [ha0, ha2]; rfl) (Nat.le_of_ble_eq_true rfl) dL_law_228 ⟨by show cells + 1 ≤ 601024; omega, by show slots + 6 ≤ 7293034; omega⟩ (fun v w9 H locs hp hW hS => ?_)
  rcases hp with ⟨ans, w1, f1, hp, e1, e2, e3, e4, rfl⟩ | ⟨E, hpx, rfl, rfl⟩
  · obtain ⟨ad9, dm9, ct9⟩ := w9
    obtain ⟨ad2, dm2, ct2, rfl, hF, key, hk, rfl, hK2, hv⟩ := hp
    cases hv
    dsimp only at e1 e2 e3 e4
    obtain rfl := e1.symm
    obtain rfl := e2.symm
    have hM9 : MDF G ad2 dm2 ct9 lv lev lo hi ri sz ky vl go rt ep wq wn cn op cl ca ce kc nb th0 fo0 := md_pass hM hF e4
    have hb1 : ad2 (10, 0) = a1 := (hF.1 (10, 0) (by decide)).1.trans ha1
    have hb2 : ad2 (20, 0) = a2 := (hF.1 (20, 0) (by decide)).1.trans ha2
    have hO9 : dm2 (20, 0) := (hF.1 (20, 0) (by decide)).2.2.mpr hO1
    refine lv_istore (lv' := [(5, .int (nI 0)), (4, .int (nI (3 * i))), (3, .ref a2), (2, .ref a1), (1, .ref a0), (0, .ref b)]) hx hb dL_law_231 hl (by decide) rfl (fun ls hl => ?_)
    refine lv_aload_n hx hb dL_law_233 rfl (lv_at hl 3 rfl) ?_
    refine lv_aload_n hx hb dL_law_234 rfl (lv_at hl 5 rfl) ?_
    refine lv_iload hx hb dL_law_235 (lv_at hl 1 rfl) ?_
    refine lv_iconst (v := nI 1) hx hb dL_law_237 (by decide) ?_
    refine lv_iadd hx hb dL_law_238 ?_
    refine ktop (nI_add _ _) ?_
    refine va_sld hx hb hXs hbl hbA hS (nI_vp (j := 3 * i + 1) rfl (by omega) (by omega)) dL_law_239 ?_
    refine ktop hx1 ?_
    refine kc_Va 1 (c_X3_take l G A ad2 dm2 ct9 lv lev lo hi ri sz ky vl go rt ep wq wn cn op cl ca ce kc nb th0 fo0 hM9 i hIf (nI key)) F hE hW hS (10, 0) (hM9.1 0 (by decide)) hM9.2.1 hb1 rfl [.int (nI key)] rfl kw_710 kw_711 kw_712 kw_6 kw_713 (by decide +kernel) rfl ⟨rfl, rfl⟩ ⟨Nat.le_of_ble_eq_true rfl, Nat.le_of_ble_eq_true rfl⟩ hl.1 rfl (Nat.le_of_ble_eq_true rfl) dL_law_240 ⟨by show cells + 1 + 0 ≤ 601024; omega, by show slots + 6 + 0 ≤ 7293034; omega⟩ (fun _ _ _ _ _ h => h.elim) (fun v w' H locs hp hW hS => ?_)
    obtain ⟨ct3, th3, fo3, s3, rfl, hM3, hXM, hcs⟩ := hp
    rcases hcs with ⟨k2, hk2, hxe, rfl, rfl, rfl⟩ | ⟨hbad, rfl, rfl, rfl⟩
    · obtain rfl : key = k2 := nI_inj (by omega) (by omega) hxe
      refine lv_istore (lv' := [(6, .int (oI (takS (lv, lev, lo, hi, ri, sz, ky, vl, go, rt, ep, wq, wn, cn, op, cl, ca, ce, kc, nb) key).2)), (5, .int (nI 0)), (4, .int (nI (3 * i))), (3, .ref a2), (2, .ref a1), (1, .ref a0), (0, .ref b)]) hx hb dL_law_243 hl (by decide) rfl (fun ls hl => ?_)
      refine lv_aload_n hx hb dL_law_245 rfl (lv_at hl 4 rfl) ?_
      obtain ⟨hT1, fsT, hT2⟩ := MD.o0 (s := (takS (lv, lev, lo, hi, ri, sz, ky, vl, go, rt, ep, wq, wn, cn, op, cl, ca, ce, kc, nb) key).1) hM3
      refine kc_Va 0 (c_thrown l G A ad2 dm2 ct3 ((takS (lv, lev, lo, hi, ri, sz, ky, vl, go, rt, ep, wq, wn, cn, op, cl, ca, ce, kc, nb) key).1) _ _ hM3) F hE hW hS (10, 0) hT1 hT2 hb1 rfl [] rfl kw_668 kw_669 kw_670 kw_6 kw_671 (by decide +kernel) rfl ⟨rfl, rfl⟩ ⟨Nat.le_of_ble_eq_true rfl, Nat.le_of_ble_eq_true rfl⟩ hl.1 rfl (Nat.le_of_ble_eq_true rfl) dL_law_246 ⟨by show cells + 1 + 0 + 0 ≤ 601024; omega, by show slots + 6 + 0 + 0 ≤ 7293034; omega⟩ (fun _ _ _ _ _ h => h.elim) (fun v w' H locs hp hW hS => ?_)
      obtain ⟨rfl, rfl⟩ := hp
      refine lv_iload hx hb dL_law_249 (lv_at hl 1 rfl) ?_
      refine nc_eq (tgt := 256) hx hb dL_law_251 (by decide) (by decide) (by decide) (fun c1 => ?_) (fun c1 => ?_)
      · refine lv_iload hx hb dL_law_256 (lv_at hl 1 rfl) ?_
        refine nz_ne (tgt := 273) hx hb dL_law_258 (by decide) (by decide) (fun c2 => ?_) (fun c2 => ?_)
        · exact absurd rfl c2
        · refine lv_aload_n hx hb dL_law_261 rfl (lv_at hl 3 rfl) ?_
          refine lv_iconst (v := nI 0) hx hb dL_law_262 (by decide) ?_
          refine kl_l F hE hW (20, 0) hO9 hb2 ((hXM (20, 0) (by decide)).trans e3) 0 rfl (by decide) (by decide) dL_law_263 ?_
          refine ktopv (congrArg Value.long (va_up_self _ _ _)) ?_
          refine lv_iload hx hb dL_law_264 (lv_at hl 0 rfl) ?_
          refine lv_i2l hx hb dL_law_266 rfl ?_
          refine lq_lcmp hx hb dL_law_267 ?_
          refine nz_eq (tgt := 273) hx hb dL_law_268 (by decide) (by decide) (fun c9 => ?_) (fun c9 => ?_)
          · refine lv_goto (tgt := 1189) hx hb dL_law_273 (by decide) ?_
            exact kk _ _ _ _ _ _ _ _ _ hW hS (jn_mk (0) hJ0 hF hK2 e3 e4 hXM hM3 (inv_up (inv_tak hI hk) ht9) tak_P (by show cells + 1 + 0 + 0 ≤ _; omega) (by show slots + 6 + 0 + 0 ≤ _; omega)) (lv_sub hl [2, 3, 4, 5, 6] rfl)
          · exact absurd c9 (by decide)
      · exact absurd rfl c1
    · exact absurd rfl (hbad key hk)
  · refine ktop (y := nI 1) rfl ?_
    refine lv_istore (lv' := [(5, .int (nI 1)), (4, .int (nI (3 * i))), (3, .ref a2), (2, .ref a1), (1, .ref a0), (0, .ref b)]) hx hb dL_law_231 hl (by decide) rfl (fun ls hl => ?_)
    refine lv_aload_n hx hb dL_law_233 rfl (lv_at hl 3 rfl) ?_
    refine lv_aload_n hx hb dL_law_234 rfl (lv_at hl 5 rfl) ?_
    refine lv_iload hx hb dL_law_235 (lv_at hl 1 rfl) ?_
    refine lv_iconst (v := nI 1) hx hb dL_law_237 (by decide) ?_
    refine lv_iadd hx hb dL_law_238 ?_
    refine ktop (nI_add _ _) ?_
    refine va_sld hx hb hXs hbl hbA hS (nI_vp (j := 3 * i + 1) rfl (by omega) (by omega)) dL_law_239 ?_
    refine ktop hx1 ?_
    have hF : FH ad dm ct ad dm ct := FH.rf
    have hM9 := hMf
    have hb1 : ad (10, 0) = a1 := ha1
    refine kc_Va 1 (c_X3_take l G A ad dm ct lv lev lo hi ri sz ky vl go rt ep wq wn cn op cl ca ce kc nb th0 fo0 hMf i hIf x) F hE hW hS (10, 0) (hM9.1 0 (by decide)) hM9.2.1 hb1 rfl [.int x] rfl kw_710 kw_711 kw_712 kw_6 kw_713 (by decide +kernel) rfl ⟨rfl, rfl⟩ ⟨Nat.le_of_ble_eq_true rfl, Nat.le_of_ble_eq_true rfl⟩ hl.1 rfl (Nat.le_of_ble_eq_true rfl) dL_law_240 ⟨by show cells + 1 + 0 ≤ 601024; omega, by show slots + 6 + 0 ≤ 7293034; omega⟩ (fun _ _ _ _ _ h => h.elim) (fun v w' H locs hp hW hS => ?_)
    obtain ⟨ct3, th3, fo3, s3, rfl, hM3, hXM, hcs⟩ := hp
    rcases hcs with ⟨k2, hk2, hxe, rfl, rfl, rfl⟩ | ⟨hbad, rfl, rfl, rfl⟩
    · exact absurd hxe (hpx.2 k2 hk2)
    · refine lv_istore (lv' := [(6, .int (nI 0)), (5, .int (nI 1)), (4, .int (nI (3 * i))), (3, .ref a2), (2, .ref a1), (1, .ref a0), (0, .ref b)]) hx hb dL_law_243 hl (by decide) rfl (fun ls hl => ?_)
      refine lv_aload_n hx hb dL_law_245 rfl (lv_at hl 4 rfl) ?_
      obtain ⟨hT1, fsT, hT2⟩ := MD.o0 (s := (lv, lev, lo, hi, ri, sz, ky, vl, go, rt, ep, wq, wn, cn, op, cl, ca, ce, kc, nb)) hM3
      refine kc_Va 0 (c_thrown l G A ad dm ct3 (lv, lev, lo, hi, ri, sz, ky, vl, go, rt, ep, wq, wn, cn, op, cl, ca, ce, kc, nb) _ _ hM3) F hE hW hS (10, 0) hT1 hT2 hb1 rfl [] rfl kw_668 kw_669 kw_670 kw_6 kw_671 (by decide +kernel) rfl ⟨rfl, rfl⟩ ⟨Nat.le_of_ble_eq_true rfl, Nat.le_of_ble_eq_true rfl⟩ hl.1 rfl (Nat.le_of_ble_eq_true rfl) dL_law_246 ⟨by show cells + 1 + 0 + 0 ≤ 601024; omega, by show slots + 6 + 0 + 0 ≤ 7293034; omega⟩ (fun _ _ _ _ _ h => h.elim) (fun v w' H locs hp hW hS => ?_)
      obtain ⟨rfl, rfl⟩ := hp
      refine lv_iload hx hb dL_law_249 (lv_at hl 1 rfl) ?_
      refine nc_eq (tgt := 256) hx hb dL_law_251 (by decide) (by decide) (by decide) (fun c1 => ?_) (fun c1 => ?_)
      · refine lv_iload hx hb dL_law_256 (lv_at hl 1 rfl) ?_
        refine nz_ne (tgt := 273) hx hb dL_law_258 (by decide) (by decide) (fun c2 => ?_) (fun c2 => ?_)
        · refine lv_goto (tgt := 1189) hx hb dL_law_273 (by decide) ?_
          exact kk _ _ _ _ _ _ _ _ _ hW hS (jn_mk (0) hJ0 hF hK hO2 (fun _ _ => rfl) hXM hM3 hIu (Nat.le_refl _) (by show cells + 1 + 0 + 0 ≤ _; omega) (by show slots + 6 + 0 + 0 ≤ _; omega)) (lv_sub hl [2, 3, 4, 5, 6] rfl)
        · exact absurd c2 (by decide)
      · exact absurd rfl c1
set_option maxRecDepth 100000 in
set_option maxHeartbeats 4000000 in
theorem lc_get {p : Program} {l : Launch} {e : Env} {s : State} {m : MethodId} {below : List Frame} {meth : Method} {c : Code} {b L : Nat} {xs : Nat → Int32} {Q : State → Prop} {G : GG} {A : Nat → Prop} {ad : Lb → Nat} {dm : Lb → Prop} {ct : Lb → va_E} {S : SG} {H : Heap} {locs : List Loc} {cells slots i a0 a1 a2 : Nat} {ls : Array Slot}
    (F : Fx p m c cL_law 7 s #[.ref b] RL) (hst : l.stackTraces = false) (hE : VE G A s) (hXs : va_X b L xs s s.heap) (hbl : b < s.heap.size) (hbA : ¬ A b) (hi9 : 3 * i + 3 ≤ L) (hL9 : L ≤ 1536) (hW : wd G A (ad, dm, ct) H) (hS : va_S A s.heap H locs) (hJ : JN G a0 a1 a2 ad dm ct S i cells slots) (hl : lv_has ls 7 [(4, .int (nI (3 * i))), (3, .ref a2), (2, .ref a1), (1, .ref a0), (0, .ref b)])
    (kk : ∀ (ad2 : Lb → Nat) (dm2 : Lb → Prop) (ct2 : Lb → va_E) (S2 : SG) (H2 : Heap) (locs2 : List Loc) (ls2 : Array Slot) (cells2 slots2 : Nat), wd G A (ad2, dm2, ct2) H2 → va_S A s.heap H2 locs2 → JN G a0 a1 a2 ad2 dm2 ct2 S2 (i + 1) cells2 slots2 → lv_has ls2 7 [(4, .int (nI (3 * i))), (3, .ref a2), (2, .ref a1), (1, .ref a0), (0, .ref b)] → W p l e room_1 s m #[.ref b] below meth c H2 locs2 cells2 slots2 Q (F0 m 1189 ls2 [])) :
    W p l e room_1 s m #[.ref b] below meth c H locs cells slots Q (F0 m 276 ls []) := by
  have hx := F.1
  have hb := F.2.1
  obtain ⟨hcb, hsb⟩ := hJ.room
  have hJ0 := hJ
  obtain ⟨hK, ⟨th0, fo0, hM⟩, hI, ⟨ha0, ha1, ha2⟩, ⟨hO1, fO, hO2⟩, h7, -, -⟩ := hJ
  have ht9 : i < 512 := by omega
  have hIu := inv_up hI ht9
  obtain ⟨lv, lev, lo, hi, ri, sz, ky, vl, go, rt, ep, wq, wn, cn, op, cl, ca, ce, kc, nb⟩ := S
  have hH : HKF G ad dm ct lv lev lo hi ri sz ky vl go rt ep wq wn cn op cl ca ce kc nb := hK
  have hMf : MDF G ad dm ct lv lev lo hi ri sz ky vl go rt ep wq wn cn op cl ca ce kc nb th0 fo0 := hM
  have hIf : InvF lv lev lo hi ri sz ky vl go rt ep wq wn cn op cl ca ce kc nb 800 i := hI
  have hP := hIf.1
  have hnb : nb ≤ 513 := by have := hIf.2.2.2.2; omega
  have hcn9 := hIf.2.2.1.1
  obtain ⟨x, hx1⟩ : ∃ x, xs (nI (3 * i + 1)).toNatClampNeg = x := ⟨_, rfl⟩
  refine lv_aload_n hx hb dL_law_276 rfl (lv_at hl 3 rfl) ?_
  refine lv_aload_n hx hb dL_law_277 rfl (lv_at hl 4 rfl) ?_
  refine lv_iload hx hb dL_law_278 (lv_at hl 0 rfl) ?_
  refine lv_iconst (v := nI 1) hx hb dL_law_280 (by decide) ?_
  refine lv_iadd hx hb dL_law_281 ?_
  refine ktop (nI_add _ _) ?_
  refine va_sld hx hb hXs hbl hbA hS (nI_vp (j := 3 * i + 1) rfl (by omega) (by omega)) dL_law_282 ?_
  refine ktop hx1 ?_
  refine lv_aload_n hx hb dL_law_283 rfl (lv_at hl 1 rfl) ?_
  refine kc_SH 3 (w_get l G A ad dm ct x hH.1.1 hH.2.1 (c_X2_get l G A ad dm ct lv lev lo hi ri sz ky vl go rt ep wq wn cn op cl ca ce kc nb hst hH i hIf x) (fun v w1 h => by obtain ⟨rfl, key, hk, rfl, hv⟩ := h; exact ⟨hO1, rfl, ⟨fO, hO2⟩, _, hv⟩) (fun E h => h.1)) F hE hW hS kw_418 kw_419 kw_0 kw_420 (by decide +kernel) rfl ⟨rfl, rfl⟩ ⟨(Nat.le_of_ble_eq_true rfl), (Nat.le_of_ble_eq_true rfl)⟩ hl.1 (by rw [ha0, ha2]; rfl) (Nat.le_of_ble_eq_true rfl) dL_law_284 ⟨by show cells + 1 ≤ 601024; omega, by show slots + 6 ≤ 7293034; omega⟩ (fun v w9 H locs hp hW hS => ?_)
  rcases hp with ⟨ans, w1, f1, hp, e1, e2, e3, e4, rfl⟩ | ⟨E, hpx, rfl, rfl⟩
  · obtain ⟨ad9, dm9, ct9⟩ := w9
    obtain ⟨rfl, key, hk, rfl, hv⟩ := hp
    cases hv
    dsimp only at e1 e2 e3 e4
    obtain rfl := e1.symm
    obtain rfl := e2.symm
    have hF : FH ad dm ct ad dm ct := FH.rf
    have hK2 := hK
    have hM9 : MDF G ad dm ct9 lv lev lo hi ri sz ky vl go rt ep wq wn cn op cl ca ce kc nb th0 fo0 := md_pass hM hF e4
    have hb1 : ad (10, 0) = a1 := (hF.1 (10, 0) (by decide)).1.trans ha1
    have hb2 : ad (20, 0) = a2 := (hF.1 (20, 0) (by decide)).1.trans ha2
    have hO9 : dm (20, 0) := (hF.1 (20, 0) (by decide)).2.2.mpr hO1
    refine lv_istore (lv' := [(5, .int (nI 0)), (4, .int (nI (3 * i))), (3, .ref a2), (2, .ref a1), (1, .ref a0), (0, .ref b)]) hx hb dL_law_287 hl (by decide) rfl (fun ls hl => ?_)
    refine lv_aload_n hx hb dL_law_289 rfl (lv_at hl 3 rfl) ?_
    refine lv_aload_n hx hb dL_law_290 rfl (lv_at hl 5 rfl) ?_
    refine lv_iload hx hb dL_law_291 (lv_at hl 1 rfl) ?_
    refine lv_iconst (v := nI 1) hx hb dL_law_293 (by decide) ?_
    refine lv_iadd hx hb dL_law_294 ?_
    refine ktop (nI_add _ _) ?_
    refine va_sld hx hb hXs hbl hbA hS (nI_vp (j := 3 * i + 1) rfl (by omega) (by omega)) dL_law_295 ?_
    refine ktop hx1 ?_
    refine kc_Va 1 (c_X3_get l G A ad dm ct9 lv lev lo hi ri sz ky vl go rt ep wq wn cn op cl ca ce kc nb th0 fo0 hM9 i hIf (nI key)) F hE hW hS (10, 0) (hM9.1 0 (by decide)) hM9.2.1 hb1 rfl [.int (nI key)] rfl kw_722 kw_723 kw_724 kw_6 kw_725 (by decide +kernel) rfl ⟨rfl, rfl⟩ ⟨Nat.le_of_ble_eq_true rfl, Nat.le_of_ble_eq_true rfl⟩ hl.1 rfl (Nat.le_of_ble_eq_true rfl) dL_law_296 ⟨by show cells + 1 + 0 ≤ 601024; omega, by show slots + 6 + 0 ≤ 7293034; omega⟩ (fun _ _ _ _ _ h => h.elim) (fun v w' H locs hp hW hS => ?_)
    obtain ⟨ct3, th3, fo3, rfl, hM3, hXM, hcs⟩ := hp
    rcases hcs with ⟨k2, hk2, hxe, rfl, rfl⟩ | ⟨hbad, rfl, rfl⟩
    · obtain rfl : key = k2 := nI_inj (by omega) (by omega) hxe
      refine lv_istore (lv' := [(6, .int (oI (getS (lv, lev, lo, hi, ri, sz, ky, vl, go, rt, ep, wq, wn, cn, op, cl, ca, ce, kc, nb) key))), (5, .int (nI 0)), (4, .int (nI (3 * i))), (3, .ref a2), (2, .ref a1), (1, .ref a0), (0, .ref b)]) hx hb dL_law_299 hl (by decide) rfl (fun ls hl => ?_)
      refine lv_aload_n hx hb dL_law_301 rfl (lv_at hl 4 rfl) ?_
      obtain ⟨hT1, fsT, hT2⟩ := MD.o0 (s := (lv, lev, lo, hi, ri, sz, ky, vl, go, rt, ep, wq, wn, cn, op, cl, ca, ce, kc, nb)) hM3
      refine kc_Va 0 (c_thrown l G A ad dm ct3 (lv, lev, lo, hi, ri, sz, ky, vl, go, rt, ep, wq, wn, cn, op, cl, ca, ce, kc, nb) _ _ hM3) F hE hW hS (10, 0) hT1 hT2 hb1 rfl [] rfl kw_668 kw_669 kw_670 kw_6 kw_671 (by decide +kernel) rfl ⟨rfl, rfl⟩ ⟨Nat.le_of_ble_eq_true rfl, Nat.le_of_ble_eq_true rfl⟩ hl.1 rfl (Nat.le_of_ble_eq_true rfl) dL_law_302 ⟨by show cells + 1 + 0 + 0 ≤ 601024; omega, by show slots + 6 + 0 + 0 ≤ 7293034; omega⟩ (fun _ _ _ _ _ h => h.elim) (fun v w' H locs hp hW hS => ?_)
      obtain ⟨rfl, rfl⟩ := hp
      refine lv_iload hx hb dL_law_305 (lv_at hl 1 rfl) ?_
      refine nc_eq (tgt := 312) hx hb dL_law_307 (by decide) (by decide) (by decide) (fun c1 => ?_) (fun c1 => ?_)
      · refine lv_iload hx hb dL_law_312 (lv_at hl 1 rfl) ?_
        refine nz_ne (tgt := 329) hx hb dL_law_314 (by decide) (by decide) (fun c2 => ?_) (fun c2 => ?_)
        · exact absurd rfl c2
        · refine lv_aload_n hx hb dL_law_317 rfl (lv_at hl 3 rfl) ?_
          refine lv_iconst (v := nI 0) hx hb dL_law_318 (by decide) ?_
          refine kl_l F hE hW (20, 0) hO9 hb2 ((hXM (20, 0) (by decide)).trans e3) 0 rfl (by decide) (by decide) dL_law_319 ?_
          refine ktopv (congrArg Value.long (va_up_self _ _ _)) ?_
          refine lv_iload hx hb dL_law_320 (lv_at hl 0 rfl) ?_
          refine lv_i2l hx hb dL_law_322 rfl ?_
          refine lq_lcmp hx hb dL_law_323 ?_
          refine nz_eq (tgt := 329) hx hb dL_law_324 (by decide) (by decide) (fun c9 => ?_) (fun c9 => ?_)
          · refine lv_goto (tgt := 1189) hx hb dL_law_329 (by decide) ?_
            exact kk _ _ _ _ _ _ _ _ _ hW hS (jn_mk (0) hJ0 hF hK2 e3 e4 hXM hM3 hIu (Nat.le_refl _) (by show cells + 1 + 0 + 0 ≤ _; omega) (by show slots + 6 + 0 + 0 ≤ _; omega)) (lv_sub hl [2, 3, 4, 5, 6] rfl)
          · exact absurd c9 (by decide)
      · exact absurd rfl c1
    · exact absurd rfl (hbad key hk)
  · refine ktop (y := nI 1) rfl ?_
    refine lv_istore (lv' := [(5, .int (nI 1)), (4, .int (nI (3 * i))), (3, .ref a2), (2, .ref a1), (1, .ref a0), (0, .ref b)]) hx hb dL_law_287 hl (by decide) rfl (fun ls hl => ?_)
    refine lv_aload_n hx hb dL_law_289 rfl (lv_at hl 3 rfl) ?_
    refine lv_aload_n hx hb dL_law_290 rfl (lv_at hl 5 rfl) ?_
    refine lv_iload hx hb dL_law_291 (lv_at hl 1 rfl) ?_
    refine lv_iconst (v := nI 1) hx hb dL_law_293 (by decide) ?_
    refine lv_iadd hx hb dL_law_294 ?_
    refine ktop (nI_add _ _) ?_
    refine va_sld hx hb hXs hbl hbA hS (nI_vp (j := 3 * i + 1) rfl (by omega) (by omega)) dL_law_295 ?_
    refine ktop hx1 ?_
    have hF : FH ad dm ct ad dm ct := FH.rf
    have hM9 := hMf
    have hb1 : ad (10, 0) = a1 := ha1
    refine kc_Va 1 (c_X3_get l G A ad dm ct lv lev lo hi ri sz ky vl go rt ep wq wn cn op cl ca ce kc nb th0 fo0 hMf i hIf x) F hE hW hS (10, 0) (hM9.1 0 (by decide)) hM9.2.1 hb1 rfl [.int x] rfl kw_722 kw_723 kw_724 kw_6 kw_725 (by decide +kernel) rfl ⟨rfl, rfl⟩ ⟨Nat.le_of_ble_eq_true rfl, Nat.le_of_ble_eq_true rfl⟩ hl.1 rfl (Nat.le_of_ble_eq_true rfl) dL_law_296 ⟨by show cells + 1 + 0 ≤ 601024; omega, by show slots + 6 + 0 ≤ 7293034; omega⟩ (fun _ _ _ _ _ h => h.elim) (fun v w' H locs hp hW hS => ?_)
    obtain ⟨ct3, th3, fo3, rfl, hM3, hXM, hcs⟩ := hp
    rcases hcs with ⟨k2, hk2, hxe, rfl, rfl⟩ | ⟨hbad, rfl, rfl⟩
    · exact absurd hxe (hpx.2 k2 hk2)
    · refine lv_istore (lv' := [(6, .int (nI 0)), (5, .int (nI 1)), (4, .int (nI (3 * i))), (3, .ref a2), (2, .ref a1), (1, .ref a0), (0, .ref b)]) hx hb dL_law_299 hl (by decide) rfl (fun ls hl => ?_)
      refine lv_aload_n hx hb dL_law_301 rfl (lv_at hl 4 rfl) ?_
      obtain ⟨hT1, fsT, hT2⟩ := MD.o0 (s := (lv, lev, lo, hi, ri, sz, ky, vl, go, rt, ep, wq, wn, cn, op, cl, ca, ce, kc, nb)) hM3
      refine kc_Va 0 (c_thrown l G A ad dm ct3 (lv, lev, lo, hi, ri, sz, ky, vl, go, rt, ep, wq, wn, cn, op, cl, ca, ce, kc, nb) _ _ hM3) F hE hW hS (10, 0) hT1 hT2 hb1 rfl [] rfl kw_668 kw_669 kw_670 kw_6 kw_671 (by decide +kernel) rfl ⟨rfl, rfl⟩ ⟨Nat.le_of_ble_eq_true rfl, Nat.le_of_ble_eq_true rfl⟩ hl.1 rfl (Nat.le_of_ble_eq_true rfl) dL_law_302 ⟨by show cells + 1 + 0 + 0 ≤ 601024; omega, by show slots + 6 + 0 + 0 ≤ 7293034; omega⟩ (fun _ _ _ _ _ h => h.elim) (fun v w' H locs hp hW hS => ?_)
      obtain ⟨rfl, rfl⟩ := hp
      refine lv_iload hx hb dL_law_305 (lv_at hl 1 rfl) ?_
      refine nc_eq (tgt := 312) hx hb dL_law_307 (by decide) (by decide) (by decide) (fun c1 => ?_) (fun c1 => ?_)
      · refine lv_iload hx hb dL_law_312 (lv_at hl 1 rfl) ?_
        refine nz_ne (tgt := 329) hx hb dL_law_314 (by decide) (by decide) (fun c2 => ?_) (fun c2 => ?_)
        · refine lv_goto (tgt := 1189) hx hb dL_law_329 (by decide) ?_
          exact kk _ _ _ _ _ _ _ _ _ hW hS (jn_mk (0) hJ0 hF hK hO2 (fun _ _ => rfl) hXM hM3 hIu (Nat.le_refl _) (by show cells + 1 + 0 + 0 ≤ _; omega) (by show slots + 6 + 0 + 0 ≤ _; omega)) (lv_sub hl [2, 3, 4, 5, 6] rfl)
        · exact absurd c2 (by decide)
      · exact absurd rfl c1
set_option maxRecDepth 100000 in
set_option maxHeartbeats 4000000 in
theorem lc_getByLeaves {p : Program} {l : Launch} {e : Env} {s : State} {m : MethodId} {below : List Frame} {meth : Method} {c : Code} {b L : Nat} {xs : Nat → Int32} {Q : State → Prop} {G : GG} {A : Nat → Prop} {ad : Lb → Nat} {dm : Lb → Prop} {ct : Lb → va_E} {S : SG} {H : Heap} {locs : List Loc} {cells slots i a0 a1 a2 : Nat} {ls : Array Slot}
    (F : Fx p m c cL_law 7 s #[.ref b] RL) (hst : l.stackTraces = false) (hE : VE G A s) (hXs : va_X b L xs s s.heap) (hbl : b < s.heap.size) (hbA : ¬ A b) (hi9 : 3 * i + 3 ≤ L) (hL9 : L ≤ 1536) (hW : wd G A (ad, dm, ct) H) (hS : va_S A s.heap H locs) (hJ : JN G a0 a1 a2 ad dm ct S i cells slots) (hl : lv_has ls 7 [(4, .int (nI (3 * i))), (3, .ref a2), (2, .ref a1), (1, .ref a0), (0, .ref b)])
    (kk : ∀ (ad2 : Lb → Nat) (dm2 : Lb → Prop) (ct2 : Lb → va_E) (S2 : SG) (H2 : Heap) (locs2 : List Loc) (ls2 : Array Slot) (cells2 slots2 : Nat), wd G A (ad2, dm2, ct2) H2 → va_S A s.heap H2 locs2 → JN G a0 a1 a2 ad2 dm2 ct2 S2 (i + 1) cells2 slots2 → lv_has ls2 7 [(4, .int (nI (3 * i))), (3, .ref a2), (2, .ref a1), (1, .ref a0), (0, .ref b)] → W p l e room_1 s m #[.ref b] below meth c H2 locs2 cells2 slots2 Q (F0 m 1189 ls2 [])) :
    W p l e room_1 s m #[.ref b] below meth c H locs cells slots Q (F0 m 332 ls []) := by
  have hx := F.1
  have hb := F.2.1
  obtain ⟨hcb, hsb⟩ := hJ.room
  have hJ0 := hJ
  obtain ⟨hK, ⟨th0, fo0, hM⟩, hI, ⟨ha0, ha1, ha2⟩, ⟨hO1, fO, hO2⟩, h7, -, -⟩ := hJ
  have ht9 : i < 512 := by omega
  have hIu := inv_up hI ht9
  obtain ⟨lv, lev, lo, hi, ri, sz, ky, vl, go, rt, ep, wq, wn, cn, op, cl, ca, ce, kc, nb⟩ := S
  have hH : HKF G ad dm ct lv lev lo hi ri sz ky vl go rt ep wq wn cn op cl ca ce kc nb := hK
  have hMf : MDF G ad dm ct lv lev lo hi ri sz ky vl go rt ep wq wn cn op cl ca ce kc nb th0 fo0 := hM
  have hIf : InvF lv lev lo hi ri sz ky vl go rt ep wq wn cn op cl ca ce kc nb 800 i := hI
  have hP := hIf.1
  have hnb : nb ≤ 513 := by have := hIf.2.2.2.2; omega
  have hcn9 := hIf.2.2.1.1
  obtain ⟨x, hx1⟩ : ∃ x, xs (nI (3 * i + 1)).toNatClampNeg = x := ⟨_, rfl⟩
  refine lv_aload_n hx hb dL_law_332 rfl (lv_at hl 3 rfl) ?_
  refine lv_aload_n hx hb dL_law_333 rfl (lv_at hl 4 rfl) ?_
  refine lv_iload hx hb dL_law_334 (lv_at hl 0 rfl) ?_
  refine lv_iconst (v := nI 1) hx hb dL_law_336 (by decide) ?_
  refine lv_iadd hx hb dL_law_337 ?_
  refine ktop (nI_add _ _) ?_
  refine va_sld hx hb hXs hbl hbA hS (nI_vp (j := 3 * i + 1) rfl (by omega) (by omega)) dL_law_338 ?_
  refine ktop hx1 ?_
  refine lv_aload_n hx hb dL_law_339 rfl (lv_at hl 1 rfl) ?_
  refine kc_SH 3 (w_getByLeaves l G A ad dm ct x hH.1.1 hH.2.1 (c_X2_getByLeaves l G A ad dm ct lv lev lo hi ri sz ky vl go rt ep wq wn cn op cl ca ce kc nb hst hH i hIf x) (fun v w1 h => by obtain ⟨rfl, key, hk, rfl, hv⟩ := h; exact ⟨hO1, rfl, ⟨fO, hO2⟩, _, hv⟩) (fun E h => h.1)) F hE hW hS kw_425 kw_426 kw_0 kw_427 (by decide +kernel) rfl ⟨rfl, rfl⟩ ⟨(Nat.le_of_ble_eq_true rfl), (Nat.le_of_ble_eq_true rfl)⟩ hl.1 (by rw [ha0, ha2]; rfl) (Nat.le_of_ble_eq_true rfl) dL_law_340 ⟨by show cells + 1 ≤ 601024; omega, by show slots + 6 ≤ 7293034; omega⟩ (fun v w9 H locs hp hW hS => ?_)
  rcases hp with ⟨ans, w1, f1, hp, e1, e2, e3, e4, rfl⟩ | ⟨E, hpx, rfl, rfl⟩
  · obtain ⟨ad9, dm9, ct9⟩ := w9
    obtain ⟨rfl, key, hk, rfl, hv⟩ := hp
    cases hv
    dsimp only at e1 e2 e3 e4
    obtain rfl := e1.symm
    obtain rfl := e2.symm
    have hF : FH ad dm ct ad dm ct := FH.rf
    have hK2 := hK
    have hM9 : MDF G ad dm ct9 lv lev lo hi ri sz ky vl go rt ep wq wn cn op cl ca ce kc nb th0 fo0 := md_pass hM hF e4
    have hb1 : ad (10, 0) = a1 := (hF.1 (10, 0) (by decide)).1.trans ha1
    have hb2 : ad (20, 0) = a2 := (hF.1 (20, 0) (by decide)).1.trans ha2
    have hO9 : dm (20, 0) := (hF.1 (20, 0) (by decide)).2.2.mpr hO1
    refine lv_istore (lv' := [(5, .int (nI 0)), (4, .int (nI (3 * i))), (3, .ref a2), (2, .ref a1), (1, .ref a0), (0, .ref b)]) hx hb dL_law_343 hl (by decide) rfl (fun ls hl => ?_)
    refine lv_aload_n hx hb dL_law_345 rfl (lv_at hl 3 rfl) ?_
    refine lv_aload_n hx hb dL_law_346 rfl (lv_at hl 5 rfl) ?_
    refine lv_iload hx hb dL_law_347 (lv_at hl 1 rfl) ?_
    refine lv_iconst (v := nI 1) hx hb dL_law_349 (by decide) ?_
    refine lv_iadd hx hb dL_law_350 ?_
    refine ktop (nI_add _ _) ?_
    refine va_sld hx hb hXs hbl hbA hS (nI_vp (j := 3 * i + 1) rfl (by omega) (by omega)) dL_law_351 ?_
    refine ktop hx1 ?_
    refine kc_Va 1 (c_X3_getByLeaves l G A ad dm ct9 lv lev lo hi ri sz ky vl go rt ep wq wn cn op cl ca ce kc nb th0 fo0 hM9 i hIf (nI key)) F hE hW hS (10, 0) (hM9.1 0 (by decide)) hM9.2.1 hb1 rfl [.int (nI key)] rfl kw_726 kw_727 kw_728 kw_6 kw_729 (by decide +kernel) rfl ⟨rfl, rfl⟩ ⟨Nat.le_of_ble_eq_true rfl, Nat.le_of_ble_eq_true rfl⟩ hl.1 rfl (Nat.le_of_ble_eq_true rfl) dL_law_352 ⟨by show cells + 1 + 0 ≤ 601024; omega, by show slots + 6 + 0 ≤ 7293034; omega⟩ (fun _ _ _ _ _ h => h.elim) (fun v w' H locs hp hW hS => ?_)
    obtain ⟨ct3, th3, fo3, rfl, hM3, hXM, hcs⟩ := hp
    rcases hcs with ⟨k2, hk2, hxe, rfl, rfl⟩ | ⟨hbad, rfl, rfl⟩
    · obtain rfl : key = k2 := nI_inj (by omega) (by omega) hxe
      refine lv_istore (lv' := [(6, .int (oI (getS (lv, lev, lo, hi, ri, sz, ky, vl, go, rt, ep, wq, wn, cn, op, cl, ca, ce, kc, nb) key))), (5, .int (nI 0)), (4, .int (nI (3 * i))), (3, .ref a2), (2, .ref a1), (1, .ref a0), (0, .ref b)]) hx hb dL_law_355 hl (by decide) rfl (fun ls hl => ?_)
      refine lv_aload_n hx hb dL_law_357 rfl (lv_at hl 4 rfl) ?_
      obtain ⟨hT1, fsT, hT2⟩ := MD.o0 (s := (lv, lev, lo, hi, ri, sz, ky, vl, go, rt, ep, wq, wn, cn, op, cl, ca, ce, kc, nb)) hM3
      refine kc_Va 0 (c_thrown l G A ad dm ct3 (lv, lev, lo, hi, ri, sz, ky, vl, go, rt, ep, wq, wn, cn, op, cl, ca, ce, kc, nb) _ _ hM3) F hE hW hS (10, 0) hT1 hT2 hb1 rfl [] rfl kw_668 kw_669 kw_670 kw_6 kw_671 (by decide +kernel) rfl ⟨rfl, rfl⟩ ⟨Nat.le_of_ble_eq_true rfl, Nat.le_of_ble_eq_true rfl⟩ hl.1 rfl (Nat.le_of_ble_eq_true rfl) dL_law_358 ⟨by show cells + 1 + 0 + 0 ≤ 601024; omega, by show slots + 6 + 0 + 0 ≤ 7293034; omega⟩ (fun _ _ _ _ _ h => h.elim) (fun v w' H locs hp hW hS => ?_)
      obtain ⟨rfl, rfl⟩ := hp
      refine lv_iload hx hb dL_law_361 (lv_at hl 1 rfl) ?_
      refine nc_eq (tgt := 368) hx hb dL_law_363 (by decide) (by decide) (by decide) (fun c1 => ?_) (fun c1 => ?_)
      · refine lv_iload hx hb dL_law_368 (lv_at hl 1 rfl) ?_
        refine nz_ne (tgt := 385) hx hb dL_law_370 (by decide) (by decide) (fun c2 => ?_) (fun c2 => ?_)
        · exact absurd rfl c2
        · refine lv_aload_n hx hb dL_law_373 rfl (lv_at hl 3 rfl) ?_
          refine lv_iconst (v := nI 0) hx hb dL_law_374 (by decide) ?_
          refine kl_l F hE hW (20, 0) hO9 hb2 ((hXM (20, 0) (by decide)).trans e3) 0 rfl (by decide) (by decide) dL_law_375 ?_
          refine ktopv (congrArg Value.long (va_up_self _ _ _)) ?_
          refine lv_iload hx hb dL_law_376 (lv_at hl 0 rfl) ?_
          refine lv_i2l hx hb dL_law_378 rfl ?_
          refine lq_lcmp hx hb dL_law_379 ?_
          refine nz_eq (tgt := 385) hx hb dL_law_380 (by decide) (by decide) (fun c9 => ?_) (fun c9 => ?_)
          · refine lv_goto (tgt := 1189) hx hb dL_law_385 (by decide) ?_
            exact kk _ _ _ _ _ _ _ _ _ hW hS (jn_mk (0) hJ0 hF hK2 e3 e4 hXM hM3 hIu (Nat.le_refl _) (by show cells + 1 + 0 + 0 ≤ _; omega) (by show slots + 6 + 0 + 0 ≤ _; omega)) (lv_sub hl [2, 3, 4, 5, 6] rfl)
          · exact absurd c9 (by decide)
      · exact absurd rfl c1
    · exact absurd rfl (hbad key hk)
  · refine ktop (y := nI 1) rfl ?_
    refine lv_istore (lv' := [(5, .int (nI 1)), (4, .int (nI (3 * i))), (3, .ref a2), (2, .ref a1), (1, .ref a0), (0, .ref b)]) hx hb dL_law_343 hl (by decide) rfl (fun ls hl => ?_)
    refine lv_aload_n hx hb dL_law_345 rfl (lv_at hl 3 rfl) ?_
    refine lv_aload_n hx hb dL_law_346 rfl (lv_at hl 5 rfl) ?_
    refine lv_iload hx hb dL_law_347 (lv_at hl 1 rfl) ?_
    refine lv_iconst (v := nI 1) hx hb dL_law_349 (by decide) ?_
    refine lv_iadd hx hb dL_law_350 ?_
    refine ktop (nI_add _ _) ?_
    refine va_sld hx hb hXs hbl hbA hS (nI_vp (j := 3 * i + 1) rfl (by omega) (by omega)) dL_law_351 ?_
    refine ktop hx1 ?_
    have hF : FH ad dm ct ad dm ct := FH.rf
    have hM9 := hMf
    have hb1 : ad (10, 0) = a1 := ha1
    refine kc_Va 1 (c_X3_getByLeaves l G A ad dm ct lv lev lo hi ri sz ky vl go rt ep wq wn cn op cl ca ce kc nb th0 fo0 hMf i hIf x) F hE hW hS (10, 0) (hM9.1 0 (by decide)) hM9.2.1 hb1 rfl [.int x] rfl kw_726 kw_727 kw_728 kw_6 kw_729 (by decide +kernel) rfl ⟨rfl, rfl⟩ ⟨Nat.le_of_ble_eq_true rfl, Nat.le_of_ble_eq_true rfl⟩ hl.1 rfl (Nat.le_of_ble_eq_true rfl) dL_law_352 ⟨by show cells + 1 + 0 ≤ 601024; omega, by show slots + 6 + 0 ≤ 7293034; omega⟩ (fun _ _ _ _ _ h => h.elim) (fun v w' H locs hp hW hS => ?_)
    obtain ⟨ct3, th3, fo3, rfl, hM3, hXM, hcs⟩ := hp
    rcases hcs with ⟨k2, hk2, hxe, rfl, rfl⟩ | ⟨hbad, rfl, rfl⟩
    · exact absurd hxe (hpx.2 k2 hk2)
    · refine lv_istore (lv' := [(6, .int (nI 0)), (5, .int (nI 1)), (4, .int (nI (3 * i))), (3, .ref a2), (2, .ref a1), (1, .ref a0), (0, .ref b)]) hx hb dL_law_355 hl (by decide) rfl (fun ls hl => ?_)
      refine lv_aload_n hx hb dL_law_357 rfl (lv_at hl 4 rfl) ?_
      obtain ⟨hT1, fsT, hT2⟩ := MD.o0 (s := (lv, lev, lo, hi, ri, sz, ky, vl, go, rt, ep, wq, wn, cn, op, cl, ca, ce, kc, nb)) hM3
      refine kc_Va 0 (c_thrown l G A ad dm ct3 (lv, lev, lo, hi, ri, sz, ky, vl, go, rt, ep, wq, wn, cn, op, cl, ca, ce, kc, nb) _ _ hM3) F hE hW hS (10, 0) hT1 hT2 hb1 rfl [] rfl kw_668 kw_669 kw_670 kw_6 kw_671 (by decide +kernel) rfl ⟨rfl, rfl⟩ ⟨Nat.le_of_ble_eq_true rfl, Nat.le_of_ble_eq_true rfl⟩ hl.1 rfl (Nat.le_of_ble_eq_true rfl) dL_law_358 ⟨by show cells + 1 + 0 + 0 ≤ 601024; omega, by show slots + 6 + 0 + 0 ≤ 7293034; omega⟩ (fun _ _ _ _ _ h => h.elim) (fun v w' H locs hp hW hS => ?_)
      obtain ⟨rfl, rfl⟩ := hp
      refine lv_iload hx hb dL_law_361 (lv_at hl 1 rfl) ?_
      refine nc_eq (tgt := 368) hx hb dL_law_363 (by decide) (by decide) (by decide) (fun c1 => ?_) (fun c1 => ?_)
      · refine lv_iload hx hb dL_law_368 (lv_at hl 1 rfl) ?_
        refine nz_ne (tgt := 385) hx hb dL_law_370 (by decide) (by decide) (fun c2 => ?_) (fun c2 => ?_)
        · refine lv_goto (tgt := 1189) hx hb dL_law_385 (by decide) ?_
          exact kk _ _ _ _ _ _ _ _ _ hW hS (jn_mk (0) hJ0 hF hK hO2 (fun _ _ => rfl) hXM hM3 hIu (Nat.le_refl _) (by show cells + 1 + 0 + 0 ≤ _; omega) (by show slots + 6 + 0 + 0 ≤ _; omega)) (lv_sub hl [2, 3, 4, 5, 6] rfl)
        · exact absurd c2 (by decide)
      · exact absurd rfl c1
set_option maxRecDepth 100000 in
set_option maxHeartbeats 4000000 in
theorem lc_links {p : Program} {l : Launch} {e : Env} {s : State} {m : MethodId} {below : List Frame} {meth : Method} {c : Code} {b L : Nat} {xs : Nat → Int32} {Q : State → Prop} {G : GG} {A : Nat → Prop} {ad : Lb → Nat} {dm : Lb → Prop} {ct : Lb → va_E} {S : SG} {H : Heap} {locs : List Loc} {cells slots i a0 a1 a2 : Nat} {ls : Array Slot}
    (F : Fx p m c cL_law 7 s #[.ref b] RL) (hst : l.stackTraces = false) (hE : VE G A s) (hXs : va_X b L xs s s.heap) (hbl : b < s.heap.size) (hbA : ¬ A b) (hi9 : 3 * i + 3 ≤ L) (hL9 : L ≤ 1536) (hW : wd G A (ad, dm, ct) H) (hS : va_S A s.heap H locs) (hJ : JN G a0 a1 a2 ad dm ct S i cells slots) (hl : lv_has ls 7 [(4, .int (nI (3 * i))), (3, .ref a2), (2, .ref a1), (1, .ref a0), (0, .ref b)])
    (kk : ∀ (ad2 : Lb → Nat) (dm2 : Lb → Prop) (ct2 : Lb → va_E) (S2 : SG) (H2 : Heap) (locs2 : List Loc) (ls2 : Array Slot) (cells2 slots2 : Nat), wd G A (ad2, dm2, ct2) H2 → va_S A s.heap H2 locs2 → JN G a0 a1 a2 ad2 dm2 ct2 S2 (i + 1) cells2 slots2 → lv_has ls2 7 [(4, .int (nI (3 * i))), (3, .ref a2), (2, .ref a1), (1, .ref a0), (0, .ref b)] → W p l e room_1 s m #[.ref b] below meth c H2 locs2 cells2 slots2 Q (F0 m 1189 ls2 [])) :
    W p l e room_1 s m #[.ref b] below meth c H locs cells slots Q (F0 m 909 ls []) := by
  have hx := F.1
  have hb := F.2.1
  obtain ⟨hcb, hsb⟩ := hJ.room
  have hJ0 := hJ
  obtain ⟨hK, ⟨th0, fo0, hM⟩, hI, ⟨ha0, ha1, ha2⟩, ⟨hO1, fO, hO2⟩, h7, -, -⟩ := hJ
  have ht9 : i < 512 := by omega
  have hIu := inv_up hI ht9
  obtain ⟨lv, lev, lo, hi, ri, sz, ky, vl, go, rt, ep, wq, wn, cn, op, cl, ca, ce, kc, nb⟩ := S
  have hH : HKF G ad dm ct lv lev lo hi ri sz ky vl go rt ep wq wn cn op cl ca ce kc nb := hK
  have hMf : MDF G ad dm ct lv lev lo hi ri sz ky vl go rt ep wq wn cn op cl ca ce kc nb th0 fo0 := hM
  have hIf : InvF lv lev lo hi ri sz ky vl go rt ep wq wn cn op cl ca ce kc nb 800 i := hI
  have hP := hIf.1
  have hnb : nb ≤ 513 := by have := hIf.2.2.2.2; omega
  have hcn9 := hIf.2.2.1.1
  obtain ⟨x, hx1⟩ : ∃ x, xs (nI (3 * i + 1)).toNatClampNeg = x := ⟨_, rfl⟩
  refine lv_aload_n hx hb dL_law_909 rfl (lv_at hl 3 rfl) ?_
  refine lv_aload_n hx hb dL_law_910 rfl (lv_at hl 4 rfl) ?_
  refine lv_iload hx hb dL_law_911 (lv_at hl 0 rfl) ?_
  refine lv_iconst (v := nI 1) hx hb dL_law_913 (by decide) ?_
  refine lv_iadd hx hb dL_law_914 ?_
  refine ktop (nI_add _ _) ?_
  refine va_sld hx hb hXs hbl hbA hS (nI_vp (j := 3 * i + 1) rfl (by omega) (by omega)) dL_law_915 ?_
  refine ktop hx1 ?_
  refine lv_aload_n hx hb dL_law_916 rfl (lv_at hl 1 rfl) ?_
  refine kc_SH 3 (w_links l G A ad dm ct x hH.1.1 hH.2.1 (c_X2_links l G A ad dm ct lv lev lo hi ri sz ky vl go rt ep wq wn cn op cl ca ce kc nb hst hH i hIf x) (fun v w1 h => by obtain ⟨rfl, key, hk, rfl, hv⟩ := h; exact ⟨hO1, rfl, ⟨fO, hO2⟩, _, hv⟩) (fun E h => h.1)) F hE hW hS kw_527 kw_528 kw_0 kw_529 (by decide +kernel) rfl ⟨rfl, rfl⟩ ⟨(Nat.le_of_ble_eq_true rfl), (Nat.le_of_ble_eq_true rfl)⟩ hl.1 (by rw [ha0, ha2]; rfl) (Nat.le_of_ble_eq_true rfl) dL_law_917 ⟨by show cells + 1 ≤ 601024; omega, by show slots + 6 ≤ 7293034; omega⟩ (fun v w9 H locs hp hW hS => ?_)
  rcases hp with ⟨ans, w1, f1, hp, e1, e2, e3, e4, rfl⟩ | ⟨E, hpx, rfl, rfl⟩
  · obtain ⟨ad9, dm9, ct9⟩ := w9
    obtain ⟨rfl, key, hk, rfl, hv⟩ := hp
    cases hv
    dsimp only at e1 e2 e3 e4
    obtain rfl := e1.symm
    obtain rfl := e2.symm
    have hF : FH ad dm ct ad dm ct := FH.rf
    have hK2 := hK
    have hM9 : MDF G ad dm ct9 lv lev lo hi ri sz ky vl go rt ep wq wn cn op cl ca ce kc nb th0 fo0 := md_pass hM hF e4
    have hb1 : ad (10, 0) = a1 := (hF.1 (10, 0) (by decide)).1.trans ha1
    have hb2 : ad (20, 0) = a2 := (hF.1 (20, 0) (by decide)).1.trans ha2
    have hO9 : dm (20, 0) := (hF.1 (20, 0) (by decide)).2.2.mpr hO1
    refine lv_istore (lv' := [(5, .int (nI 0)), (4, .int (nI (3 * i))), (3, .ref a2), (2, .ref a1), (1, .ref a0), (0, .ref b)]) hx hb dL_law_920 hl (by decide) rfl (fun ls hl => ?_)
    refine lv_aload_n hx hb dL_law_922 rfl (lv_at hl 3 rfl) ?_
    refine lv_aload_n hx hb dL_law_923 rfl (lv_at hl 5 rfl) ?_
    refine lv_iload hx hb dL_law_924 (lv_at hl 1 rfl) ?_
    refine lv_iconst (v := nI 1) hx hb dL_law_926 (by decide) ?_
    refine lv_iadd hx hb dL_law_927 ?_
    refine ktop (nI_add _ _) ?_
    refine va_sld hx hb hXs hbl hbA hS (nI_vp (j := 3 * i + 1) rfl (by omega) (by omega)) dL_law_928 ?_
    refine ktop hx1 ?_
    refine kc_Va 1 (c_X3_links l G A ad dm ct9 lv lev lo hi ri sz ky vl go rt ep wq wn cn op cl ca ce kc nb th0 fo0 hM9 i hIf (nI key)) F hE hW hS (10, 0) (hM9.1 0 (by decide)) hM9.2.1 hb1 rfl [.int (nI key)] rfl kw_810 kw_811 kw_812 kw_6 kw_813 (by decide +kernel) rfl ⟨rfl, rfl⟩ ⟨Nat.le_of_ble_eq_true rfl, Nat.le_of_ble_eq_true rfl⟩ hl.1 rfl (Nat.le_of_ble_eq_true rfl) dL_law_929 ⟨by show cells + 1 + 0 ≤ 601024; omega, by show slots + 6 + 0 ≤ 7293034; omega⟩ (fun _ _ _ _ _ h => h.elim) (fun v w' H locs hp hW hS => ?_)
    obtain ⟨ct3, th3, fo3, rfl, hM3, hXM, hcs⟩ := hp
    rcases hcs with ⟨k2, hk2, hxe, rfl, rfl⟩ | ⟨hbad, rfl, rfl⟩
    · obtain rfl : key = k2 := nI_inj (by omega) (by omega) hxe
      refine lv_istore (lv' := [(6, .int (nI (dnF lev hi ri sz ky vl key 0 2000 rt).2)), (5, .int (nI 0)), (4, .int (nI (3 * i))), (3, .ref a2), (2, .ref a1), (1, .ref a0), (0, .ref b)]) hx hb dL_law_932 hl (by decide) rfl (fun ls hl => ?_)
      refine lv_aload_n hx hb dL_law_934 rfl (lv_at hl 4 rfl) ?_
      obtain ⟨hT1, fsT, hT2⟩ := MD.o0 (s := (lv, lev, lo, hi, ri, sz, ky, vl, go, rt, ep, wq, wn, cn, op, cl, ca, ce, kc, nb)) hM3
      refine kc_Va 0 (c_thrown l G A ad dm ct3 (lv, lev, lo, hi, ri, sz, ky, vl, go, rt, ep, wq, wn, cn, op, cl, ca, ce, kc, nb) _ _ hM3) F hE hW hS (10, 0) hT1 hT2 hb1 rfl [] rfl kw_668 kw_669 kw_670 kw_6 kw_671 (by decide +kernel) rfl ⟨rfl, rfl⟩ ⟨Nat.le_of_ble_eq_true rfl, Nat.le_of_ble_eq_true rfl⟩ hl.1 rfl (Nat.le_of_ble_eq_true rfl) dL_law_935 ⟨by show cells + 1 + 0 + 0 ≤ 601024; omega, by show slots + 6 + 0 + 0 ≤ 7293034; omega⟩ (fun _ _ _ _ _ h => h.elim) (fun v w' H locs hp hW hS => ?_)
      obtain ⟨rfl, rfl⟩ := hp
      refine lv_iload hx hb dL_law_938 (lv_at hl 1 rfl) ?_
      refine nc_eq (tgt := 945) hx hb dL_law_940 (by decide) (by decide) (by decide) (fun c1 => ?_) (fun c1 => ?_)
      · refine lv_iload hx hb dL_law_945 (lv_at hl 1 rfl) ?_
        refine nz_ne (tgt := 962) hx hb dL_law_947 (by decide) (by decide) (fun c2 => ?_) (fun c2 => ?_)
        · exact absurd rfl c2
        · refine lv_aload_n hx hb dL_law_950 rfl (lv_at hl 3 rfl) ?_
          refine lv_iconst (v := nI 0) hx hb dL_law_951 (by decide) ?_
          refine kl_l F hE hW (20, 0) hO9 hb2 ((hXM (20, 0) (by decide)).trans e3) 0 rfl (by decide) (by decide) dL_law_952 ?_
          refine ktopv (congrArg Value.long (va_up_self _ _ _)) ?_
          refine lv_iload hx hb dL_law_953 (lv_at hl 0 rfl) ?_
          refine lv_i2l hx hb dL_law_955 rfl ?_
          refine lq_lcmp hx hb dL_law_956 ?_
          refine nz_eq (tgt := 962) hx hb dL_law_957 (by decide) (by decide) (fun c9 => ?_) (fun c9 => ?_)
          · refine lv_goto (tgt := 1189) hx hb dL_law_962 (by decide) ?_
            exact kk _ _ _ _ _ _ _ _ _ hW hS (jn_mk (0) hJ0 hF hK2 e3 e4 hXM hM3 hIu (Nat.le_refl _) (by show cells + 1 + 0 + 0 ≤ _; omega) (by show slots + 6 + 0 + 0 ≤ _; omega)) (lv_sub hl [2, 3, 4, 5, 6] rfl)
          · exact absurd c9 (by decide)
      · exact absurd rfl c1
    · exact absurd rfl (hbad key hk)
  · refine ktop (y := nI 1) rfl ?_
    refine lv_istore (lv' := [(5, .int (nI 1)), (4, .int (nI (3 * i))), (3, .ref a2), (2, .ref a1), (1, .ref a0), (0, .ref b)]) hx hb dL_law_920 hl (by decide) rfl (fun ls hl => ?_)
    refine lv_aload_n hx hb dL_law_922 rfl (lv_at hl 3 rfl) ?_
    refine lv_aload_n hx hb dL_law_923 rfl (lv_at hl 5 rfl) ?_
    refine lv_iload hx hb dL_law_924 (lv_at hl 1 rfl) ?_
    refine lv_iconst (v := nI 1) hx hb dL_law_926 (by decide) ?_
    refine lv_iadd hx hb dL_law_927 ?_
    refine ktop (nI_add _ _) ?_
    refine va_sld hx hb hXs hbl hbA hS (nI_vp (j := 3 * i + 1) rfl (by omega) (by omega)) dL_law_928 ?_
    refine ktop hx1 ?_
    have hF : FH ad dm ct ad dm ct := FH.rf
    have hM9 := hMf
    have hb1 : ad (10, 0) = a1 := ha1
    refine kc_Va 1 (c_X3_links l G A ad dm ct lv lev lo hi ri sz ky vl go rt ep wq wn cn op cl ca ce kc nb th0 fo0 hMf i hIf x) F hE hW hS (10, 0) (hM9.1 0 (by decide)) hM9.2.1 hb1 rfl [.int x] rfl kw_810 kw_811 kw_812 kw_6 kw_813 (by decide +kernel) rfl ⟨rfl, rfl⟩ ⟨Nat.le_of_ble_eq_true rfl, Nat.le_of_ble_eq_true rfl⟩ hl.1 rfl (Nat.le_of_ble_eq_true rfl) dL_law_929 ⟨by show cells + 1 + 0 ≤ 601024; omega, by show slots + 6 + 0 ≤ 7293034; omega⟩ (fun _ _ _ _ _ h => h.elim) (fun v w' H locs hp hW hS => ?_)
    obtain ⟨ct3, th3, fo3, rfl, hM3, hXM, hcs⟩ := hp
    rcases hcs with ⟨k2, hk2, hxe, rfl, rfl⟩ | ⟨hbad, rfl, rfl⟩
    · exact absurd hxe (hpx.2 k2 hk2)
    · refine lv_istore (lv' := [(6, .int (nI 0)), (5, .int (nI 1)), (4, .int (nI (3 * i))), (3, .ref a2), (2, .ref a1), (1, .ref a0), (0, .ref b)]) hx hb dL_law_932 hl (by decide) rfl (fun ls hl => ?_)
      refine lv_aload_n hx hb dL_law_934 rfl (lv_at hl 4 rfl) ?_
      obtain ⟨hT1, fsT, hT2⟩ := MD.o0 (s := (lv, lev, lo, hi, ri, sz, ky, vl, go, rt, ep, wq, wn, cn, op, cl, ca, ce, kc, nb)) hM3
      refine kc_Va 0 (c_thrown l G A ad dm ct3 (lv, lev, lo, hi, ri, sz, ky, vl, go, rt, ep, wq, wn, cn, op, cl, ca, ce, kc, nb) _ _ hM3) F hE hW hS (10, 0) hT1 hT2 hb1 rfl [] rfl kw_668 kw_669 kw_670 kw_6 kw_671 (by decide +kernel) rfl ⟨rfl, rfl⟩ ⟨Nat.le_of_ble_eq_true rfl, Nat.le_of_ble_eq_true rfl⟩ hl.1 rfl (Nat.le_of_ble_eq_true rfl) dL_law_935 ⟨by show cells + 1 + 0 + 0 ≤ 601024; omega, by show slots + 6 + 0 + 0 ≤ 7293034; omega⟩ (fun _ _ _ _ _ h => h.elim) (fun v w' H locs hp hW hS => ?_)
      obtain ⟨rfl, rfl⟩ := hp
      refine lv_iload hx hb dL_law_938 (lv_at hl 1 rfl) ?_
      refine nc_eq (tgt := 945) hx hb dL_law_940 (by decide) (by decide) (by decide) (fun c1 => ?_) (fun c1 => ?_)
      · refine lv_iload hx hb dL_law_945 (lv_at hl 1 rfl) ?_
        refine nz_ne (tgt := 962) hx hb dL_law_947 (by decide) (by decide) (fun c2 => ?_) (fun c2 => ?_)
        · refine lv_goto (tgt := 1189) hx hb dL_law_962 (by decide) ?_
          exact kk _ _ _ _ _ _ _ _ _ hW hS (jn_mk (0) hJ0 hF hK hO2 (fun _ _ => rfl) hXM hM3 hIu (Nat.le_refl _) (by show cells + 1 + 0 + 0 ≤ _; omega) (by show slots + 6 + 0 + 0 ≤ _; omega)) (lv_sub hl [2, 3, 4, 5, 6] rfl)
        · exact absurd c2 (by decide)
      · exact absurd rfl c1
set_option maxRecDepth 100000 in
set_option maxHeartbeats 4000000 in
theorem lc_post {p : Program} {l : Launch} {e : Env} {s : State} {m : MethodId} {below : List Frame} {meth : Method} {c : Code} {b L : Nat} {xs : Nat → Int32} {Q : State → Prop} {G : GG} {A : Nat → Prop} {ad : Lb → Nat} {dm : Lb → Prop} {ct : Lb → va_E} {S : SG} {H : Heap} {locs : List Loc} {cells slots i a0 a1 a2 : Nat} {ls : Array Slot}
    (F : Fx p m c cL_law 7 s #[.ref b] RL) (hst : l.stackTraces = false) (hE : VE G A s) (hXs : va_X b L xs s s.heap) (hbl : b < s.heap.size) (hbA : ¬ A b) (hi9 : 3 * i + 3 ≤ L) (hL9 : L ≤ 1536) (hW : wd G A (ad, dm, ct) H) (hS : va_S A s.heap H locs) (hJ : JN G a0 a1 a2 ad dm ct S i cells slots) (hl : lv_has ls 7 [(4, .int (nI (3 * i))), (3, .ref a2), (2, .ref a1), (1, .ref a0), (0, .ref b)])
    (kk : ∀ (ad2 : Lb → Nat) (dm2 : Lb → Prop) (ct2 : Lb → va_E) (S2 : SG) (H2 : Heap) (locs2 : List Loc) (ls2 : Array Slot) (cells2 slots2 : Nat), wd G A (ad2, dm2, ct2) H2 → va_S A s.heap H2 locs2 → JN G a0 a1 a2 ad2 dm2 ct2 S2 (i + 1) cells2 slots2 → lv_has ls2 7 [(4, .int (nI (3 * i))), (3, .ref a2), (2, .ref a1), (1, .ref a0), (0, .ref b)] → W p l e room_1 s m #[.ref b] below meth c H2 locs2 cells2 slots2 Q (F0 m 1189 ls2 [])) :
    W p l e room_1 s m #[.ref b] below meth c H locs cells slots Q (F0 m 414 ls []) := by
  have hx := F.1
  have hb := F.2.1
  obtain ⟨hcb, hsb⟩ := hJ.room
  have hJ0 := hJ
  obtain ⟨hK, ⟨th0, fo0, hM⟩, hI, ⟨ha0, ha1, ha2⟩, ⟨hO1, fO, hO2⟩, h7, -, -⟩ := hJ
  have ht9 : i < 512 := by omega
  have hIu := inv_up hI ht9
  obtain ⟨lv, lev, lo, hi, ri, sz, ky, vl, go, rt, ep, wq, wn, cn, op, cl, ca, ce, kc, nb⟩ := S
  have hH : HKF G ad dm ct lv lev lo hi ri sz ky vl go rt ep wq wn cn op cl ca ce kc nb := hK
  have hMf : MDF G ad dm ct lv lev lo hi ri sz ky vl go rt ep wq wn cn op cl ca ce kc nb th0 fo0 := hM
  have hIf : InvF lv lev lo hi ri sz ky vl go rt ep wq wn cn op cl ca ce kc nb 800 i := hI
  have hP := hIf.1
  have hnb : nb ≤ 513 := by have := hIf.2.2.2.2; omega
  have hcn9 := hIf.2.2.1.1
  refine lv_aload_n hx hb dL_law_414 rfl (lv_at hl 3 rfl) ?_
  refine lv_aload_n hx hb dL_law_415 rfl (lv_at hl 1 rfl) ?_
  refine kc_SH 2 (w_post l G A ad dm ct  hH.1.1 hH.2.1 (c_X2_post l G A ad dm ct lv lev lo hi ri sz ky vl go rt ep wq wn cn op cl ca ce kc nb hst hH i hIf) (fun v w1 h => by obtain ⟨ad2, dm2, ct2, rfl, hF, hw0, hK2, hv⟩ := h; exact ⟨(hF.1 (20, 0) (by decide)).2.2.mpr hO1, (hF.1 (20, 0) (by decide)).1, ⟨fO, (hF.1 (20, 0) (by decide)).2.1.trans hO2⟩, _, hv⟩) (fun E h => h.1)) F hE hW hS kw_432 kw_433 kw_0 kw_434 (by decide +kernel) rfl ⟨rfl, rfl⟩ ⟨(Nat.le_of_ble_eq_true rfl), (Nat.le_of_ble_eq_true rfl)⟩ hl.1 (by rw [ha0, ha2]; rfl) (Nat.le_of_ble_eq_true rfl) dL_law_416 ⟨by show cells + 5 ≤ 601024; omega, by show slots + 826 ≤ 7293034; omega⟩ (fun v w9 H locs hp hW hS => ?_)
  rcases hp with ⟨ans, w1, f1, hp, e1, e2, e3, e4, rfl⟩ | ⟨E, hpx, rfl, rfl⟩
  · obtain ⟨ad9, dm9, ct9⟩ := w9
    obtain ⟨ad2, dm2, ct2, rfl, hF, hw0, hK2, hv⟩ := hp
    cases hv
    dsimp only at e1 e2 e3 e4
    obtain rfl := e1.symm
    obtain rfl := e2.symm
    have hM9 : MDF G ad2 dm2 ct9 lv lev lo hi ri sz ky vl go rt ep wq wn cn op cl ca ce kc nb th0 fo0 := md_pass hM hF e4
    have hb1 : ad2 (10, 0) = a1 := (hF.1 (10, 0) (by decide)).1.trans ha1
    have hb2 : ad2 (20, 0) = a2 := (hF.1 (20, 0) (by decide)).1.trans ha2
    have hO9 : dm2 (20, 0) := (hF.1 (20, 0) (by decide)).2.2.mpr hO1
    refine lv_istore (lv' := [(5, .int (nI 0)), (4, .int (nI (3 * i))), (3, .ref a2), (2, .ref a1), (1, .ref a0), (0, .ref b)]) hx hb dL_law_419 hl (by decide) rfl (fun ls hl => ?_)
    refine lv_aload_n hx hb dL_law_421 rfl (lv_at hl 3 rfl) ?_
    refine kc_Va 0 (c_X3_post l G A ad2 dm2 ct9 lv lev lo hi ri sz ky vl go rt ep wq wn cn op cl ca ce kc nb th0 fo0 hM9 i hIf ) F hE hW hS (10, 0) (hM9.1 0 (by decide)) hM9.2.1 hb1 rfl [] rfl kw_738 kw_739 kw_740 kw_6 kw_741 (by decide +kernel) rfl ⟨rfl, rfl⟩ ⟨Nat.le_of_ble_eq_true rfl, Nat.le_of_ble_eq_true rfl⟩ hl.1 rfl (Nat.le_of_ble_eq_true rfl) dL_law_422 ⟨by show cells + 5 + 0 ≤ 601024; omega, by show slots + 826 + 0 ≤ 7293034; omega⟩ (fun _ _ _ _ _ h => h.elim) (fun v w' H locs hp hW hS => ?_)
    obtain ⟨ct3, th3, fo3, s3, rfl, hM3, hXM, hcs⟩ := hp
    rcases hcs with ⟨hw1, rfl, rfl, rfl⟩ | ⟨hw1, rfl, rfl, rfl⟩
    · refine lv_istore (lv' := [(6, .int (nI (waits (posS (lv, lev, lo, hi, ri, sz, ky, vl, go, rt, ep, wq, wn, cn, op, cl, ca, ce, kc, nb))))), (5, .int (nI 0)), (4, .int (nI (3 * i))), (3, .ref a2), (2, .ref a1), (1, .ref a0), (0, .ref b)]) hx hb dL_law_425 hl (by decide) rfl (fun ls hl => ?_)
      refine lv_aload_n hx hb dL_law_427 rfl (lv_at hl 4 rfl) ?_
      obtain ⟨hT1, fsT, hT2⟩ := MD.o0 (s := (posS (lv, lev, lo, hi, ri, sz, ky, vl, go, rt, ep, wq, wn, cn, op, cl, ca, ce, kc, nb))) hM3
      refine kc_Va 0 (c_thrown l G A ad2 dm2 ct3 (posS (lv, lev, lo, hi, ri, sz, ky, vl, go, rt, ep, wq, wn, cn, op, cl, ca, ce, kc, nb)) _ _ hM3) F hE hW hS (10, 0) hT1 hT2 hb1 rfl [] rfl kw_668 kw_669 kw_670 kw_6 kw_671 (by decide +kernel) rfl ⟨rfl, rfl⟩ ⟨Nat.le_of_ble_eq_true rfl, Nat.le_of_ble_eq_true rfl⟩ hl.1 rfl (Nat.le_of_ble_eq_true rfl) dL_law_428 ⟨by show cells + 5 + 0 + 0 ≤ 601024; omega, by show slots + 826 + 0 + 0 ≤ 7293034; omega⟩ (fun _ _ _ _ _ h => h.elim) (fun v w' H locs hp hW hS => ?_)
      obtain ⟨rfl, rfl⟩ := hp
      refine lv_iload hx hb dL_law_431 (lv_at hl 1 rfl) ?_
      refine nc_eq (tgt := 438) hx hb dL_law_433 (by decide) (by decide) (by decide) (fun c1 => ?_) (fun c1 => ?_)
      · refine lv_iload hx hb dL_law_438 (lv_at hl 1 rfl) ?_
        refine nz_ne (tgt := 455) hx hb dL_law_440 (by decide) (by decide) (fun c2 => ?_) (fun c2 => ?_)
        · exact absurd rfl c2
        · refine lv_aload_n hx hb dL_law_443 rfl (lv_at hl 3 rfl) ?_
          refine lv_iconst (v := nI 0) hx hb dL_law_444 (by decide) ?_
          refine kl_l F hE hW (20, 0) hO9 hb2 ((hXM (20, 0) (by decide)).trans e3) 0 rfl (by decide) (by decide) dL_law_445 ?_
          refine ktopv (congrArg Value.long (va_up_self _ _ _)) ?_
          refine lv_iload hx hb dL_law_446 (lv_at hl 0 rfl) ?_
          refine lv_i2l hx hb dL_law_448 rfl ?_
          refine lq_lcmp hx hb dL_law_449 ?_
          refine nz_eq (tgt := 455) hx hb dL_law_450 (by decide) (by decide) (fun c9 => ?_) (fun c9 => ?_)
          · refine lv_goto (tgt := 1189) hx hb dL_law_455 (by decide) ?_
            exact kk _ _ _ _ _ _ _ _ _ hW hS (jn_mk (0) hJ0 hF hK2 e3 e4 hXM hM3 (inv_up (inv_pos hI hw0).1 ht9) (Nat.le_of_succ_le (pos_P (s := (lv, lev, lo, hi, ri, sz, ky, vl, go, rt, ep, wq, wn, cn, op, cl, ca, ce, kc, nb)) hw0)) (by show cells + 5 + 0 + 0 ≤ _; omega) (by show slots + 826 + 0 + 0 ≤ _; omega)) (lv_sub hl [2, 3, 4, 5, 6] rfl)
          · exact absurd c9 (by decide)
      · exact absurd rfl c1
    · omega
  · refine ktop (y := nI 1) rfl ?_
    refine lv_istore (lv' := [(5, .int (nI 1)), (4, .int (nI (3 * i))), (3, .ref a2), (2, .ref a1), (1, .ref a0), (0, .ref b)]) hx hb dL_law_419 hl (by decide) rfl (fun ls hl => ?_)
    refine lv_aload_n hx hb dL_law_421 rfl (lv_at hl 3 rfl) ?_
    have hF : FH ad dm ct ad dm ct := FH.rf
    have hM9 := hMf
    have hb1 : ad (10, 0) = a1 := ha1
    refine kc_Va 0 (c_X3_post l G A ad dm ct lv lev lo hi ri sz ky vl go rt ep wq wn cn op cl ca ce kc nb th0 fo0 hMf i hIf ) F hE hW hS (10, 0) (hM9.1 0 (by decide)) hM9.2.1 hb1 rfl [] rfl kw_738 kw_739 kw_740 kw_6 kw_741 (by decide +kernel) rfl ⟨rfl, rfl⟩ ⟨Nat.le_of_ble_eq_true rfl, Nat.le_of_ble_eq_true rfl⟩ hl.1 rfl (Nat.le_of_ble_eq_true rfl) dL_law_422 ⟨by show cells + 5 + 0 ≤ 601024; omega, by show slots + 826 + 0 ≤ 7293034; omega⟩ (fun _ _ _ _ _ h => h.elim) (fun v w' H locs hp hW hS => ?_)
    obtain ⟨ct3, th3, fo3, s3, rfl, hM3, hXM, hcs⟩ := hp
    rcases hcs with ⟨hw1, rfl, rfl, rfl⟩ | ⟨hw1, rfl, rfl, rfl⟩
    · have := hpx.2; omega
    · refine lv_istore (lv' := [(6, .int (nI 0)), (5, .int (nI 1)), (4, .int (nI (3 * i))), (3, .ref a2), (2, .ref a1), (1, .ref a0), (0, .ref b)]) hx hb dL_law_425 hl (by decide) rfl (fun ls hl => ?_)
      refine lv_aload_n hx hb dL_law_427 rfl (lv_at hl 4 rfl) ?_
      obtain ⟨hT1, fsT, hT2⟩ := MD.o0 (s := (lv, lev, lo, hi, ri, sz, ky, vl, go, rt, ep, wq, wn, cn, op, cl, ca, ce, kc, nb)) hM3
      refine kc_Va 0 (c_thrown l G A ad dm ct3 (lv, lev, lo, hi, ri, sz, ky, vl, go, rt, ep, wq, wn, cn, op, cl, ca, ce, kc, nb) _ _ hM3) F hE hW hS (10, 0) hT1 hT2 hb1 rfl [] rfl kw_668 kw_669 kw_670 kw_6 kw_671 (by decide +kernel) rfl ⟨rfl, rfl⟩ ⟨Nat.le_of_ble_eq_true rfl, Nat.le_of_ble_eq_true rfl⟩ hl.1 rfl (Nat.le_of_ble_eq_true rfl) dL_law_428 ⟨by show cells + 5 + 0 + 0 ≤ 601024; omega, by show slots + 826 + 0 + 0 ≤ 7293034; omega⟩ (fun _ _ _ _ _ h => h.elim) (fun v w' H locs hp hW hS => ?_)
      obtain ⟨rfl, rfl⟩ := hp
      refine lv_iload hx hb dL_law_431 (lv_at hl 1 rfl) ?_
      refine nc_eq (tgt := 438) hx hb dL_law_433 (by decide) (by decide) (by decide) (fun c1 => ?_) (fun c1 => ?_)
      · refine lv_iload hx hb dL_law_438 (lv_at hl 1 rfl) ?_
        refine nz_ne (tgt := 455) hx hb dL_law_440 (by decide) (by decide) (fun c2 => ?_) (fun c2 => ?_)
        · refine lv_goto (tgt := 1189) hx hb dL_law_455 (by decide) ?_
          exact kk _ _ _ _ _ _ _ _ _ hW hS (jn_mk (0) hJ0 hF hK hO2 (fun _ _ => rfl) hXM hM3 hIu (Nat.le_refl _) (by show cells + 5 + 0 + 0 ≤ _; omega) (by show slots + 826 + 0 + 0 ≤ _; omega)) (lv_sub hl [2, 3, 4, 5, 6] rfl)
        · exact absurd c2 (by decide)
      · exact absurd rfl c1
set_option maxRecDepth 100000 in
set_option maxHeartbeats 4000000 in
theorem lc_level {p : Program} {l : Launch} {e : Env} {s : State} {m : MethodId} {below : List Frame} {meth : Method} {c : Code} {b L : Nat} {xs : Nat → Int32} {Q : State → Prop} {G : GG} {A : Nat → Prop} {ad : Lb → Nat} {dm : Lb → Prop} {ct : Lb → va_E} {S : SG} {H : Heap} {locs : List Loc} {cells slots i a0 a1 a2 : Nat} {ls : Array Slot}
    (F : Fx p m c cL_law 7 s #[.ref b] RL) (hst : l.stackTraces = false) (hE : VE G A s) (hXs : va_X b L xs s s.heap) (hbl : b < s.heap.size) (hbA : ¬ A b) (hi9 : 3 * i + 3 ≤ L) (hL9 : L ≤ 1536) (hW : wd G A (ad, dm, ct) H) (hS : va_S A s.heap H locs) (hJ : JN G a0 a1 a2 ad dm ct S i cells slots) (hl : lv_has ls 7 [(4, .int (nI (3 * i))), (3, .ref a2), (2, .ref a1), (1, .ref a0), (0, .ref b)])
    (kk : ∀ (ad2 : Lb → Nat) (dm2 : Lb → Prop) (ct2 : Lb → va_E) (S2 : SG) (H2 : Heap) (locs2 : List Loc) (ls2 : Array Slot) (cells2 slots2 : Nat), wd G A (ad2, dm2, ct2) H2 → va_S A s.heap H2 locs2 → JN G a0 a1 a2 ad2 dm2 ct2 S2 (i + 1) cells2 slots2 → lv_has ls2 7 [(4, .int (nI (3 * i))), (3, .ref a2), (2, .ref a1), (1, .ref a0), (0, .ref b)] → W p l e room_1 s m #[.ref b] below meth c H2 locs2 cells2 slots2 Q (F0 m 1189 ls2 [])) :
    W p l e room_1 s m #[.ref b] below meth c H locs cells slots Q (F0 m 549 ls []) := by
  have hx := F.1
  have hb := F.2.1
  obtain ⟨hcb, hsb⟩ := hJ.room
  have hJ0 := hJ
  obtain ⟨hK, ⟨th0, fo0, hM⟩, hI, ⟨ha0, ha1, ha2⟩, ⟨hO1, fO, hO2⟩, h7, -, -⟩ := hJ
  have ht9 : i < 512 := by omega
  have hIu := inv_up hI ht9
  obtain ⟨lv, lev, lo, hi, ri, sz, ky, vl, go, rt, ep, wq, wn, cn, op, cl, ca, ce, kc, nb⟩ := S
  have hH : HKF G ad dm ct lv lev lo hi ri sz ky vl go rt ep wq wn cn op cl ca ce kc nb := hK
  have hMf : MDF G ad dm ct lv lev lo hi ri sz ky vl go rt ep wq wn cn op cl ca ce kc nb th0 fo0 := hM
  have hIf : InvF lv lev lo hi ri sz ky vl go rt ep wq wn cn op cl ca ce kc nb 800 i := hI
  have hP := hIf.1
  have hnb : nb ≤ 513 := by have := hIf.2.2.2.2; omega
  have hcn9 := hIf.2.2.1.1
  obtain ⟨x, hx1⟩ : ∃ x, xs (nI (3 * i + 1)).toNatClampNeg = x := ⟨_, rfl⟩
  refine lv_aload_n hx hb dL_law_549 rfl (lv_at hl 3 rfl) ?_
  refine lv_aload_n hx hb dL_law_550 rfl (lv_at hl 4 rfl) ?_
  refine lv_iload hx hb dL_law_551 (lv_at hl 0 rfl) ?_
  refine lv_iconst (v := nI 1) hx hb dL_law_553 (by decide) ?_
  refine lv_iadd hx hb dL_law_554 ?_
  refine ktop (nI_add _ _) ?_
  refine va_sld hx hb hXs hbl hbA hS (nI_vp (j := 3 * i + 1) rfl (by omega) (by omega)) dL_law_555 ?_
  refine ktop hx1 ?_
  refine lv_aload_n hx hb dL_law_556 rfl (lv_at hl 1 rfl) ?_
  refine kc_SH 3 (w_level l G A ad dm ct x hH.1.1 hH.2.1 (c_X2_level l G A ad dm ct lv lev lo hi ri sz ky vl go rt ep wq wn cn op cl ca ce kc nb hst hH i hIf x) (fun v w1 h => by obtain ⟨rfl, j, rfl, hv9, hv⟩ := h; exact ⟨hO1, rfl, ⟨fO, hO2⟩, _, hv⟩) (fun E h => h.1)) F hE hW hS kw_456 kw_457 kw_0 kw_458 (by decide +kernel) rfl ⟨rfl, rfl⟩ ⟨(Nat.le_of_ble_eq_true rfl), (Nat.le_of_ble_eq_true rfl)⟩ hl.1 (by rw [ha0, ha2]; rfl) (Nat.le_of_ble_eq_true rfl) dL_law_557 ⟨by show cells + 1 ≤ 601024; omega, by show slots + 6 ≤ 7293034; omega⟩ (fun v w9 H locs hp hW hS => ?_)
  rcases hp with ⟨ans, w1, f1, hp, e1, e2, e3, e4, rfl⟩ | ⟨E, hpx, rfl, rfl⟩
  · obtain ⟨ad9, dm9, ct9⟩ := w9
    obtain ⟨rfl, j, rfl, hv9, hv⟩ := hp
    cases hv
    dsimp only at e1 e2 e3 e4
    obtain rfl := e1.symm
    obtain rfl := e2.symm
    have hF : FH ad dm ct ad dm ct := FH.rf
    have hK2 := hK
    have hM9 : MDF G ad dm ct9 lv lev lo hi ri sz ky vl go rt ep wq wn cn op cl ca ce kc nb th0 fo0 := md_pass hM hF e4
    have hb1 : ad (10, 0) = a1 := (hF.1 (10, 0) (by decide)).1.trans ha1
    have hb2 : ad (20, 0) = a2 := (hF.1 (20, 0) (by decide)).1.trans ha2
    have hO9 : dm (20, 0) := (hF.1 (20, 0) (by decide)).2.2.mpr hO1
    refine lv_istore (lv' := [(5, .int (nI 0)), (4, .int (nI (3 * i))), (3, .ref a2), (2, .ref a1), (1, .ref a0), (0, .ref b)]) hx hb dL_law_560 hl (by decide) rfl (fun ls hl => ?_)
    refine lv_aload_n hx hb dL_law_562 rfl (lv_at hl 3 rfl) ?_
    refine lv_aload_n hx hb dL_law_563 rfl (lv_at hl 5 rfl) ?_
    refine lv_iload hx hb dL_law_564 (lv_at hl 1 rfl) ?_
    refine lv_iconst (v := nI 1) hx hb dL_law_566 (by decide) ?_
    refine lv_iadd hx hb dL_law_567 ?_
    refine ktop (nI_add _ _) ?_
    refine va_sld hx hb hXs hbl hbA hS (nI_vp (j := 3 * i + 1) rfl (by omega) (by omega)) dL_law_568 ?_
    refine ktop hx1 ?_
    refine kc_Va 1 (c_X3_level l G A ad dm ct9 lv lev lo hi ri sz ky vl go rt ep wq wn cn op cl ca ce kc nb th0 fo0 hM9 i hIf (nI j)) F hE hW hS (10, 0) (hM9.1 0 (by decide)) hM9.2.1 hb1 rfl [.int (nI j)] rfl kw_782 kw_783 kw_784 kw_6 kw_785 (by decide +kernel) rfl ⟨rfl, rfl⟩ ⟨Nat.le_of_ble_eq_true rfl, Nat.le_of_ble_eq_true rfl⟩ hl.1 rfl (Nat.le_of_ble_eq_true rfl) dL_law_569 ⟨by show cells + 1 + 0 ≤ 601024; omega, by show slots + 6 + 0 ≤ 7293034; omega⟩ (fun _ _ _ _ _ h => h.elim) (fun v w' H locs hp hW hS => ?_)
    obtain ⟨ct3, th3, rfl, hM3, hXM, hcs⟩ := hp
    rcases hcs with ⟨j2, hxe, hv2, rfl, rfl⟩ | ⟨hbad, rfl, rfl⟩
    · obtain rfl : j = j2 := nI_inj (by have := (hP.1 j hv9).1; omega) (by have := (hP.1 j2 hv2).1; omega) hxe
      refine lv_istore (lv' := [(6, .int (nI (lev j))), (5, .int (nI 0)), (4, .int (nI (3 * i))), (3, .ref a2), (2, .ref a1), (1, .ref a0), (0, .ref b)]) hx hb dL_law_572 hl (by decide) rfl (fun ls hl => ?_)
      refine lv_aload_n hx hb dL_law_574 rfl (lv_at hl 4 rfl) ?_
      obtain ⟨hT1, fsT, hT2⟩ := MD.o0 (s := (lv, lev, lo, hi, ri, sz, ky, vl, go, rt, ep, wq, wn, cn, op, cl, ca, ce, kc, nb)) hM3
      refine kc_Va 0 (c_thrown l G A ad dm ct3 (lv, lev, lo, hi, ri, sz, ky, vl, go, rt, ep, wq, wn, cn, op, cl, ca, ce, kc, nb) _ _ hM3) F hE hW hS (10, 0) hT1 hT2 hb1 rfl [] rfl kw_668 kw_669 kw_670 kw_6 kw_671 (by decide +kernel) rfl ⟨rfl, rfl⟩ ⟨Nat.le_of_ble_eq_true rfl, Nat.le_of_ble_eq_true rfl⟩ hl.1 rfl (Nat.le_of_ble_eq_true rfl) dL_law_575 ⟨by show cells + 1 + 0 + 0 ≤ 601024; omega, by show slots + 6 + 0 + 0 ≤ 7293034; omega⟩ (fun _ _ _ _ _ h => h.elim) (fun v w' H locs hp hW hS => ?_)
      obtain ⟨rfl, rfl⟩ := hp
      refine lv_iload hx hb dL_law_578 (lv_at hl 1 rfl) ?_
      refine nc_eq (tgt := 585) hx hb dL_law_580 (by decide) (by decide) (by decide) (fun c1 => ?_) (fun c1 => ?_)
      · refine lv_iload hx hb dL_law_585 (lv_at hl 1 rfl) ?_
        refine nz_ne (tgt := 602) hx hb dL_law_587 (by decide) (by decide) (fun c2 => ?_) (fun c2 => ?_)
        · exact absurd rfl c2
        · refine lv_aload_n hx hb dL_law_590 rfl (lv_at hl 3 rfl) ?_
          refine lv_iconst (v := nI 0) hx hb dL_law_591 (by decide) ?_
          refine kl_l F hE hW (20, 0) hO9 hb2 ((hXM (20, 0) (by decide)).trans e3) 0 rfl (by decide) (by decide) dL_law_592 ?_
          refine ktopv (congrArg Value.long (va_up_self _ _ _)) ?_
          refine lv_iload hx hb dL_law_593 (lv_at hl 0 rfl) ?_
          refine lv_i2l hx hb dL_law_595 rfl ?_
          refine lq_lcmp hx hb dL_law_596 ?_
          refine nz_eq (tgt := 602) hx hb dL_law_597 (by decide) (by decide) (fun c9 => ?_) (fun c9 => ?_)
          · refine lv_goto (tgt := 1189) hx hb dL_law_602 (by decide) ?_
            exact kk _ _ _ _ _ _ _ _ _ hW hS (jn_mk (0) hJ0 hF hK2 e3 e4 hXM hM3 hIu (Nat.le_refl _) (by show cells + 1 + 0 + 0 ≤ _; omega) (by show slots + 6 + 0 + 0 ≤ _; omega)) (lv_sub hl [2, 3, 4, 5, 6] rfl)
          · exact absurd c9 (by decide)
      · exact absurd rfl c1
    · exact absurd rfl (hbad j hv9)
  · refine ktop (y := nI 1) rfl ?_
    refine lv_istore (lv' := [(5, .int (nI 1)), (4, .int (nI (3 * i))), (3, .ref a2), (2, .ref a1), (1, .ref a0), (0, .ref b)]) hx hb dL_law_560 hl (by decide) rfl (fun ls hl => ?_)
    refine lv_aload_n hx hb dL_law_562 rfl (lv_at hl 3 rfl) ?_
    refine lv_aload_n hx hb dL_law_563 rfl (lv_at hl 5 rfl) ?_
    refine lv_iload hx hb dL_law_564 (lv_at hl 1 rfl) ?_
    refine lv_iconst (v := nI 1) hx hb dL_law_566 (by decide) ?_
    refine lv_iadd hx hb dL_law_567 ?_
    refine ktop (nI_add _ _) ?_
    refine va_sld hx hb hXs hbl hbA hS (nI_vp (j := 3 * i + 1) rfl (by omega) (by omega)) dL_law_568 ?_
    refine ktop hx1 ?_
    have hF : FH ad dm ct ad dm ct := FH.rf
    have hM9 := hMf
    have hb1 : ad (10, 0) = a1 := ha1
    refine kc_Va 1 (c_X3_level l G A ad dm ct lv lev lo hi ri sz ky vl go rt ep wq wn cn op cl ca ce kc nb th0 fo0 hMf i hIf x) F hE hW hS (10, 0) (hM9.1 0 (by decide)) hM9.2.1 hb1 rfl [.int x] rfl kw_782 kw_783 kw_784 kw_6 kw_785 (by decide +kernel) rfl ⟨rfl, rfl⟩ ⟨Nat.le_of_ble_eq_true rfl, Nat.le_of_ble_eq_true rfl⟩ hl.1 rfl (Nat.le_of_ble_eq_true rfl) dL_law_569 ⟨by show cells + 1 + 0 ≤ 601024; omega, by show slots + 6 + 0 ≤ 7293034; omega⟩ (fun _ _ _ _ _ h => h.elim) (fun v w' H locs hp hW hS => ?_)
    obtain ⟨ct3, th3, rfl, hM3, hXM, hcs⟩ := hp
    rcases hcs with ⟨j2, hxe, hv2, rfl, rfl⟩ | ⟨hbad, rfl, rfl⟩
    · exact absurd hxe (hpx.2 j2 hv2)
    · refine lv_istore (lv' := [(6, .int (nI 0)), (5, .int (nI 1)), (4, .int (nI (3 * i))), (3, .ref a2), (2, .ref a1), (1, .ref a0), (0, .ref b)]) hx hb dL_law_572 hl (by decide) rfl (fun ls hl => ?_)
      refine lv_aload_n hx hb dL_law_574 rfl (lv_at hl 4 rfl) ?_
      obtain ⟨hT1, fsT, hT2⟩ := MD.o0 (s := (lv, lev, lo, hi, ri, sz, ky, vl, go, rt, ep, wq, wn, cn, op, cl, ca, ce, kc, nb)) hM3
      refine kc_Va 0 (c_thrown l G A ad dm ct3 (lv, lev, lo, hi, ri, sz, ky, vl, go, rt, ep, wq, wn, cn, op, cl, ca, ce, kc, nb) _ _ hM3) F hE hW hS (10, 0) hT1 hT2 hb1 rfl [] rfl kw_668 kw_669 kw_670 kw_6 kw_671 (by decide +kernel) rfl ⟨rfl, rfl⟩ ⟨Nat.le_of_ble_eq_true rfl, Nat.le_of_ble_eq_true rfl⟩ hl.1 rfl (Nat.le_of_ble_eq_true rfl) dL_law_575 ⟨by show cells + 1 + 0 + 0 ≤ 601024; omega, by show slots + 6 + 0 + 0 ≤ 7293034; omega⟩ (fun _ _ _ _ _ h => h.elim) (fun v w' H locs hp hW hS => ?_)
      obtain ⟨rfl, rfl⟩ := hp
      refine lv_iload hx hb dL_law_578 (lv_at hl 1 rfl) ?_
      refine nc_eq (tgt := 585) hx hb dL_law_580 (by decide) (by decide) (by decide) (fun c1 => ?_) (fun c1 => ?_)
      · refine lv_iload hx hb dL_law_585 (lv_at hl 1 rfl) ?_
        refine nz_ne (tgt := 602) hx hb dL_law_587 (by decide) (by decide) (fun c2 => ?_) (fun c2 => ?_)
        · refine lv_goto (tgt := 1189) hx hb dL_law_602 (by decide) ?_
          exact kk _ _ _ _ _ _ _ _ _ hW hS (jn_mk (0) hJ0 hF hK hO2 (fun _ _ => rfl) hXM hM3 hIu (Nat.le_refl _) (by show cells + 1 + 0 + 0 ≤ _; omega) (by show slots + 6 + 0 + 0 ≤ _; omega)) (lv_sub hl [2, 3, 4, 5, 6] rfl)
        · exact absurd c2 (by decide)
      · exact absurd rfl c1
set_option maxRecDepth 100000 in
set_option maxHeartbeats 4000000 in
theorem lc_size {p : Program} {l : Launch} {e : Env} {s : State} {m : MethodId} {below : List Frame} {meth : Method} {c : Code} {b L : Nat} {xs : Nat → Int32} {Q : State → Prop} {G : GG} {A : Nat → Prop} {ad : Lb → Nat} {dm : Lb → Prop} {ct : Lb → va_E} {S : SG} {H : Heap} {locs : List Loc} {cells slots i a0 a1 a2 : Nat} {ls : Array Slot}
    (F : Fx p m c cL_law 7 s #[.ref b] RL) (hst : l.stackTraces = false) (hE : VE G A s) (hXs : va_X b L xs s s.heap) (hbl : b < s.heap.size) (hbA : ¬ A b) (hi9 : 3 * i + 3 ≤ L) (hL9 : L ≤ 1536) (hW : wd G A (ad, dm, ct) H) (hS : va_S A s.heap H locs) (hJ : JN G a0 a1 a2 ad dm ct S i cells slots) (hl : lv_has ls 7 [(4, .int (nI (3 * i))), (3, .ref a2), (2, .ref a1), (1, .ref a0), (0, .ref b)])
    (kk : ∀ (ad2 : Lb → Nat) (dm2 : Lb → Prop) (ct2 : Lb → va_E) (S2 : SG) (H2 : Heap) (locs2 : List Loc) (ls2 : Array Slot) (cells2 slots2 : Nat), wd G A (ad2, dm2, ct2) H2 → va_S A s.heap H2 locs2 → JN G a0 a1 a2 ad2 dm2 ct2 S2 (i + 1) cells2 slots2 → lv_has ls2 7 [(4, .int (nI (3 * i))), (3, .ref a2), (2, .ref a1), (1, .ref a0), (0, .ref b)] → W p l e room_1 s m #[.ref b] below meth c H2 locs2 cells2 slots2 Q (F0 m 1189 ls2 [])) :
    W p l e room_1 s m #[.ref b] below meth c H locs cells slots Q (F0 m 605 ls []) := by
  have hx := F.1
  have hb := F.2.1
  obtain ⟨hcb, hsb⟩ := hJ.room
  have hJ0 := hJ
  obtain ⟨hK, ⟨th0, fo0, hM⟩, hI, ⟨ha0, ha1, ha2⟩, ⟨hO1, fO, hO2⟩, h7, -, -⟩ := hJ
  have ht9 : i < 512 := by omega
  have hIu := inv_up hI ht9
  obtain ⟨lv, lev, lo, hi, ri, sz, ky, vl, go, rt, ep, wq, wn, cn, op, cl, ca, ce, kc, nb⟩ := S
  have hH : HKF G ad dm ct lv lev lo hi ri sz ky vl go rt ep wq wn cn op cl ca ce kc nb := hK
  have hMf : MDF G ad dm ct lv lev lo hi ri sz ky vl go rt ep wq wn cn op cl ca ce kc nb th0 fo0 := hM
  have hIf : InvF lv lev lo hi ri sz ky vl go rt ep wq wn cn op cl ca ce kc nb 800 i := hI
  have hP := hIf.1
  have hnb : nb ≤ 513 := by have := hIf.2.2.2.2; omega
  have hcn9 := hIf.2.2.1.1
  obtain ⟨x, hx1⟩ : ∃ x, xs (nI (3 * i + 1)).toNatClampNeg = x := ⟨_, rfl⟩
  refine lv_aload_n hx hb dL_law_605 rfl (lv_at hl 3 rfl) ?_
  refine lv_aload_n hx hb dL_law_606 rfl (lv_at hl 4 rfl) ?_
  refine lv_iload hx hb dL_law_607 (lv_at hl 0 rfl) ?_
  refine lv_iconst (v := nI 1) hx hb dL_law_609 (by decide) ?_
  refine lv_iadd hx hb dL_law_610 ?_
  refine ktop (nI_add _ _) ?_
  refine va_sld hx hb hXs hbl hbA hS (nI_vp (j := 3 * i + 1) rfl (by omega) (by omega)) dL_law_611 ?_
  refine ktop hx1 ?_
  refine lv_aload_n hx hb dL_law_612 rfl (lv_at hl 1 rfl) ?_
  refine kc_SH 3 (w_size l G A ad dm ct x hH.1.1 hH.2.1 (c_X2_size l G A ad dm ct lv lev lo hi ri sz ky vl go rt ep wq wn cn op cl ca ce kc nb hst hH i hIf x) (fun v w1 h => by obtain ⟨rfl, j, rfl, hv9, hv⟩ := h; exact ⟨hO1, rfl, ⟨fO, hO2⟩, _, hv⟩) (fun E h => h.1)) F hE hW hS kw_484 kw_485 kw_0 kw_486 (by decide +kernel) rfl ⟨rfl, rfl⟩ ⟨(Nat.le_of_ble_eq_true rfl), (Nat.le_of_ble_eq_true rfl)⟩ hl.1 (by rw [ha0, ha2]; rfl) (Nat.le_of_ble_eq_true rfl) dL_law_613 ⟨by show cells + 1 ≤ 601024; omega, by show slots + 6 ≤ 7293034; omega⟩ (fun v w9 H locs hp hW hS => ?_)
  rcases hp with ⟨ans, w1, f1, hp, e1, e2, e3, e4, rfl⟩ | ⟨E, hpx, rfl, rfl⟩
  · obtain ⟨ad9, dm9, ct9⟩ := w9
    obtain ⟨rfl, j, rfl, hv9, hv⟩ := hp
    cases hv
    dsimp only at e1 e2 e3 e4
    obtain rfl := e1.symm
    obtain rfl := e2.symm
    have hF : FH ad dm ct ad dm ct := FH.rf
    have hK2 := hK
    have hM9 : MDF G ad dm ct9 lv lev lo hi ri sz ky vl go rt ep wq wn cn op cl ca ce kc nb th0 fo0 := md_pass hM hF e4
    have hb1 : ad (10, 0) = a1 := (hF.1 (10, 0) (by decide)).1.trans ha1
    have hb2 : ad (20, 0) = a2 := (hF.1 (20, 0) (by decide)).1.trans ha2
    have hO9 : dm (20, 0) := (hF.1 (20, 0) (by decide)).2.2.mpr hO1
    refine lv_istore (lv' := [(5, .int (nI 0)), (4, .int (nI (3 * i))), (3, .ref a2), (2, .ref a1), (1, .ref a0), (0, .ref b)]) hx hb dL_law_616 hl (by decide) rfl (fun ls hl => ?_)
    refine lv_aload_n hx hb dL_law_618 rfl (lv_at hl 3 rfl) ?_
    refine lv_aload_n hx hb dL_law_619 rfl (lv_at hl 5 rfl) ?_
    refine lv_iload hx hb dL_law_620 (lv_at hl 1 rfl) ?_
    refine lv_iconst (v := nI 1) hx hb dL_law_622 (by decide) ?_
    refine lv_iadd hx hb dL_law_623 ?_
    refine ktop (nI_add _ _) ?_
    refine va_sld hx hb hXs hbl hbA hS (nI_vp (j := 3 * i + 1) rfl (by omega) (by omega)) dL_law_624 ?_
    refine ktop hx1 ?_
    refine kc_Va 1 (c_X3_size l G A ad dm ct9 lv lev lo hi ri sz ky vl go rt ep wq wn cn op cl ca ce kc nb th0 fo0 hM9 i hIf (nI j)) F hE hW hS (10, 0) (hM9.1 0 (by decide)) hM9.2.1 hb1 rfl [.int (nI j)] rfl kw_790 kw_791 kw_792 kw_6 kw_793 (by decide +kernel) rfl ⟨rfl, rfl⟩ ⟨Nat.le_of_ble_eq_true rfl, Nat.le_of_ble_eq_true rfl⟩ hl.1 rfl (Nat.le_of_ble_eq_true rfl) dL_law_625 ⟨by show cells + 1 + 0 ≤ 601024; omega, by show slots + 6 + 0 ≤ 7293034; omega⟩ (fun _ _ _ _ _ h => h.elim) (fun v w' H locs hp hW hS => ?_)
    obtain ⟨ct3, th3, rfl, hM3, hXM, hcs⟩ := hp
    rcases hcs with ⟨j2, hxe, hv2, rfl, rfl⟩ | ⟨hbad, rfl, rfl⟩
    · obtain rfl : j = j2 := nI_inj (by have := (hP.1 j hv9).1; omega) (by have := (hP.1 j2 hv2).1; omega) hxe
      refine lv_istore (lv' := [(6, .int (nI (sz j))), (5, .int (nI 0)), (4, .int (nI (3 * i))), (3, .ref a2), (2, .ref a1), (1, .ref a0), (0, .ref b)]) hx hb dL_law_628 hl (by decide) rfl (fun ls hl => ?_)
      refine lv_aload_n hx hb dL_law_630 rfl (lv_at hl 4 rfl) ?_
      obtain ⟨hT1, fsT, hT2⟩ := MD.o0 (s := (lv, lev, lo, hi, ri, sz, ky, vl, go, rt, ep, wq, wn, cn, op, cl, ca, ce, kc, nb)) hM3
      refine kc_Va 0 (c_thrown l G A ad dm ct3 (lv, lev, lo, hi, ri, sz, ky, vl, go, rt, ep, wq, wn, cn, op, cl, ca, ce, kc, nb) _ _ hM3) F hE hW hS (10, 0) hT1 hT2 hb1 rfl [] rfl kw_668 kw_669 kw_670 kw_6 kw_671 (by decide +kernel) rfl ⟨rfl, rfl⟩ ⟨Nat.le_of_ble_eq_true rfl, Nat.le_of_ble_eq_true rfl⟩ hl.1 rfl (Nat.le_of_ble_eq_true rfl) dL_law_631 ⟨by show cells + 1 + 0 + 0 ≤ 601024; omega, by show slots + 6 + 0 + 0 ≤ 7293034; omega⟩ (fun _ _ _ _ _ h => h.elim) (fun v w' H locs hp hW hS => ?_)
      obtain ⟨rfl, rfl⟩ := hp
      refine lv_iload hx hb dL_law_634 (lv_at hl 1 rfl) ?_
      refine nc_eq (tgt := 641) hx hb dL_law_636 (by decide) (by decide) (by decide) (fun c1 => ?_) (fun c1 => ?_)
      · refine lv_iload hx hb dL_law_641 (lv_at hl 1 rfl) ?_
        refine nz_ne (tgt := 658) hx hb dL_law_643 (by decide) (by decide) (fun c2 => ?_) (fun c2 => ?_)
        · exact absurd rfl c2
        · refine lv_aload_n hx hb dL_law_646 rfl (lv_at hl 3 rfl) ?_
          refine lv_iconst (v := nI 0) hx hb dL_law_647 (by decide) ?_
          refine kl_l F hE hW (20, 0) hO9 hb2 ((hXM (20, 0) (by decide)).trans e3) 0 rfl (by decide) (by decide) dL_law_648 ?_
          refine ktopv (congrArg Value.long (va_up_self _ _ _)) ?_
          refine lv_iload hx hb dL_law_649 (lv_at hl 0 rfl) ?_
          refine lv_i2l hx hb dL_law_651 rfl ?_
          refine lq_lcmp hx hb dL_law_652 ?_
          refine nz_eq (tgt := 658) hx hb dL_law_653 (by decide) (by decide) (fun c9 => ?_) (fun c9 => ?_)
          · refine lv_goto (tgt := 1189) hx hb dL_law_658 (by decide) ?_
            exact kk _ _ _ _ _ _ _ _ _ hW hS (jn_mk (0) hJ0 hF hK2 e3 e4 hXM hM3 hIu (Nat.le_refl _) (by show cells + 1 + 0 + 0 ≤ _; omega) (by show slots + 6 + 0 + 0 ≤ _; omega)) (lv_sub hl [2, 3, 4, 5, 6] rfl)
          · exact absurd c9 (by decide)
      · exact absurd rfl c1
    · exact absurd rfl (hbad j hv9)
  · refine ktop (y := nI 1) rfl ?_
    refine lv_istore (lv' := [(5, .int (nI 1)), (4, .int (nI (3 * i))), (3, .ref a2), (2, .ref a1), (1, .ref a0), (0, .ref b)]) hx hb dL_law_616 hl (by decide) rfl (fun ls hl => ?_)
    refine lv_aload_n hx hb dL_law_618 rfl (lv_at hl 3 rfl) ?_
    refine lv_aload_n hx hb dL_law_619 rfl (lv_at hl 5 rfl) ?_
    refine lv_iload hx hb dL_law_620 (lv_at hl 1 rfl) ?_
    refine lv_iconst (v := nI 1) hx hb dL_law_622 (by decide) ?_
    refine lv_iadd hx hb dL_law_623 ?_
    refine ktop (nI_add _ _) ?_
    refine va_sld hx hb hXs hbl hbA hS (nI_vp (j := 3 * i + 1) rfl (by omega) (by omega)) dL_law_624 ?_
    refine ktop hx1 ?_
    have hF : FH ad dm ct ad dm ct := FH.rf
    have hM9 := hMf
    have hb1 : ad (10, 0) = a1 := ha1
    refine kc_Va 1 (c_X3_size l G A ad dm ct lv lev lo hi ri sz ky vl go rt ep wq wn cn op cl ca ce kc nb th0 fo0 hMf i hIf x) F hE hW hS (10, 0) (hM9.1 0 (by decide)) hM9.2.1 hb1 rfl [.int x] rfl kw_790 kw_791 kw_792 kw_6 kw_793 (by decide +kernel) rfl ⟨rfl, rfl⟩ ⟨Nat.le_of_ble_eq_true rfl, Nat.le_of_ble_eq_true rfl⟩ hl.1 rfl (Nat.le_of_ble_eq_true rfl) dL_law_625 ⟨by show cells + 1 + 0 ≤ 601024; omega, by show slots + 6 + 0 ≤ 7293034; omega⟩ (fun _ _ _ _ _ h => h.elim) (fun v w' H locs hp hW hS => ?_)
    obtain ⟨ct3, th3, rfl, hM3, hXM, hcs⟩ := hp
    rcases hcs with ⟨j2, hxe, hv2, rfl, rfl⟩ | ⟨hbad, rfl, rfl⟩
    · exact absurd hxe (hpx.2 j2 hv2)
    · refine lv_istore (lv' := [(6, .int (nI 0)), (5, .int (nI 1)), (4, .int (nI (3 * i))), (3, .ref a2), (2, .ref a1), (1, .ref a0), (0, .ref b)]) hx hb dL_law_628 hl (by decide) rfl (fun ls hl => ?_)
      refine lv_aload_n hx hb dL_law_630 rfl (lv_at hl 4 rfl) ?_
      obtain ⟨hT1, fsT, hT2⟩ := MD.o0 (s := (lv, lev, lo, hi, ri, sz, ky, vl, go, rt, ep, wq, wn, cn, op, cl, ca, ce, kc, nb)) hM3
      refine kc_Va 0 (c_thrown l G A ad dm ct3 (lv, lev, lo, hi, ri, sz, ky, vl, go, rt, ep, wq, wn, cn, op, cl, ca, ce, kc, nb) _ _ hM3) F hE hW hS (10, 0) hT1 hT2 hb1 rfl [] rfl kw_668 kw_669 kw_670 kw_6 kw_671 (by decide +kernel) rfl ⟨rfl, rfl⟩ ⟨Nat.le_of_ble_eq_true rfl, Nat.le_of_ble_eq_true rfl⟩ hl.1 rfl (Nat.le_of_ble_eq_true rfl) dL_law_631 ⟨by show cells + 1 + 0 + 0 ≤ 601024; omega, by show slots + 6 + 0 + 0 ≤ 7293034; omega⟩ (fun _ _ _ _ _ h => h.elim) (fun v w' H locs hp hW hS => ?_)
      obtain ⟨rfl, rfl⟩ := hp
      refine lv_iload hx hb dL_law_634 (lv_at hl 1 rfl) ?_
      refine nc_eq (tgt := 641) hx hb dL_law_636 (by decide) (by decide) (by decide) (fun c1 => ?_) (fun c1 => ?_)
      · refine lv_iload hx hb dL_law_641 (lv_at hl 1 rfl) ?_
        refine nz_ne (tgt := 658) hx hb dL_law_643 (by decide) (by decide) (fun c2 => ?_) (fun c2 => ?_)
        · refine lv_goto (tgt := 1189) hx hb dL_law_658 (by decide) ?_
          exact kk _ _ _ _ _ _ _ _ _ hW hS (jn_mk (0) hJ0 hF hK hO2 (fun _ _ => rfl) hXM hM3 hIu (Nat.le_refl _) (by show cells + 1 + 0 + 0 ≤ _; omega) (by show slots + 6 + 0 + 0 ≤ _; omega)) (lv_sub hl [2, 3, 4, 5, 6] rfl)
        · exact absurd c2 (by decide)
      · exact absurd rfl c1
set_option maxRecDepth 100000 in
set_option maxHeartbeats 4000000 in
theorem lc_high {p : Program} {l : Launch} {e : Env} {s : State} {m : MethodId} {below : List Frame} {meth : Method} {c : Code} {b L : Nat} {xs : Nat → Int32} {Q : State → Prop} {G : GG} {A : Nat → Prop} {ad : Lb → Nat} {dm : Lb → Prop} {ct : Lb → va_E} {S : SG} {H : Heap} {locs : List Loc} {cells slots i a0 a1 a2 : Nat} {ls : Array Slot}
    (F : Fx p m c cL_law 7 s #[.ref b] RL) (hst : l.stackTraces = false) (hE : VE G A s) (hXs : va_X b L xs s s.heap) (hbl : b < s.heap.size) (hbA : ¬ A b) (hi9 : 3 * i + 3 ≤ L) (hL9 : L ≤ 1536) (hW : wd G A (ad, dm, ct) H) (hS : va_S A s.heap H locs) (hJ : JN G a0 a1 a2 ad dm ct S i cells slots) (hl : lv_has ls 7 [(4, .int (nI (3 * i))), (3, .ref a2), (2, .ref a1), (1, .ref a0), (0, .ref b)])
    (kk : ∀ (ad2 : Lb → Nat) (dm2 : Lb → Prop) (ct2 : Lb → va_E) (S2 : SG) (H2 : Heap) (locs2 : List Loc) (ls2 : Array Slot) (cells2 slots2 : Nat), wd G A (ad2, dm2, ct2) H2 → va_S A s.heap H2 locs2 → JN G a0 a1 a2 ad2 dm2 ct2 S2 (i + 1) cells2 slots2 → lv_has ls2 7 [(4, .int (nI (3 * i))), (3, .ref a2), (2, .ref a1), (1, .ref a0), (0, .ref b)] → W p l e room_1 s m #[.ref b] below meth c H2 locs2 cells2 slots2 Q (F0 m 1189 ls2 [])) :
    W p l e room_1 s m #[.ref b] below meth c H locs cells slots Q (F0 m 797 ls []) := by
  have hx := F.1
  have hb := F.2.1
  obtain ⟨hcb, hsb⟩ := hJ.room
  have hJ0 := hJ
  obtain ⟨hK, ⟨th0, fo0, hM⟩, hI, ⟨ha0, ha1, ha2⟩, ⟨hO1, fO, hO2⟩, h7, -, -⟩ := hJ
  have ht9 : i < 512 := by omega
  have hIu := inv_up hI ht9
  obtain ⟨lv, lev, lo, hi, ri, sz, ky, vl, go, rt, ep, wq, wn, cn, op, cl, ca, ce, kc, nb⟩ := S
  have hH : HKF G ad dm ct lv lev lo hi ri sz ky vl go rt ep wq wn cn op cl ca ce kc nb := hK
  have hMf : MDF G ad dm ct lv lev lo hi ri sz ky vl go rt ep wq wn cn op cl ca ce kc nb th0 fo0 := hM
  have hIf : InvF lv lev lo hi ri sz ky vl go rt ep wq wn cn op cl ca ce kc nb 800 i := hI
  have hP := hIf.1
  have hnb : nb ≤ 513 := by have := hIf.2.2.2.2; omega
  have hcn9 := hIf.2.2.1.1
  obtain ⟨x, hx1⟩ : ∃ x, xs (nI (3 * i + 1)).toNatClampNeg = x := ⟨_, rfl⟩
  refine lv_aload_n hx hb dL_law_797 rfl (lv_at hl 3 rfl) ?_
  refine lv_aload_n hx hb dL_law_798 rfl (lv_at hl 4 rfl) ?_
  refine lv_iload hx hb dL_law_799 (lv_at hl 0 rfl) ?_
  refine lv_iconst (v := nI 1) hx hb dL_law_801 (by decide) ?_
  refine lv_iadd hx hb dL_law_802 ?_
  refine ktop (nI_add _ _) ?_
  refine va_sld hx hb hXs hbl hbA hS (nI_vp (j := 3 * i + 1) rfl (by omega) (by omega)) dL_law_803 ?_
  refine ktop hx1 ?_
  refine lv_aload_n hx hb dL_law_804 rfl (lv_at hl 1 rfl) ?_
  refine kc_SH 3 (w_high l G A ad dm ct x hH.1.1 hH.2.1 (c_X2_high l G A ad dm ct lv lev lo hi ri sz ky vl go rt ep wq wn cn op cl ca ce kc nb hst hH i hIf x) (fun v w1 h => by obtain ⟨rfl, j, rfl, hv9, hv⟩ := h; exact ⟨hO1, rfl, ⟨fO, hO2⟩, _, hv⟩) (fun E h => h.1)) F hE hW hS kw_513 kw_514 kw_0 kw_515 (by decide +kernel) rfl ⟨rfl, rfl⟩ ⟨(Nat.le_of_ble_eq_true rfl), (Nat.le_of_ble_eq_true rfl)⟩ hl.1 (by rw [ha0, ha2]; rfl) (Nat.le_of_ble_eq_true rfl) dL_law_805 ⟨by show cells + 1 ≤ 601024; omega, by show slots + 6 ≤ 7293034; omega⟩ (fun v w9 H locs hp hW hS => ?_)
  rcases hp with ⟨ans, w1, f1, hp, e1, e2, e3, e4, rfl⟩ | ⟨E, hpx, rfl, rfl⟩
  · obtain ⟨ad9, dm9, ct9⟩ := w9
    obtain ⟨rfl, j, rfl, hv9, hv⟩ := hp
    cases hv
    dsimp only at e1 e2 e3 e4
    obtain rfl := e1.symm
    obtain rfl := e2.symm
    have hF : FH ad dm ct ad dm ct := FH.rf
    have hK2 := hK
    have hM9 : MDF G ad dm ct9 lv lev lo hi ri sz ky vl go rt ep wq wn cn op cl ca ce kc nb th0 fo0 := md_pass hM hF e4
    have hb1 : ad (10, 0) = a1 := (hF.1 (10, 0) (by decide)).1.trans ha1
    have hb2 : ad (20, 0) = a2 := (hF.1 (20, 0) (by decide)).1.trans ha2
    have hO9 : dm (20, 0) := (hF.1 (20, 0) (by decide)).2.2.mpr hO1
    refine lv_istore (lv' := [(5, .int (nI 0)), (4, .int (nI (3 * i))), (3, .ref a2), (2, .ref a1), (1, .ref a0), (0, .ref b)]) hx hb dL_law_808 hl (by decide) rfl (fun ls hl => ?_)
    refine lv_aload_n hx hb dL_law_810 rfl (lv_at hl 3 rfl) ?_
    refine lv_aload_n hx hb dL_law_811 rfl (lv_at hl 5 rfl) ?_
    refine lv_iload hx hb dL_law_812 (lv_at hl 1 rfl) ?_
    refine lv_iconst (v := nI 1) hx hb dL_law_814 (by decide) ?_
    refine lv_iadd hx hb dL_law_815 ?_
    refine ktop (nI_add _ _) ?_
    refine va_sld hx hb hXs hbl hbA hS (nI_vp (j := 3 * i + 1) rfl (by omega) (by omega)) dL_law_816 ?_
    refine ktop hx1 ?_
    refine kc_Va 1 (c_X3_high l G A ad dm ct9 lv lev lo hi ri sz ky vl go rt ep wq wn cn op cl ca ce kc nb th0 fo0 hM9 i hIf (nI j)) F hE hW hS (10, 0) (hM9.1 0 (by decide)) hM9.2.1 hb1 rfl [.int (nI j)] rfl kw_802 kw_803 kw_804 kw_6 kw_805 (by decide +kernel) rfl ⟨rfl, rfl⟩ ⟨Nat.le_of_ble_eq_true rfl, Nat.le_of_ble_eq_true rfl⟩ hl.1 rfl (Nat.le_of_ble_eq_true rfl) dL_law_817 ⟨by show cells + 1 + 0 ≤ 601024; omega, by show slots + 6 + 0 ≤ 7293034; omega⟩ (fun _ _ _ _ _ h => h.elim) (fun v w' H locs hp hW hS => ?_)
    obtain ⟨ct3, th3, rfl, hM3, hXM, hcs⟩ := hp
    rcases hcs with ⟨j2, hxe, hv2, rfl, rfl⟩ | ⟨hbad, rfl, rfl⟩
    · obtain rfl : j = j2 := nI_inj (by have := (hP.1 j hv9).1; omega) (by have := (hP.1 j2 hv2).1; omega) hxe
      refine lv_istore (lv' := [(6, .int (nI (hi j))), (5, .int (nI 0)), (4, .int (nI (3 * i))), (3, .ref a2), (2, .ref a1), (1, .ref a0), (0, .ref b)]) hx hb dL_law_820 hl (by decide) rfl (fun ls hl => ?_)
      refine lv_aload_n hx hb dL_law_822 rfl (lv_at hl 4 rfl) ?_
      obtain ⟨hT1, fsT, hT2⟩ := MD.o0 (s := (lv, lev, lo, hi, ri, sz, ky, vl, go, rt, ep, wq, wn, cn, op, cl, ca, ce, kc, nb)) hM3
      refine kc_Va 0 (c_thrown l G A ad dm ct3 (lv, lev, lo, hi, ri, sz, ky, vl, go, rt, ep, wq, wn, cn, op, cl, ca, ce, kc, nb) _ _ hM3) F hE hW hS (10, 0) hT1 hT2 hb1 rfl [] rfl kw_668 kw_669 kw_670 kw_6 kw_671 (by decide +kernel) rfl ⟨rfl, rfl⟩ ⟨Nat.le_of_ble_eq_true rfl, Nat.le_of_ble_eq_true rfl⟩ hl.1 rfl (Nat.le_of_ble_eq_true rfl) dL_law_823 ⟨by show cells + 1 + 0 + 0 ≤ 601024; omega, by show slots + 6 + 0 + 0 ≤ 7293034; omega⟩ (fun _ _ _ _ _ h => h.elim) (fun v w' H locs hp hW hS => ?_)
      obtain ⟨rfl, rfl⟩ := hp
      refine lv_iload hx hb dL_law_826 (lv_at hl 1 rfl) ?_
      refine nc_eq (tgt := 833) hx hb dL_law_828 (by decide) (by decide) (by decide) (fun c1 => ?_) (fun c1 => ?_)
      · refine lv_iload hx hb dL_law_833 (lv_at hl 1 rfl) ?_
        refine nz_ne (tgt := 850) hx hb dL_law_835 (by decide) (by decide) (fun c2 => ?_) (fun c2 => ?_)
        · exact absurd rfl c2
        · refine lv_aload_n hx hb dL_law_838 rfl (lv_at hl 3 rfl) ?_
          refine lv_iconst (v := nI 0) hx hb dL_law_839 (by decide) ?_
          refine kl_l F hE hW (20, 0) hO9 hb2 ((hXM (20, 0) (by decide)).trans e3) 0 rfl (by decide) (by decide) dL_law_840 ?_
          refine ktopv (congrArg Value.long (va_up_self _ _ _)) ?_
          refine lv_iload hx hb dL_law_841 (lv_at hl 0 rfl) ?_
          refine lv_i2l hx hb dL_law_843 rfl ?_
          refine lq_lcmp hx hb dL_law_844 ?_
          refine nz_eq (tgt := 850) hx hb dL_law_845 (by decide) (by decide) (fun c9 => ?_) (fun c9 => ?_)
          · refine lv_goto (tgt := 1189) hx hb dL_law_850 (by decide) ?_
            exact kk _ _ _ _ _ _ _ _ _ hW hS (jn_mk (0) hJ0 hF hK2 e3 e4 hXM hM3 hIu (Nat.le_refl _) (by show cells + 1 + 0 + 0 ≤ _; omega) (by show slots + 6 + 0 + 0 ≤ _; omega)) (lv_sub hl [2, 3, 4, 5, 6] rfl)
          · exact absurd c9 (by decide)
      · exact absurd rfl c1
    · exact absurd rfl (hbad j hv9)
  · refine ktop (y := nI 1) rfl ?_
    refine lv_istore (lv' := [(5, .int (nI 1)), (4, .int (nI (3 * i))), (3, .ref a2), (2, .ref a1), (1, .ref a0), (0, .ref b)]) hx hb dL_law_808 hl (by decide) rfl (fun ls hl => ?_)
    refine lv_aload_n hx hb dL_law_810 rfl (lv_at hl 3 rfl) ?_
    refine lv_aload_n hx hb dL_law_811 rfl (lv_at hl 5 rfl) ?_
    refine lv_iload hx hb dL_law_812 (lv_at hl 1 rfl) ?_
    refine lv_iconst (v := nI 1) hx hb dL_law_814 (by decide) ?_
    refine lv_iadd hx hb dL_law_815 ?_
    refine ktop (nI_add _ _) ?_
    refine va_sld hx hb hXs hbl hbA hS (nI_vp (j := 3 * i + 1) rfl (by omega) (by omega)) dL_law_816 ?_
    refine ktop hx1 ?_
    have hF : FH ad dm ct ad dm ct := FH.rf
    have hM9 := hMf
    have hb1 : ad (10, 0) = a1 := ha1
    refine kc_Va 1 (c_X3_high l G A ad dm ct lv lev lo hi ri sz ky vl go rt ep wq wn cn op cl ca ce kc nb th0 fo0 hMf i hIf x) F hE hW hS (10, 0) (hM9.1 0 (by decide)) hM9.2.1 hb1 rfl [.int x] rfl kw_802 kw_803 kw_804 kw_6 kw_805 (by decide +kernel) rfl ⟨rfl, rfl⟩ ⟨Nat.le_of_ble_eq_true rfl, Nat.le_of_ble_eq_true rfl⟩ hl.1 rfl (Nat.le_of_ble_eq_true rfl) dL_law_817 ⟨by show cells + 1 + 0 ≤ 601024; omega, by show slots + 6 + 0 ≤ 7293034; omega⟩ (fun _ _ _ _ _ h => h.elim) (fun v w' H locs hp hW hS => ?_)
    obtain ⟨ct3, th3, rfl, hM3, hXM, hcs⟩ := hp
    rcases hcs with ⟨j2, hxe, hv2, rfl, rfl⟩ | ⟨hbad, rfl, rfl⟩
    · exact absurd hxe (hpx.2 j2 hv2)
    · refine lv_istore (lv' := [(6, .int (nI 0)), (5, .int (nI 1)), (4, .int (nI (3 * i))), (3, .ref a2), (2, .ref a1), (1, .ref a0), (0, .ref b)]) hx hb dL_law_820 hl (by decide) rfl (fun ls hl => ?_)
      refine lv_aload_n hx hb dL_law_822 rfl (lv_at hl 4 rfl) ?_
      obtain ⟨hT1, fsT, hT2⟩ := MD.o0 (s := (lv, lev, lo, hi, ri, sz, ky, vl, go, rt, ep, wq, wn, cn, op, cl, ca, ce, kc, nb)) hM3
      refine kc_Va 0 (c_thrown l G A ad dm ct3 (lv, lev, lo, hi, ri, sz, ky, vl, go, rt, ep, wq, wn, cn, op, cl, ca, ce, kc, nb) _ _ hM3) F hE hW hS (10, 0) hT1 hT2 hb1 rfl [] rfl kw_668 kw_669 kw_670 kw_6 kw_671 (by decide +kernel) rfl ⟨rfl, rfl⟩ ⟨Nat.le_of_ble_eq_true rfl, Nat.le_of_ble_eq_true rfl⟩ hl.1 rfl (Nat.le_of_ble_eq_true rfl) dL_law_823 ⟨by show cells + 1 + 0 + 0 ≤ 601024; omega, by show slots + 6 + 0 + 0 ≤ 7293034; omega⟩ (fun _ _ _ _ _ h => h.elim) (fun v w' H locs hp hW hS => ?_)
      obtain ⟨rfl, rfl⟩ := hp
      refine lv_iload hx hb dL_law_826 (lv_at hl 1 rfl) ?_
      refine nc_eq (tgt := 833) hx hb dL_law_828 (by decide) (by decide) (by decide) (fun c1 => ?_) (fun c1 => ?_)
      · refine lv_iload hx hb dL_law_833 (lv_at hl 1 rfl) ?_
        refine nz_ne (tgt := 850) hx hb dL_law_835 (by decide) (by decide) (fun c2 => ?_) (fun c2 => ?_)
        · refine lv_goto (tgt := 1189) hx hb dL_law_850 (by decide) ?_
          exact kk _ _ _ _ _ _ _ _ _ hW hS (jn_mk (0) hJ0 hF hK hO2 (fun _ _ => rfl) hXM hM3 hIu (Nat.le_refl _) (by show cells + 1 + 0 + 0 ≤ _; omega) (by show slots + 6 + 0 + 0 ≤ _; omega)) (lv_sub hl [2, 3, 4, 5, 6] rfl)
        · exact absurd c2 (by decide)
      · exact absurd rfl c1
set_option maxRecDepth 100000 in
set_option maxHeartbeats 4000000 in
theorem lc_right {p : Program} {l : Launch} {e : Env} {s : State} {m : MethodId} {below : List Frame} {meth : Method} {c : Code} {b L : Nat} {xs : Nat → Int32} {Q : State → Prop} {G : GG} {A : Nat → Prop} {ad : Lb → Nat} {dm : Lb → Prop} {ct : Lb → va_E} {S : SG} {H : Heap} {locs : List Loc} {cells slots i a0 a1 a2 : Nat} {ls : Array Slot}
    (F : Fx p m c cL_law 7 s #[.ref b] RL) (hst : l.stackTraces = false) (hE : VE G A s) (hXs : va_X b L xs s s.heap) (hbl : b < s.heap.size) (hbA : ¬ A b) (hi9 : 3 * i + 3 ≤ L) (hL9 : L ≤ 1536) (hW : wd G A (ad, dm, ct) H) (hS : va_S A s.heap H locs) (hJ : JN G a0 a1 a2 ad dm ct S i cells slots) (hl : lv_has ls 7 [(4, .int (nI (3 * i))), (3, .ref a2), (2, .ref a1), (1, .ref a0), (0, .ref b)])
    (kk : ∀ (ad2 : Lb → Nat) (dm2 : Lb → Prop) (ct2 : Lb → va_E) (S2 : SG) (H2 : Heap) (locs2 : List Loc) (ls2 : Array Slot) (cells2 slots2 : Nat), wd G A (ad2, dm2, ct2) H2 → va_S A s.heap H2 locs2 → JN G a0 a1 a2 ad2 dm2 ct2 S2 (i + 1) cells2 slots2 → lv_has ls2 7 [(4, .int (nI (3 * i))), (3, .ref a2), (2, .ref a1), (1, .ref a0), (0, .ref b)] → W p l e room_1 s m #[.ref b] below meth c H2 locs2 cells2 slots2 Q (F0 m 1189 ls2 [])) :
    W p l e room_1 s m #[.ref b] below meth c H locs cells slots Q (F0 m 853 ls []) := by
  have hx := F.1
  have hb := F.2.1
  obtain ⟨hcb, hsb⟩ := hJ.room
  have hJ0 := hJ
  obtain ⟨hK, ⟨th0, fo0, hM⟩, hI, ⟨ha0, ha1, ha2⟩, ⟨hO1, fO, hO2⟩, h7, -, -⟩ := hJ
  have ht9 : i < 512 := by omega
  have hIu := inv_up hI ht9
  obtain ⟨lv, lev, lo, hi, ri, sz, ky, vl, go, rt, ep, wq, wn, cn, op, cl, ca, ce, kc, nb⟩ := S
  have hH : HKF G ad dm ct lv lev lo hi ri sz ky vl go rt ep wq wn cn op cl ca ce kc nb := hK
  have hMf : MDF G ad dm ct lv lev lo hi ri sz ky vl go rt ep wq wn cn op cl ca ce kc nb th0 fo0 := hM
  have hIf : InvF lv lev lo hi ri sz ky vl go rt ep wq wn cn op cl ca ce kc nb 800 i := hI
  have hP := hIf.1
  have hnb : nb ≤ 513 := by have := hIf.2.2.2.2; omega
  have hcn9 := hIf.2.2.1.1
  obtain ⟨x, hx1⟩ : ∃ x, xs (nI (3 * i + 1)).toNatClampNeg = x := ⟨_, rfl⟩
  refine lv_aload_n hx hb dL_law_853 rfl (lv_at hl 3 rfl) ?_
  refine lv_aload_n hx hb dL_law_854 rfl (lv_at hl 4 rfl) ?_
  refine lv_iload hx hb dL_law_855 (lv_at hl 0 rfl) ?_
  refine lv_iconst (v := nI 1) hx hb dL_law_857 (by decide) ?_
  refine lv_iadd hx hb dL_law_858 ?_
  refine ktop (nI_add _ _) ?_
  refine va_sld hx hb hXs hbl hbA hS (nI_vp (j := 3 * i + 1) rfl (by omega) (by omega)) dL_law_859 ?_
  refine ktop hx1 ?_
  refine lv_aload_n hx hb dL_law_860 rfl (lv_at hl 1 rfl) ?_
  refine kc_SH 3 (w_right l G A ad dm ct x hH.1.1 hH.2.1 (c_X2_right l G A ad dm ct lv lev lo hi ri sz ky vl go rt ep wq wn cn op cl ca ce kc nb hst hH i hIf x) (fun v w1 h => by obtain ⟨rfl, j, rfl, hv9, hv⟩ := h; exact ⟨hO1, rfl, ⟨fO, hO2⟩, _, hv⟩) (fun E h => h.1)) F hE hW hS kw_520 kw_521 kw_0 kw_522 (by decide +kernel) rfl ⟨rfl, rfl⟩ ⟨(Nat.le_of_ble_eq_true rfl), (Nat.le_of_ble_eq_true rfl)⟩ hl.1 (by rw [ha0, ha2]; rfl) (Nat.le_of_ble_eq_true rfl) dL_law_861 ⟨by show cells + 1 ≤ 601024; omega, by show slots + 6 ≤ 7293034; omega⟩ (fun v w9 H locs hp hW hS => ?_)
  rcases hp with ⟨ans, w1, f1, hp, e1, e2, e3, e4, rfl⟩ | ⟨E, hpx, rfl, rfl⟩
  · obtain ⟨ad9, dm9, ct9⟩ := w9
    obtain ⟨rfl, j, rfl, hv9, hv⟩ := hp
    cases hv
    dsimp only at e1 e2 e3 e4
    obtain rfl := e1.symm
    obtain rfl := e2.symm
    have hF : FH ad dm ct ad dm ct := FH.rf
    have hK2 := hK
    have hM9 : MDF G ad dm ct9 lv lev lo hi ri sz ky vl go rt ep wq wn cn op cl ca ce kc nb th0 fo0 := md_pass hM hF e4
    have hb1 : ad (10, 0) = a1 := (hF.1 (10, 0) (by decide)).1.trans ha1
    have hb2 : ad (20, 0) = a2 := (hF.1 (20, 0) (by decide)).1.trans ha2
    have hO9 : dm (20, 0) := (hF.1 (20, 0) (by decide)).2.2.mpr hO1
    refine lv_istore (lv' := [(5, .int (nI 0)), (4, .int (nI (3 * i))), (3, .ref a2), (2, .ref a1), (1, .ref a0), (0, .ref b)]) hx hb dL_law_864 hl (by decide) rfl (fun ls hl => ?_)
    refine lv_aload_n hx hb dL_law_866 rfl (lv_at hl 3 rfl) ?_
    refine lv_aload_n hx hb dL_law_867 rfl (lv_at hl 5 rfl) ?_
    refine lv_iload hx hb dL_law_868 (lv_at hl 1 rfl) ?_
    refine lv_iconst (v := nI 1) hx hb dL_law_870 (by decide) ?_
    refine lv_iadd hx hb dL_law_871 ?_
    refine ktop (nI_add _ _) ?_
    refine va_sld hx hb hXs hbl hbA hS (nI_vp (j := 3 * i + 1) rfl (by omega) (by omega)) dL_law_872 ?_
    refine ktop hx1 ?_
    refine kc_Va 1 (c_X3_right l G A ad dm ct9 lv lev lo hi ri sz ky vl go rt ep wq wn cn op cl ca ce kc nb th0 fo0 hM9 i hIf (nI j)) F hE hW hS (10, 0) (hM9.1 0 (by decide)) hM9.2.1 hb1 rfl [.int (nI j)] rfl kw_806 kw_807 kw_808 kw_6 kw_809 (by decide +kernel) rfl ⟨rfl, rfl⟩ ⟨Nat.le_of_ble_eq_true rfl, Nat.le_of_ble_eq_true rfl⟩ hl.1 rfl (Nat.le_of_ble_eq_true rfl) dL_law_873 ⟨by show cells + 1 + 0 ≤ 601024; omega, by show slots + 6 + 0 ≤ 7293034; omega⟩ (fun _ _ _ _ _ h => h.elim) (fun v w' H locs hp hW hS => ?_)
    obtain ⟨ct3, th3, rfl, hM3, hXM, hcs⟩ := hp
    rcases hcs with ⟨j2, hxe, hv2, rfl, rfl⟩ | ⟨hbad, rfl, rfl⟩
    · obtain rfl : j = j2 := nI_inj (by have := (hP.1 j hv9).1; omega) (by have := (hP.1 j2 hv2).1; omega) hxe
      refine lv_istore (lv' := [(6, .int (oI (ri j))), (5, .int (nI 0)), (4, .int (nI (3 * i))), (3, .ref a2), (2, .ref a1), (1, .ref a0), (0, .ref b)]) hx hb dL_law_876 hl (by decide) rfl (fun ls hl => ?_)
      refine lv_aload_n hx hb dL_law_878 rfl (lv_at hl 4 rfl) ?_
      obtain ⟨hT1, fsT, hT2⟩ := MD.o0 (s := (lv, lev, lo, hi, ri, sz, ky, vl, go, rt, ep, wq, wn, cn, op, cl, ca, ce, kc, nb)) hM3
      refine kc_Va 0 (c_thrown l G A ad dm ct3 (lv, lev, lo, hi, ri, sz, ky, vl, go, rt, ep, wq, wn, cn, op, cl, ca, ce, kc, nb) _ _ hM3) F hE hW hS (10, 0) hT1 hT2 hb1 rfl [] rfl kw_668 kw_669 kw_670 kw_6 kw_671 (by decide +kernel) rfl ⟨rfl, rfl⟩ ⟨Nat.le_of_ble_eq_true rfl, Nat.le_of_ble_eq_true rfl⟩ hl.1 rfl (Nat.le_of_ble_eq_true rfl) dL_law_879 ⟨by show cells + 1 + 0 + 0 ≤ 601024; omega, by show slots + 6 + 0 + 0 ≤ 7293034; omega⟩ (fun _ _ _ _ _ h => h.elim) (fun v w' H locs hp hW hS => ?_)
      obtain ⟨rfl, rfl⟩ := hp
      refine lv_iload hx hb dL_law_882 (lv_at hl 1 rfl) ?_
      refine nc_eq (tgt := 889) hx hb dL_law_884 (by decide) (by decide) (by decide) (fun c1 => ?_) (fun c1 => ?_)
      · refine lv_iload hx hb dL_law_889 (lv_at hl 1 rfl) ?_
        refine nz_ne (tgt := 906) hx hb dL_law_891 (by decide) (by decide) (fun c2 => ?_) (fun c2 => ?_)
        · exact absurd rfl c2
        · refine lv_aload_n hx hb dL_law_894 rfl (lv_at hl 3 rfl) ?_
          refine lv_iconst (v := nI 0) hx hb dL_law_895 (by decide) ?_
          refine kl_l F hE hW (20, 0) hO9 hb2 ((hXM (20, 0) (by decide)).trans e3) 0 rfl (by decide) (by decide) dL_law_896 ?_
          refine ktopv (congrArg Value.long (va_up_self _ _ _)) ?_
          refine lv_iload hx hb dL_law_897 (lv_at hl 0 rfl) ?_
          refine lv_i2l hx hb dL_law_899 rfl ?_
          refine lq_lcmp hx hb dL_law_900 ?_
          refine nz_eq (tgt := 906) hx hb dL_law_901 (by decide) (by decide) (fun c9 => ?_) (fun c9 => ?_)
          · refine lv_goto (tgt := 1189) hx hb dL_law_906 (by decide) ?_
            exact kk _ _ _ _ _ _ _ _ _ hW hS (jn_mk (0) hJ0 hF hK2 e3 e4 hXM hM3 hIu (Nat.le_refl _) (by show cells + 1 + 0 + 0 ≤ _; omega) (by show slots + 6 + 0 + 0 ≤ _; omega)) (lv_sub hl [2, 3, 4, 5, 6] rfl)
          · exact absurd c9 (by decide)
      · exact absurd rfl c1
    · exact absurd rfl (hbad j hv9)
  · refine ktop (y := nI 1) rfl ?_
    refine lv_istore (lv' := [(5, .int (nI 1)), (4, .int (nI (3 * i))), (3, .ref a2), (2, .ref a1), (1, .ref a0), (0, .ref b)]) hx hb dL_law_864 hl (by decide) rfl (fun ls hl => ?_)
    refine lv_aload_n hx hb dL_law_866 rfl (lv_at hl 3 rfl) ?_
    refine lv_aload_n hx hb dL_law_867 rfl (lv_at hl 5 rfl) ?_
    refine lv_iload hx hb dL_law_868 (lv_at hl 1 rfl) ?_
    refine lv_iconst (v := nI 1) hx hb dL_law_870 (by decide) ?_
    refine lv_iadd hx hb dL_law_871 ?_
    refine ktop (nI_add _ _) ?_
    refine va_sld hx hb hXs hbl hbA hS (nI_vp (j := 3 * i + 1) rfl (by omega) (by omega)) dL_law_872 ?_
    refine ktop hx1 ?_
    have hF : FH ad dm ct ad dm ct := FH.rf
    have hM9 := hMf
    have hb1 : ad (10, 0) = a1 := ha1
    refine kc_Va 1 (c_X3_right l G A ad dm ct lv lev lo hi ri sz ky vl go rt ep wq wn cn op cl ca ce kc nb th0 fo0 hMf i hIf x) F hE hW hS (10, 0) (hM9.1 0 (by decide)) hM9.2.1 hb1 rfl [.int x] rfl kw_806 kw_807 kw_808 kw_6 kw_809 (by decide +kernel) rfl ⟨rfl, rfl⟩ ⟨Nat.le_of_ble_eq_true rfl, Nat.le_of_ble_eq_true rfl⟩ hl.1 rfl (Nat.le_of_ble_eq_true rfl) dL_law_873 ⟨by show cells + 1 + 0 ≤ 601024; omega, by show slots + 6 + 0 ≤ 7293034; omega⟩ (fun _ _ _ _ _ h => h.elim) (fun v w' H locs hp hW hS => ?_)
    obtain ⟨ct3, th3, rfl, hM3, hXM, hcs⟩ := hp
    rcases hcs with ⟨j2, hxe, hv2, rfl, rfl⟩ | ⟨hbad, rfl, rfl⟩
    · exact absurd hxe (hpx.2 j2 hv2)
    · refine lv_istore (lv' := [(6, .int (nI 0)), (5, .int (nI 1)), (4, .int (nI (3 * i))), (3, .ref a2), (2, .ref a1), (1, .ref a0), (0, .ref b)]) hx hb dL_law_876 hl (by decide) rfl (fun ls hl => ?_)
      refine lv_aload_n hx hb dL_law_878 rfl (lv_at hl 4 rfl) ?_
      obtain ⟨hT1, fsT, hT2⟩ := MD.o0 (s := (lv, lev, lo, hi, ri, sz, ky, vl, go, rt, ep, wq, wn, cn, op, cl, ca, ce, kc, nb)) hM3
      refine kc_Va 0 (c_thrown l G A ad dm ct3 (lv, lev, lo, hi, ri, sz, ky, vl, go, rt, ep, wq, wn, cn, op, cl, ca, ce, kc, nb) _ _ hM3) F hE hW hS (10, 0) hT1 hT2 hb1 rfl [] rfl kw_668 kw_669 kw_670 kw_6 kw_671 (by decide +kernel) rfl ⟨rfl, rfl⟩ ⟨Nat.le_of_ble_eq_true rfl, Nat.le_of_ble_eq_true rfl⟩ hl.1 rfl (Nat.le_of_ble_eq_true rfl) dL_law_879 ⟨by show cells + 1 + 0 + 0 ≤ 601024; omega, by show slots + 6 + 0 + 0 ≤ 7293034; omega⟩ (fun _ _ _ _ _ h => h.elim) (fun v w' H locs hp hW hS => ?_)
      obtain ⟨rfl, rfl⟩ := hp
      refine lv_iload hx hb dL_law_882 (lv_at hl 1 rfl) ?_
      refine nc_eq (tgt := 889) hx hb dL_law_884 (by decide) (by decide) (by decide) (fun c1 => ?_) (fun c1 => ?_)
      · refine lv_iload hx hb dL_law_889 (lv_at hl 1 rfl) ?_
        refine nz_ne (tgt := 906) hx hb dL_law_891 (by decide) (by decide) (fun c2 => ?_) (fun c2 => ?_)
        · refine lv_goto (tgt := 1189) hx hb dL_law_906 (by decide) ?_
          exact kk _ _ _ _ _ _ _ _ _ hW hS (jn_mk (0) hJ0 hF hK hO2 (fun _ _ => rfl) hXM hM3 hIu (Nat.le_refl _) (by show cells + 1 + 0 + 0 ≤ _; omega) (by show slots + 6 + 0 + 0 ≤ _; omega)) (lv_sub hl [2, 3, 4, 5, 6] rfl)
        · exact absurd c2 (by decide)
      · exact absurd rfl c1
set_option maxRecDepth 100000 in
set_option maxHeartbeats 4000000 in
theorem lc_keyAt {p : Program} {l : Launch} {e : Env} {s : State} {m : MethodId} {below : List Frame} {meth : Method} {c : Code} {b L : Nat} {xs : Nat → Int32} {Q : State → Prop} {G : GG} {A : Nat → Prop} {ad : Lb → Nat} {dm : Lb → Prop} {ct : Lb → va_E} {S : SG} {H : Heap} {locs : List Loc} {cells slots i a0 a1 a2 : Nat} {ls : Array Slot}
    (F : Fx p m c cL_law 7 s #[.ref b] RL) (hst : l.stackTraces = false) (hE : VE G A s) (hXs : va_X b L xs s s.heap) (hbl : b < s.heap.size) (hbA : ¬ A b) (hi9 : 3 * i + 3 ≤ L) (hL9 : L ≤ 1536) (hW : wd G A (ad, dm, ct) H) (hS : va_S A s.heap H locs) (hJ : JN G a0 a1 a2 ad dm ct S i cells slots) (hl : lv_has ls 7 [(4, .int (nI (3 * i))), (3, .ref a2), (2, .ref a1), (1, .ref a0), (0, .ref b)])
    (kk : ∀ (ad2 : Lb → Nat) (dm2 : Lb → Prop) (ct2 : Lb → va_E) (S2 : SG) (H2 : Heap) (locs2 : List Loc) (ls2 : Array Slot) (cells2 slots2 : Nat), wd G A (ad2, dm2, ct2) H2 → va_S A s.heap H2 locs2 → JN G a0 a1 a2 ad2 dm2 ct2 S2 (i + 1) cells2 slots2 → lv_has ls2 7 [(4, .int (nI (3 * i))), (3, .ref a2), (2, .ref a1), (1, .ref a0), (0, .ref b)] → W p l e room_1 s m #[.ref b] below meth c H2 locs2 cells2 slots2 Q (F0 m 1189 ls2 [])) :
    W p l e room_1 s m #[.ref b] below meth c H locs cells slots Q (F0 m 661 ls []) := by
  have hx := F.1
  have hb := F.2.1
  obtain ⟨hcb, hsb⟩ := hJ.room
  have hJ0 := hJ
  obtain ⟨hK, ⟨th0, fo0, hM⟩, hI, ⟨ha0, ha1, ha2⟩, ⟨hO1, fO, hO2⟩, h7, -, -⟩ := hJ
  have ht9 : i < 512 := by omega
  have hIu := inv_up hI ht9
  obtain ⟨lv, lev, lo, hi, ri, sz, ky, vl, go, rt, ep, wq, wn, cn, op, cl, ca, ce, kc, nb⟩ := S
  have hH : HKF G ad dm ct lv lev lo hi ri sz ky vl go rt ep wq wn cn op cl ca ce kc nb := hK
  have hMf : MDF G ad dm ct lv lev lo hi ri sz ky vl go rt ep wq wn cn op cl ca ce kc nb th0 fo0 := hM
  have hIf : InvF lv lev lo hi ri sz ky vl go rt ep wq wn cn op cl ca ce kc nb 800 i := hI
  have hP := hIf.1
  have hnb : nb ≤ 513 := by have := hIf.2.2.2.2; omega
  have hcn9 := hIf.2.2.1.1
  obtain ⟨x, hx1⟩ : ∃ x, xs (nI (3 * i + 1)).toNatClampNeg = x := ⟨_, rfl⟩
  obtain ⟨y, hx2⟩ : ∃ x, xs (nI (3 * i + 2)).toNatClampNeg = x := ⟨_, rfl⟩
  refine lv_aload_n hx hb dL_law_661 rfl (lv_at hl 3 rfl) ?_
  refine lv_aload_n hx hb dL_law_662 rfl (lv_at hl 4 rfl) ?_
  refine lv_iload hx hb dL_law_663 (lv_at hl 0 rfl) ?_
  refine lv_iconst (v := nI 1) hx hb dL_law_665 (by decide) ?_
  refine lv_iadd hx hb dL_law_666 ?_
  refine ktop (nI_add _ _) ?_
  refine va_sld hx hb hXs hbl hbA hS (nI_vp (j := 3 * i + 1) rfl (by omega) (by omega)) dL_law_667 ?_
  refine ktop hx1 ?_
  refine lv_aload_n hx hb dL_law_668 rfl (lv_at hl 4 rfl) ?_
  refine lv_iload hx hb dL_law_669 (lv_at hl 0 rfl) ?_
  refine lv_iconst (v := nI 2) hx hb dL_law_671 (by decide) ?_
  refine lv_iadd hx hb dL_law_672 ?_
  refine ktop (nI_add _ _) ?_
  refine va_sld hx hb hXs hbl hbA hS (nI_vp (j := 3 * i + 2) rfl (by omega) (by omega)) dL_law_673 ?_
  refine ktop hx2 ?_
  refine lv_aload_n hx hb dL_law_674 rfl (lv_at hl 1 rfl) ?_
  refine kc_SH 4 (w_keyAt l G A ad dm ct x y hH.1.1 hH.2.1 (c_X2_keyAt l G A ad dm ct lv lev lo hi ri sz ky vl go rt ep wq wn cn op cl ca ce kc nb hst hH i hIf x y) (fun v w1 h => by obtain ⟨rfl, j, k9, rfl, hv9, hk9, rfl, hv⟩ := h; exact ⟨hO1, rfl, ⟨fO, hO2⟩, _, hv⟩) (fun E h => h.1)) F hE hW hS kw_491 kw_492 kw_0 kw_493 (by decide +kernel) rfl ⟨rfl, rfl⟩ ⟨(Nat.le_of_ble_eq_true rfl), (Nat.le_of_ble_eq_true rfl)⟩ hl.1 (by rw [ha0, ha2]; rfl) (Nat.le_of_ble_eq_true rfl) dL_law_675 ⟨by show cells + 2 ≤ 601024; omega, by show slots + 12 ≤ 7293034; omega⟩ (fun v w9 H locs hp hW hS => ?_)
  rcases hp with ⟨ans, w1, f1, hp, e1, e2, e3, e4, rfl⟩ | ⟨E, hpx, rfl, rfl⟩
  · obtain ⟨ad9, dm9, ct9⟩ := w9
    obtain ⟨rfl, j, k9, rfl, hv9, hk9, rfl, hv⟩ := hp
    cases hv
    dsimp only at e1 e2 e3 e4
    obtain rfl := e1.symm
    obtain rfl := e2.symm
    have hF : FH ad dm ct ad dm ct := FH.rf
    have hK2 := hK
    have hM9 : MDF G ad dm ct9 lv lev lo hi ri sz ky vl go rt ep wq wn cn op cl ca ce kc nb th0 fo0 := md_pass hM hF e4
    have hb1 : ad (10, 0) = a1 := (hF.1 (10, 0) (by decide)).1.trans ha1
    have hb2 : ad (20, 0) = a2 := (hF.1 (20, 0) (by decide)).1.trans ha2
    have hO9 : dm (20, 0) := (hF.1 (20, 0) (by decide)).2.2.mpr hO1
    refine lv_istore (lv' := [(5, .int (nI 0)), (4, .int (nI (3 * i))), (3, .ref a2), (2, .ref a1), (1, .ref a0), (0, .ref b)]) hx hb dL_law_678 hl (by decide) rfl (fun ls hl => ?_)
    refine lv_aload_n hx hb dL_law_680 rfl (lv_at hl 3 rfl) ?_
    refine lv_aload_n hx hb dL_law_681 rfl (lv_at hl 5 rfl) ?_
    refine lv_iload hx hb dL_law_682 (lv_at hl 1 rfl) ?_
    refine lv_iconst (v := nI 1) hx hb dL_law_684 (by decide) ?_
    refine lv_iadd hx hb dL_law_685 ?_
    refine ktop (nI_add _ _) ?_
    refine va_sld hx hb hXs hbl hbA hS (nI_vp (j := 3 * i + 1) rfl (by omega) (by omega)) dL_law_686 ?_
    refine ktop hx1 ?_
    refine lv_aload_n hx hb dL_law_687 rfl (lv_at hl 5 rfl) ?_
    refine lv_iload hx hb dL_law_688 (lv_at hl 1 rfl) ?_
    refine lv_iconst (v := nI 2) hx hb dL_law_690 (by decide) ?_
    refine lv_iadd hx hb dL_law_691 ?_
    refine ktop (nI_add _ _) ?_
    refine va_sld hx hb hXs hbl hbA hS (nI_vp (j := 3 * i + 2) rfl (by omega) (by omega)) dL_law_692 ?_
    refine ktop hx2 ?_
    refine kc_Va 2 (c_X3_keyAt l G A ad dm ct9 lv lev lo hi ri sz ky vl go rt ep wq wn cn op cl ca ce kc nb th0 fo0 hM9 i hIf (nI j) (nI k9)) F hE hW hS (10, 0) (hM9.1 0 (by decide)) hM9.2.1 hb1 rfl [.int (nI j), .int (nI k9)] rfl kw_794 kw_795 kw_796 kw_6 kw_797 (by decide +kernel) rfl ⟨rfl, rfl⟩ ⟨Nat.le_of_ble_eq_true rfl, Nat.le_of_ble_eq_true rfl⟩ hl.1 rfl (Nat.le_of_ble_eq_true rfl) dL_law_693 ⟨by show cells + 2 + 0 ≤ 601024; omega, by show slots + 12 + 0 ≤ 7293034; omega⟩ (fun _ _ _ _ _ h => h.elim) (fun v w' H locs hp hW hS => ?_)
    obtain ⟨ct3, th3, rfl, hM3, hXM, hcs⟩ := hp
    rcases hcs with ⟨j2, hxe, hv2, k2, hk2, hye, rfl, rfl⟩ | ⟨hbad, rfl, rfl⟩
    · obtain rfl : j = j2 := nI_inj (by have := (hP.1 j hv9).1; omega) (by have := (hP.1 j2 hv2).1; omega) hxe
      obtain rfl : k9 = k2 := nI_inj hk9 hk2 hye
      refine lv_istore (lv' := [(6, .int (oI (kyA sz ky j k9))), (5, .int (nI 0)), (4, .int (nI (3 * i))), (3, .ref a2), (2, .ref a1), (1, .ref a0), (0, .ref b)]) hx hb dL_law_696 hl (by decide) rfl (fun ls hl => ?_)
      refine lv_aload_n hx hb dL_law_698 rfl (lv_at hl 4 rfl) ?_
      obtain ⟨hT1, fsT, hT2⟩ := MD.o0 (s := (lv, lev, lo, hi, ri, sz, ky, vl, go, rt, ep, wq, wn, cn, op, cl, ca, ce, kc, nb)) hM3
      refine kc_Va 0 (c_thrown l G A ad dm ct3 (lv, lev, lo, hi, ri, sz, ky, vl, go, rt, ep, wq, wn, cn, op, cl, ca, ce, kc, nb) _ _ hM3) F hE hW hS (10, 0) hT1 hT2 hb1 rfl [] rfl kw_668 kw_669 kw_670 kw_6 kw_671 (by decide +kernel) rfl ⟨rfl, rfl⟩ ⟨Nat.le_of_ble_eq_true rfl, Nat.le_of_ble_eq_true rfl⟩ hl.1 rfl (Nat.le_of_ble_eq_true rfl) dL_law_699 ⟨by show cells + 2 + 0 + 0 ≤ 601024; omega, by show slots + 12 + 0 + 0 ≤ 7293034; omega⟩ (fun _ _ _ _ _ h => h.elim) (fun v w' H locs hp hW hS => ?_)
      obtain ⟨rfl, rfl⟩ := hp
      refine lv_iload hx hb dL_law_702 (lv_at hl 1 rfl) ?_
      refine nc_eq (tgt := 709) hx hb dL_law_704 (by decide) (by decide) (by decide) (fun c1 => ?_) (fun c1 => ?_)
      · refine lv_iload hx hb dL_law_709 (lv_at hl 1 rfl) ?_
        refine nz_ne (tgt := 726) hx hb dL_law_711 (by decide) (by decide) (fun c2 => ?_) (fun c2 => ?_)
        · exact absurd rfl c2
        · refine lv_aload_n hx hb dL_law_714 rfl (lv_at hl 3 rfl) ?_
          refine lv_iconst (v := nI 0) hx hb dL_law_715 (by decide) ?_
          refine kl_l F hE hW (20, 0) hO9 hb2 ((hXM (20, 0) (by decide)).trans e3) 0 rfl (by decide) (by decide) dL_law_716 ?_
          refine ktopv (congrArg Value.long (va_up_self _ _ _)) ?_
          refine lv_iload hx hb dL_law_717 (lv_at hl 0 rfl) ?_
          refine lv_i2l hx hb dL_law_719 rfl ?_
          refine lq_lcmp hx hb dL_law_720 ?_
          refine nz_eq (tgt := 726) hx hb dL_law_721 (by decide) (by decide) (fun c9 => ?_) (fun c9 => ?_)
          · refine lv_goto (tgt := 1189) hx hb dL_law_726 (by decide) ?_
            exact kk _ _ _ _ _ _ _ _ _ hW hS (jn_mk (0) hJ0 hF hK2 e3 e4 hXM hM3 hIu (Nat.le_refl _) (by show cells + 2 + 0 + 0 ≤ _; omega) (by show slots + 12 + 0 + 0 ≤ _; omega)) (lv_sub hl [2, 3, 4, 5, 6] rfl)
          · exact absurd c9 (by decide)
      · exact absurd rfl c1
    · rcases hbad with h | h
      · exact absurd rfl (h j hv9)
      · exact absurd h (nI_nlt (Nat.zero_le _) hk9)
  · refine ktop (y := nI 1) rfl ?_
    refine lv_istore (lv' := [(5, .int (nI 1)), (4, .int (nI (3 * i))), (3, .ref a2), (2, .ref a1), (1, .ref a0), (0, .ref b)]) hx hb dL_law_678 hl (by decide) rfl (fun ls hl => ?_)
    refine lv_aload_n hx hb dL_law_680 rfl (lv_at hl 3 rfl) ?_
    refine lv_aload_n hx hb dL_law_681 rfl (lv_at hl 5 rfl) ?_
    refine lv_iload hx hb dL_law_682 (lv_at hl 1 rfl) ?_
    refine lv_iconst (v := nI 1) hx hb dL_law_684 (by decide) ?_
    refine lv_iadd hx hb dL_law_685 ?_
    refine ktop (nI_add _ _) ?_
    refine va_sld hx hb hXs hbl hbA hS (nI_vp (j := 3 * i + 1) rfl (by omega) (by omega)) dL_law_686 ?_
    refine ktop hx1 ?_
    refine lv_aload_n hx hb dL_law_687 rfl (lv_at hl 5 rfl) ?_
    refine lv_iload hx hb dL_law_688 (lv_at hl 1 rfl) ?_
    refine lv_iconst (v := nI 2) hx hb dL_law_690 (by decide) ?_
    refine lv_iadd hx hb dL_law_691 ?_
    refine ktop (nI_add _ _) ?_
    refine va_sld hx hb hXs hbl hbA hS (nI_vp (j := 3 * i + 2) rfl (by omega) (by omega)) dL_law_692 ?_
    refine ktop hx2 ?_
    have hF : FH ad dm ct ad dm ct := FH.rf
    have hM9 := hMf
    have hb1 : ad (10, 0) = a1 := ha1
    refine kc_Va 2 (c_X3_keyAt l G A ad dm ct lv lev lo hi ri sz ky vl go rt ep wq wn cn op cl ca ce kc nb th0 fo0 hMf i hIf x y) F hE hW hS (10, 0) (hM9.1 0 (by decide)) hM9.2.1 hb1 rfl [.int x, .int y] rfl kw_794 kw_795 kw_796 kw_6 kw_797 (by decide +kernel) rfl ⟨rfl, rfl⟩ ⟨Nat.le_of_ble_eq_true rfl, Nat.le_of_ble_eq_true rfl⟩ hl.1 rfl (Nat.le_of_ble_eq_true rfl) dL_law_693 ⟨by show cells + 2 + 0 ≤ 601024; omega, by show slots + 12 + 0 ≤ 7293034; omega⟩ (fun _ _ _ _ _ h => h.elim) (fun v w' H locs hp hW hS => ?_)
    obtain ⟨ct3, th3, rfl, hM3, hXM, hcs⟩ := hp
    rcases hcs with ⟨j2, hxe, hv2, k2, hk2, hye, rfl, rfl⟩ | ⟨hbad, rfl, rfl⟩
    · rcases hpx.2 with h | h
      · exact absurd hxe (h j2 hv2)
      · rw [hye] at h; exact absurd h (nI_nlt (Nat.zero_le _) hk2)
    · refine lv_istore (lv' := [(6, .int (nI 0)), (5, .int (nI 1)), (4, .int (nI (3 * i))), (3, .ref a2), (2, .ref a1), (1, .ref a0), (0, .ref b)]) hx hb dL_law_696 hl (by decide) rfl (fun ls hl => ?_)
      refine lv_aload_n hx hb dL_law_698 rfl (lv_at hl 4 rfl) ?_
      obtain ⟨hT1, fsT, hT2⟩ := MD.o0 (s := (lv, lev, lo, hi, ri, sz, ky, vl, go, rt, ep, wq, wn, cn, op, cl, ca, ce, kc, nb)) hM3
      refine kc_Va 0 (c_thrown l G A ad dm ct3 (lv, lev, lo, hi, ri, sz, ky, vl, go, rt, ep, wq, wn, cn, op, cl, ca, ce, kc, nb) _ _ hM3) F hE hW hS (10, 0) hT1 hT2 hb1 rfl [] rfl kw_668 kw_669 kw_670 kw_6 kw_671 (by decide +kernel) rfl ⟨rfl, rfl⟩ ⟨Nat.le_of_ble_eq_true rfl, Nat.le_of_ble_eq_true rfl⟩ hl.1 rfl (Nat.le_of_ble_eq_true rfl) dL_law_699 ⟨by show cells + 2 + 0 + 0 ≤ 601024; omega, by show slots + 12 + 0 + 0 ≤ 7293034; omega⟩ (fun _ _ _ _ _ h => h.elim) (fun v w' H locs hp hW hS => ?_)
      obtain ⟨rfl, rfl⟩ := hp
      refine lv_iload hx hb dL_law_702 (lv_at hl 1 rfl) ?_
      refine nc_eq (tgt := 709) hx hb dL_law_704 (by decide) (by decide) (by decide) (fun c1 => ?_) (fun c1 => ?_)
      · refine lv_iload hx hb dL_law_709 (lv_at hl 1 rfl) ?_
        refine nz_ne (tgt := 726) hx hb dL_law_711 (by decide) (by decide) (fun c2 => ?_) (fun c2 => ?_)
        · refine lv_goto (tgt := 1189) hx hb dL_law_726 (by decide) ?_
          exact kk _ _ _ _ _ _ _ _ _ hW hS (jn_mk (0) hJ0 hF hK hO2 (fun _ _ => rfl) hXM hM3 hIu (Nat.le_refl _) (by show cells + 2 + 0 + 0 ≤ _; omega) (by show slots + 12 + 0 + 0 ≤ _; omega)) (lv_sub hl [2, 3, 4, 5, 6] rfl)
        · exact absurd c2 (by decide)
      · exact absurd rfl c1
set_option maxRecDepth 100000 in
set_option maxHeartbeats 4000000 in
theorem lc_below {p : Program} {l : Launch} {e : Env} {s : State} {m : MethodId} {below : List Frame} {meth : Method} {c : Code} {b L : Nat} {xs : Nat → Int32} {Q : State → Prop} {G : GG} {A : Nat → Prop} {ad : Lb → Nat} {dm : Lb → Prop} {ct : Lb → va_E} {S : SG} {H : Heap} {locs : List Loc} {cells slots i a0 a1 a2 : Nat} {ls : Array Slot}
    (F : Fx p m c cL_law 7 s #[.ref b] RL) (hst : l.stackTraces = false) (hE : VE G A s) (hXs : va_X b L xs s s.heap) (hbl : b < s.heap.size) (hbA : ¬ A b) (hi9 : 3 * i + 3 ≤ L) (hL9 : L ≤ 1536) (hW : wd G A (ad, dm, ct) H) (hS : va_S A s.heap H locs) (hJ : JN G a0 a1 a2 ad dm ct S i cells slots) (hl : lv_has ls 7 [(4, .int (nI (3 * i))), (3, .ref a2), (2, .ref a1), (1, .ref a0), (0, .ref b)])
    (kk : ∀ (ad2 : Lb → Nat) (dm2 : Lb → Prop) (ct2 : Lb → va_E) (S2 : SG) (H2 : Heap) (locs2 : List Loc) (ls2 : Array Slot) (cells2 slots2 : Nat), wd G A (ad2, dm2, ct2) H2 → va_S A s.heap H2 locs2 → JN G a0 a1 a2 ad2 dm2 ct2 S2 (i + 1) cells2 slots2 → lv_has ls2 7 [(4, .int (nI (3 * i))), (3, .ref a2), (2, .ref a1), (1, .ref a0), (0, .ref b)] → W p l e room_1 s m #[.ref b] below meth c H2 locs2 cells2 slots2 Q (F0 m 1189 ls2 [])) :
    W p l e room_1 s m #[.ref b] below meth c H locs cells slots Q (F0 m 729 ls []) := by
  have hx := F.1
  have hb := F.2.1
  obtain ⟨hcb, hsb⟩ := hJ.room
  have hJ0 := hJ
  obtain ⟨hK, ⟨th0, fo0, hM⟩, hI, ⟨ha0, ha1, ha2⟩, ⟨hO1, fO, hO2⟩, h7, -, -⟩ := hJ
  have ht9 : i < 512 := by omega
  have hIu := inv_up hI ht9
  obtain ⟨lv, lev, lo, hi, ri, sz, ky, vl, go, rt, ep, wq, wn, cn, op, cl, ca, ce, kc, nb⟩ := S
  have hH : HKF G ad dm ct lv lev lo hi ri sz ky vl go rt ep wq wn cn op cl ca ce kc nb := hK
  have hMf : MDF G ad dm ct lv lev lo hi ri sz ky vl go rt ep wq wn cn op cl ca ce kc nb th0 fo0 := hM
  have hIf : InvF lv lev lo hi ri sz ky vl go rt ep wq wn cn op cl ca ce kc nb 800 i := hI
  have hP := hIf.1
  have hnb : nb ≤ 513 := by have := hIf.2.2.2.2; omega
  have hcn9 := hIf.2.2.1.1
  obtain ⟨x, hx1⟩ : ∃ x, xs (nI (3 * i + 1)).toNatClampNeg = x := ⟨_, rfl⟩
  obtain ⟨y, hx2⟩ : ∃ x, xs (nI (3 * i + 2)).toNatClampNeg = x := ⟨_, rfl⟩
  refine lv_aload_n hx hb dL_law_729 rfl (lv_at hl 3 rfl) ?_
  refine lv_aload_n hx hb dL_law_730 rfl (lv_at hl 4 rfl) ?_
  refine lv_iload hx hb dL_law_731 (lv_at hl 0 rfl) ?_
  refine lv_iconst (v := nI 1) hx hb dL_law_733 (by decide) ?_
  refine lv_iadd hx hb dL_law_734 ?_
  refine ktop (nI_add _ _) ?_
  refine va_sld hx hb hXs hbl hbA hS (nI_vp (j := 3 * i + 1) rfl (by omega) (by omega)) dL_law_735 ?_
  refine ktop hx1 ?_
  refine lv_aload_n hx hb dL_law_736 rfl (lv_at hl 4 rfl) ?_
  refine lv_iload hx hb dL_law_737 (lv_at hl 0 rfl) ?_
  refine lv_iconst (v := nI 2) hx hb dL_law_739 (by decide) ?_
  refine lv_iadd hx hb dL_law_740 ?_
  refine ktop (nI_add _ _) ?_
  refine va_sld hx hb hXs hbl hbA hS (nI_vp (j := 3 * i + 2) rfl (by omega) (by omega)) dL_law_741 ?_
  refine ktop hx2 ?_
  refine lv_aload_n hx hb dL_law_742 rfl (lv_at hl 1 rfl) ?_
  refine kc_SH 4 (w_below l G A ad dm ct x y hH.1.1 hH.2.1 (c_X2_below l G A ad dm ct lv lev lo hi ri sz ky vl go rt ep wq wn cn op cl ca ce kc nb hst hH i hIf x y) (fun v w1 h => by obtain ⟨rfl, j, k9, rfl, hv9, hk9, rfl, hv⟩ := h; exact ⟨hO1, rfl, ⟨fO, hO2⟩, _, hv⟩) (fun E h => h.1)) F hE hW hS kw_503 kw_504 kw_0 kw_505 (by decide +kernel) rfl ⟨rfl, rfl⟩ ⟨(Nat.le_of_ble_eq_true rfl), (Nat.le_of_ble_eq_true rfl)⟩ hl.1 (by rw [ha0, ha2]; rfl) (Nat.le_of_ble_eq_true rfl) dL_law_743 ⟨by show cells + 2 ≤ 601024; omega, by show slots + 12 ≤ 7293034; omega⟩ (fun v w9 H locs hp hW hS => ?_)
  rcases hp with ⟨ans, w1, f1, hp, e1, e2, e3, e4, rfl⟩ | ⟨E, hpx, rfl, rfl⟩
  · obtain ⟨ad9, dm9, ct9⟩ := w9
    obtain ⟨rfl, j, k9, rfl, hv9, hk9, rfl, hv⟩ := hp
    cases hv
    dsimp only at e1 e2 e3 e4
    obtain rfl := e1.symm
    obtain rfl := e2.symm
    have hF : FH ad dm ct ad dm ct := FH.rf
    have hK2 := hK
    have hM9 : MDF G ad dm ct9 lv lev lo hi ri sz ky vl go rt ep wq wn cn op cl ca ce kc nb th0 fo0 := md_pass hM hF e4
    have hb1 : ad (10, 0) = a1 := (hF.1 (10, 0) (by decide)).1.trans ha1
    have hb2 : ad (20, 0) = a2 := (hF.1 (20, 0) (by decide)).1.trans ha2
    have hO9 : dm (20, 0) := (hF.1 (20, 0) (by decide)).2.2.mpr hO1
    refine lv_istore (lv' := [(5, .int (nI 0)), (4, .int (nI (3 * i))), (3, .ref a2), (2, .ref a1), (1, .ref a0), (0, .ref b)]) hx hb dL_law_746 hl (by decide) rfl (fun ls hl => ?_)
    refine lv_aload_n hx hb dL_law_748 rfl (lv_at hl 3 rfl) ?_
    refine lv_aload_n hx hb dL_law_749 rfl (lv_at hl 5 rfl) ?_
    refine lv_iload hx hb dL_law_750 (lv_at hl 1 rfl) ?_
    refine lv_iconst (v := nI 1) hx hb dL_law_752 (by decide) ?_
    refine lv_iadd hx hb dL_law_753 ?_
    refine ktop (nI_add _ _) ?_
    refine va_sld hx hb hXs hbl hbA hS (nI_vp (j := 3 * i + 1) rfl (by omega) (by omega)) dL_law_754 ?_
    refine ktop hx1 ?_
    refine lv_aload_n hx hb dL_law_755 rfl (lv_at hl 5 rfl) ?_
    refine lv_iload hx hb dL_law_756 (lv_at hl 1 rfl) ?_
    refine lv_iconst (v := nI 2) hx hb dL_law_758 (by decide) ?_
    refine lv_iadd hx hb dL_law_759 ?_
    refine ktop (nI_add _ _) ?_
    refine va_sld hx hb hXs hbl hbA hS (nI_vp (j := 3 * i + 2) rfl (by omega) (by omega)) dL_law_760 ?_
    refine ktop hx2 ?_
    refine kc_Va 2 (c_X3_below l G A ad dm ct9 lv lev lo hi ri sz ky vl go rt ep wq wn cn op cl ca ce kc nb th0 fo0 hM9 i hIf (nI j) (nI k9)) F hE hW hS (10, 0) (hM9.1 0 (by decide)) hM9.2.1 hb1 rfl [.int (nI j), .int (nI k9)] rfl kw_798 kw_799 kw_800 kw_6 kw_801 (by decide +kernel) rfl ⟨rfl, rfl⟩ ⟨Nat.le_of_ble_eq_true rfl, Nat.le_of_ble_eq_true rfl⟩ hl.1 rfl (Nat.le_of_ble_eq_true rfl) dL_law_761 ⟨by show cells + 2 + 0 ≤ 601024; omega, by show slots + 12 + 0 ≤ 7293034; omega⟩ (fun _ _ _ _ _ h => h.elim) (fun v w' H locs hp hW hS => ?_)
    obtain ⟨ct3, th3, rfl, hM3, hXM, hcs⟩ := hp
    rcases hcs with ⟨j2, hxe, hv2, k2, hk2, hye, rfl, rfl⟩ | ⟨hbad, rfl, rfl⟩
    · obtain rfl : j = j2 := nI_inj (by have := (hP.1 j hv9).1; omega) (by have := (hP.1 j2 hv2).1; omega) hxe
      obtain rfl : k9 = k2 := nI_inj hk9 hk2 hye
      refine lv_istore (lv' := [(6, .int (oI (blA lev sz vl j k9))), (5, .int (nI 0)), (4, .int (nI (3 * i))), (3, .ref a2), (2, .ref a1), (1, .ref a0), (0, .ref b)]) hx hb dL_law_764 hl (by decide) rfl (fun ls hl => ?_)
      refine lv_aload_n hx hb dL_law_766 rfl (lv_at hl 4 rfl) ?_
      obtain ⟨hT1, fsT, hT2⟩ := MD.o0 (s := (lv, lev, lo, hi, ri, sz, ky, vl, go, rt, ep, wq, wn, cn, op, cl, ca, ce, kc, nb)) hM3
      refine kc_Va 0 (c_thrown l G A ad dm ct3 (lv, lev, lo, hi, ri, sz, ky, vl, go, rt, ep, wq, wn, cn, op, cl, ca, ce, kc, nb) _ _ hM3) F hE hW hS (10, 0) hT1 hT2 hb1 rfl [] rfl kw_668 kw_669 kw_670 kw_6 kw_671 (by decide +kernel) rfl ⟨rfl, rfl⟩ ⟨Nat.le_of_ble_eq_true rfl, Nat.le_of_ble_eq_true rfl⟩ hl.1 rfl (Nat.le_of_ble_eq_true rfl) dL_law_767 ⟨by show cells + 2 + 0 + 0 ≤ 601024; omega, by show slots + 12 + 0 + 0 ≤ 7293034; omega⟩ (fun _ _ _ _ _ h => h.elim) (fun v w' H locs hp hW hS => ?_)
      obtain ⟨rfl, rfl⟩ := hp
      refine lv_iload hx hb dL_law_770 (lv_at hl 1 rfl) ?_
      refine nc_eq (tgt := 777) hx hb dL_law_772 (by decide) (by decide) (by decide) (fun c1 => ?_) (fun c1 => ?_)
      · refine lv_iload hx hb dL_law_777 (lv_at hl 1 rfl) ?_
        refine nz_ne (tgt := 794) hx hb dL_law_779 (by decide) (by decide) (fun c2 => ?_) (fun c2 => ?_)
        · exact absurd rfl c2
        · refine lv_aload_n hx hb dL_law_782 rfl (lv_at hl 3 rfl) ?_
          refine lv_iconst (v := nI 0) hx hb dL_law_783 (by decide) ?_
          refine kl_l F hE hW (20, 0) hO9 hb2 ((hXM (20, 0) (by decide)).trans e3) 0 rfl (by decide) (by decide) dL_law_784 ?_
          refine ktopv (congrArg Value.long (va_up_self _ _ _)) ?_
          refine lv_iload hx hb dL_law_785 (lv_at hl 0 rfl) ?_
          refine lv_i2l hx hb dL_law_787 rfl ?_
          refine lq_lcmp hx hb dL_law_788 ?_
          refine nz_eq (tgt := 794) hx hb dL_law_789 (by decide) (by decide) (fun c9 => ?_) (fun c9 => ?_)
          · refine lv_goto (tgt := 1189) hx hb dL_law_794 (by decide) ?_
            exact kk _ _ _ _ _ _ _ _ _ hW hS (jn_mk (0) hJ0 hF hK2 e3 e4 hXM hM3 hIu (Nat.le_refl _) (by show cells + 2 + 0 + 0 ≤ _; omega) (by show slots + 12 + 0 + 0 ≤ _; omega)) (lv_sub hl [2, 3, 4, 5, 6] rfl)
          · exact absurd c9 (by decide)
      · exact absurd rfl c1
    · rcases hbad with h | h
      · exact absurd rfl (h j hv9)
      · exact absurd h (nI_nlt (Nat.zero_le _) hk9)
  · refine ktop (y := nI 1) rfl ?_
    refine lv_istore (lv' := [(5, .int (nI 1)), (4, .int (nI (3 * i))), (3, .ref a2), (2, .ref a1), (1, .ref a0), (0, .ref b)]) hx hb dL_law_746 hl (by decide) rfl (fun ls hl => ?_)
    refine lv_aload_n hx hb dL_law_748 rfl (lv_at hl 3 rfl) ?_
    refine lv_aload_n hx hb dL_law_749 rfl (lv_at hl 5 rfl) ?_
    refine lv_iload hx hb dL_law_750 (lv_at hl 1 rfl) ?_
    refine lv_iconst (v := nI 1) hx hb dL_law_752 (by decide) ?_
    refine lv_iadd hx hb dL_law_753 ?_
    refine ktop (nI_add _ _) ?_
    refine va_sld hx hb hXs hbl hbA hS (nI_vp (j := 3 * i + 1) rfl (by omega) (by omega)) dL_law_754 ?_
    refine ktop hx1 ?_
    refine lv_aload_n hx hb dL_law_755 rfl (lv_at hl 5 rfl) ?_
    refine lv_iload hx hb dL_law_756 (lv_at hl 1 rfl) ?_
    refine lv_iconst (v := nI 2) hx hb dL_law_758 (by decide) ?_
    refine lv_iadd hx hb dL_law_759 ?_
    refine ktop (nI_add _ _) ?_
    refine va_sld hx hb hXs hbl hbA hS (nI_vp (j := 3 * i + 2) rfl (by omega) (by omega)) dL_law_760 ?_
    refine ktop hx2 ?_
    have hF : FH ad dm ct ad dm ct := FH.rf
    have hM9 := hMf
    have hb1 : ad (10, 0) = a1 := ha1
    refine kc_Va 2 (c_X3_below l G A ad dm ct lv lev lo hi ri sz ky vl go rt ep wq wn cn op cl ca ce kc nb th0 fo0 hMf i hIf x y) F hE hW hS (10, 0) (hM9.1 0 (by decide)) hM9.2.1 hb1 rfl [.int x, .int y] rfl kw_798 kw_799 kw_800 kw_6 kw_801 (by decide +kernel) rfl ⟨rfl, rfl⟩ ⟨Nat.le_of_ble_eq_true rfl, Nat.le_of_ble_eq_true rfl⟩ hl.1 rfl (Nat.le_of_ble_eq_true rfl) dL_law_761 ⟨by show cells + 2 + 0 ≤ 601024; omega, by show slots + 12 + 0 ≤ 7293034; omega⟩ (fun _ _ _ _ _ h => h.elim) (fun v w' H locs hp hW hS => ?_)
    obtain ⟨ct3, th3, rfl, hM3, hXM, hcs⟩ := hp
    rcases hcs with ⟨j2, hxe, hv2, k2, hk2, hye, rfl, rfl⟩ | ⟨hbad, rfl, rfl⟩
    · rcases hpx.2 with h | h
      · exact absurd hxe (h j2 hv2)
      · rw [hye] at h; exact absurd h (nI_nlt (Nat.zero_le _) hk2)
    · refine lv_istore (lv' := [(6, .int (nI 0)), (5, .int (nI 1)), (4, .int (nI (3 * i))), (3, .ref a2), (2, .ref a1), (1, .ref a0), (0, .ref b)]) hx hb dL_law_764 hl (by decide) rfl (fun ls hl => ?_)
      refine lv_aload_n hx hb dL_law_766 rfl (lv_at hl 4 rfl) ?_
      obtain ⟨hT1, fsT, hT2⟩ := MD.o0 (s := (lv, lev, lo, hi, ri, sz, ky, vl, go, rt, ep, wq, wn, cn, op, cl, ca, ce, kc, nb)) hM3
      refine kc_Va 0 (c_thrown l G A ad dm ct3 (lv, lev, lo, hi, ri, sz, ky, vl, go, rt, ep, wq, wn, cn, op, cl, ca, ce, kc, nb) _ _ hM3) F hE hW hS (10, 0) hT1 hT2 hb1 rfl [] rfl kw_668 kw_669 kw_670 kw_6 kw_671 (by decide +kernel) rfl ⟨rfl, rfl⟩ ⟨Nat.le_of_ble_eq_true rfl, Nat.le_of_ble_eq_true rfl⟩ hl.1 rfl (Nat.le_of_ble_eq_true rfl) dL_law_767 ⟨by show cells + 2 + 0 + 0 ≤ 601024; omega, by show slots + 12 + 0 + 0 ≤ 7293034; omega⟩ (fun _ _ _ _ _ h => h.elim) (fun v w' H locs hp hW hS => ?_)
      obtain ⟨rfl, rfl⟩ := hp
      refine lv_iload hx hb dL_law_770 (lv_at hl 1 rfl) ?_
      refine nc_eq (tgt := 777) hx hb dL_law_772 (by decide) (by decide) (by decide) (fun c1 => ?_) (fun c1 => ?_)
      · refine lv_iload hx hb dL_law_777 (lv_at hl 1 rfl) ?_
        refine nz_ne (tgt := 794) hx hb dL_law_779 (by decide) (by decide) (fun c2 => ?_) (fun c2 => ?_)
        · refine lv_goto (tgt := 1189) hx hb dL_law_794 (by decide) ?_
          exact kk _ _ _ _ _ _ _ _ _ hW hS (jn_mk (0) hJ0 hF hK hO2 (fun _ _ => rfl) hXM hM3 hIu (Nat.le_refl _) (by show cells + 2 + 0 + 0 ≤ _; omega) (by show slots + 12 + 0 + 0 ≤ _; omega)) (lv_sub hl [2, 3, 4, 5, 6] rfl)
        · exact absurd c2 (by decide)
      · exact absurd rfl c1
set_option maxRecDepth 100000 in
set_option maxHeartbeats 4000000 in
theorem lc_open {p : Program} {l : Launch} {e : Env} {s : State} {m : MethodId} {below : List Frame} {meth : Method} {c : Code} {b L : Nat} {xs : Nat → Int32} {Q : State → Prop} {G : GG} {A : Nat → Prop} {ad : Lb → Nat} {dm : Lb → Prop} {ct : Lb → va_E} {S : SG} {H : Heap} {locs : List Loc} {cells slots i a0 a1 a2 : Nat} {ls : Array Slot}
    (F : Fx p m c cL_law 7 s #[.ref b] RL) (hst : l.stackTraces = false) (hE : VE G A s) (hXs : va_X b L xs s s.heap) (hbl : b < s.heap.size) (hbA : ¬ A b) (hi9 : 3 * i + 3 ≤ L) (hL9 : L ≤ 1536) (hW : wd G A (ad, dm, ct) H) (hS : va_S A s.heap H locs) (hJ : JN G a0 a1 a2 ad dm ct S i cells slots) (hl : lv_has ls 7 [(4, .int (nI (3 * i))), (3, .ref a2), (2, .ref a1), (1, .ref a0), (0, .ref b)])
    (kk : ∀ (ad2 : Lb → Nat) (dm2 : Lb → Prop) (ct2 : Lb → va_E) (S2 : SG) (H2 : Heap) (locs2 : List Loc) (ls2 : Array Slot) (cells2 slots2 : Nat), wd G A (ad2, dm2, ct2) H2 → va_S A s.heap H2 locs2 → JN G a0 a1 a2 ad2 dm2 ct2 S2 (i + 1) cells2 slots2 → lv_has ls2 7 [(4, .int (nI (3 * i))), (3, .ref a2), (2, .ref a1), (1, .ref a0), (0, .ref b)] → W p l e room_1 s m #[.ref b] below meth c H2 locs2 cells2 slots2 Q (F0 m 1189 ls2 [])) :
    W p l e room_1 s m #[.ref b] below meth c H locs cells slots Q (F0 m 965 ls []) := by
  have hx := F.1
  have hb := F.2.1
  obtain ⟨hcb, hsb⟩ := hJ.room
  have hJ0 := hJ
  obtain ⟨hK, ⟨th0, fo0, hM⟩, hI, ⟨ha0, ha1, ha2⟩, ⟨hO1, fO, hO2⟩, h7, -, -⟩ := hJ
  have ht9 : i < 512 := by omega
  have hIu := inv_up hI ht9
  obtain ⟨lv, lev, lo, hi, ri, sz, ky, vl, go, rt, ep, wq, wn, cn, op, cl, ca, ce, kc, nb⟩ := S
  have hH : HKF G ad dm ct lv lev lo hi ri sz ky vl go rt ep wq wn cn op cl ca ce kc nb := hK
  have hMf : MDF G ad dm ct lv lev lo hi ri sz ky vl go rt ep wq wn cn op cl ca ce kc nb th0 fo0 := hM
  have hIf : InvF lv lev lo hi ri sz ky vl go rt ep wq wn cn op cl ca ce kc nb 800 i := hI
  have hP := hIf.1
  have hnb : nb ≤ 513 := by have := hIf.2.2.2.2; omega
  have hcn9 := hIf.2.2.1.1
  obtain ⟨x, hx1⟩ : ∃ x, xs (nI (3 * i + 1)).toNatClampNeg = x := ⟨_, rfl⟩
  refine lv_aload_n hx hb dL_law_965 rfl (lv_at hl 3 rfl) ?_
  refine lv_aload_n hx hb dL_law_966 rfl (lv_at hl 4 rfl) ?_
  refine lv_iload hx hb dL_law_967 (lv_at hl 0 rfl) ?_
  refine lv_iconst (v := nI 1) hx hb dL_law_969 (by decide) ?_
  refine lv_iadd hx hb dL_law_970 ?_
  refine ktop (nI_add _ _) ?_
  refine va_sld hx hb hXs hbl hbA hS (nI_vp (j := 3 * i + 1) rfl (by omega) (by omega)) dL_law_971 ?_
  refine ktop hx1 ?_
  refine lv_aload_n hx hb dL_law_972 rfl (lv_at hl 1 rfl) ?_
  refine kc_SH 3 (w_open l G A ad dm ct x hH.1.1 hH.2.1 (c_X2_open l G A ad dm ct lv lev lo hi ri sz ky vl go rt ep wq wn cn op cl ca ce kc nb hst hH i hIf h7 x) (fun v w1 h => by obtain ⟨ad2, dm2, ct2, rfl, hF, key, hk, rfl, hcn, hK2, hv⟩ := h; exact ⟨(hF.1 (20, 0) (by decide)).2.2.mpr hO1, (hF.1 (20, 0) (by decide)).1, ⟨fO, (hF.1 (20, 0) (by decide)).2.1.trans hO2⟩, _, hv⟩) (fun E h => h.elim (fun q => Or.inl q.1) (fun q => Or.inr q.1))) F hE hW hS kw_534 kw_535 kw_0 kw_536 (by decide +kernel) rfl ⟨rfl, rfl⟩ ⟨(Nat.le_of_ble_eq_true rfl), (Nat.le_of_ble_eq_true rfl)⟩ hl.1 (by rw [ha0, ha2]; rfl) (Nat.le_of_ble_eq_true rfl) dL_law_973 ⟨by show cells + 2 ≤ 601024; omega, by show slots + 12 ≤ 7293034; omega⟩ (fun v w9 H locs hp hW hS => ?_)
  rcases hp with ⟨ans, w1, f1, hp, e1, e2, e3, e4, rfl⟩ | ⟨E, hpx, rfl, rfl⟩
  · obtain ⟨ad9, dm9, ct9⟩ := w9
    obtain ⟨ad2, dm2, ct2, rfl, hF, key, hk, rfl, hcn, hK2, hv⟩ := hp
    cases hv
    dsimp only at e1 e2 e3 e4
    obtain rfl := e1.symm
    obtain rfl := e2.symm
    have hM9 : MDF G ad2 dm2 ct9 lv lev lo hi ri sz ky vl go rt ep wq wn cn op cl ca ce kc nb th0 fo0 := md_pass hM hF e4
    have hb1 : ad2 (10, 0) = a1 := (hF.1 (10, 0) (by decide)).1.trans ha1
    have hb2 : ad2 (20, 0) = a2 := (hF.1 (20, 0) (by decide)).1.trans ha2
    have hO9 : dm2 (20, 0) := (hF.1 (20, 0) (by decide)).2.2.mpr hO1
    refine lv_istore (lv' := [(5, .int (nI 0)), (4, .int (nI (3 * i))), (3, .ref a2), (2, .ref a1), (1, .ref a0), (0, .ref b)]) hx hb dL_law_976 hl (by decide) rfl (fun ls hl => ?_)
    refine lv_aload_n hx hb dL_law_978 rfl (lv_at hl 3 rfl) ?_
    refine lv_aload_n hx hb dL_law_979 rfl (lv_at hl 5 rfl) ?_
    refine lv_iload hx hb dL_law_980 (lv_at hl 1 rfl) ?_
    refine lv_iconst (v := nI 1) hx hb dL_law_982 (by decide) ?_
    refine lv_iadd hx hb dL_law_983 ?_
    refine ktop (nI_add _ _) ?_
    refine va_sld hx hb hXs hbl hbA hS (nI_vp (j := 3 * i + 1) rfl (by omega) (by omega)) dL_law_984 ?_
    refine ktop hx1 ?_
    refine kc_Va 1 (c_X3_open l G A ad2 dm2 ct9 lv lev lo hi ri sz ky vl go rt ep wq wn cn op cl ca ce kc nb th0 fo0 hM9 i hIf (nI key)) F hE hW hS (10, 0) (hM9.1 0 (by decide)) hM9.2.1 hb1 rfl [.int (nI key)] rfl kw_814 kw_815 kw_816 kw_6 kw_817 (by decide +kernel) rfl ⟨rfl, rfl⟩ ⟨Nat.le_of_ble_eq_true rfl, Nat.le_of_ble_eq_true rfl⟩ hl.1 rfl (Nat.le_of_ble_eq_true rfl) dL_law_985 ⟨by show cells + 2 + 0 ≤ 601024; omega, by show slots + 12 + 0 ≤ 7293034; omega⟩ (fun _ _ _ _ _ h => h.elim) (fun v w' H locs hp hW hS => ?_)
    obtain ⟨ct3, th3, fo3, s3, rfl, hM3, hXM, hcs⟩ := hp
    rcases hcs with ⟨k2, hk2, hxe, hcn2, rfl, rfl, rfl⟩ | ⟨hbad, rfl, rfl, rfl⟩ | ⟨⟨k2, hk2, hxe⟩, hcn2, rfl, rfl, rfl⟩
    · obtain rfl : key = k2 := nI_inj (by omega) (by omega) hxe
      refine lv_istore (lv' := [(6, .int (nI cn)), (5, .int (nI 0)), (4, .int (nI (3 * i))), (3, .ref a2), (2, .ref a1), (1, .ref a0), (0, .ref b)]) hx hb dL_law_988 hl (by decide) rfl (fun ls hl => ?_)
      refine lv_aload_n hx hb dL_law_990 rfl (lv_at hl 4 rfl) ?_
      obtain ⟨hT1, fsT, hT2⟩ := MD.o0 (s := (opnS (lv, lev, lo, hi, ri, sz, ky, vl, go, rt, ep, wq, wn, cn, op, cl, ca, ce, kc, nb) key)) hM3
      refine kc_Va 0 (c_thrown l G A ad2 dm2 ct3 (opnS (lv, lev, lo, hi, ri, sz, ky, vl, go, rt, ep, wq, wn, cn, op, cl, ca, ce, kc, nb) key) _ _ hM3) F hE hW hS (10, 0) hT1 hT2 hb1 rfl [] rfl kw_668 kw_669 kw_670 kw_6 kw_671 (by decide +kernel) rfl ⟨rfl, rfl⟩ ⟨Nat.le_of_ble_eq_true rfl, Nat.le_of_ble_eq_true rfl⟩ hl.1 rfl (Nat.le_of_ble_eq_true rfl) dL_law_991 ⟨by show cells + 2 + 0 + 0 ≤ 601024; omega, by show slots + 12 + 0 + 0 ≤ 7293034; omega⟩ (fun _ _ _ _ _ h => h.elim) (fun v w' H locs hp hW hS => ?_)
      obtain ⟨rfl, rfl⟩ := hp
      refine lv_iload hx hb dL_law_994 (lv_at hl 1 rfl) ?_
      refine nc_eq (tgt := 1001) hx hb dL_law_996 (by decide) (by decide) (by decide) (fun c1 => ?_) (fun c1 => ?_)
      · refine lv_iload hx hb dL_law_1001 (lv_at hl 1 rfl) ?_
        refine nz_ne (tgt := 1018) hx hb dL_law_1003 (by decide) (by decide) (fun c2 => ?_) (fun c2 => ?_)
        · exact absurd rfl c2
        · refine lv_aload_n hx hb dL_law_1006 rfl (lv_at hl 3 rfl) ?_
          refine lv_iconst (v := nI 0) hx hb dL_law_1007 (by decide) ?_
          refine kl_l F hE hW (20, 0) hO9 hb2 ((hXM (20, 0) (by decide)).trans e3) 0 rfl (by decide) (by decide) dL_law_1008 ?_
          refine ktopv (congrArg Value.long (va_up_self _ _ _)) ?_
          refine lv_iload hx hb dL_law_1009 (lv_at hl 0 rfl) ?_
          refine lv_i2l hx hb dL_law_1011 rfl ?_
          refine lq_lcmp hx hb dL_law_1012 ?_
          refine nz_eq (tgt := 1018) hx hb dL_law_1013 (by decide) (by decide) (fun c9 => ?_) (fun c9 => ?_)
          · refine lv_goto (tgt := 1189) hx hb dL_law_1018 (by decide) ?_
            exact kk _ _ _ _ _ _ _ _ _ hW hS (jn_mk (0) hJ0 hF hK2 e3 e4 hXM hM3 (inv_up (inv_opn hI hk hcn) ht9) opn_P (by show cells + 2 + 0 + 0 ≤ _; omega) (by show slots + 12 + 0 + 0 ≤ _; omega)) (lv_sub hl [2, 3, 4, 5, 6] rfl)
          · exact absurd c9 (by decide)
      · exact absurd rfl c1
    · exact absurd rfl (hbad key hk)
    · omega
  · rcases hpx with ⟨rfl, hpx⟩ | ⟨rfl, hpx⟩
    · refine ktop (y := nI 1) (by dsimp only; rw [if_pos rfl]) ?_
      refine lv_istore (lv' := [(5, .int (nI 1)), (4, .int (nI (3 * i))), (3, .ref a2), (2, .ref a1), (1, .ref a0), (0, .ref b)]) hx hb dL_law_976 hl (by decide) rfl (fun ls hl => ?_)
      refine lv_aload_n hx hb dL_law_978 rfl (lv_at hl 3 rfl) ?_
      refine lv_aload_n hx hb dL_law_979 rfl (lv_at hl 5 rfl) ?_
      refine lv_iload hx hb dL_law_980 (lv_at hl 1 rfl) ?_
      refine lv_iconst (v := nI 1) hx hb dL_law_982 (by decide) ?_
      refine lv_iadd hx hb dL_law_983 ?_
      refine ktop (nI_add _ _) ?_
      refine va_sld hx hb hXs hbl hbA hS (nI_vp (j := 3 * i + 1) rfl (by omega) (by omega)) dL_law_984 ?_
      refine ktop hx1 ?_
      have hF : FH ad dm ct ad dm ct := FH.rf
      have hM9 := hMf
      have hb1 : ad (10, 0) = a1 := ha1
      refine kc_Va 1 (c_X3_open l G A ad dm ct lv lev lo hi ri sz ky vl go rt ep wq wn cn op cl ca ce kc nb th0 fo0 hMf i hIf x) F hE hW hS (10, 0) (hM9.1 0 (by decide)) hM9.2.1 hb1 rfl [.int x] rfl kw_814 kw_815 kw_816 kw_6 kw_817 (by decide +kernel) rfl ⟨rfl, rfl⟩ ⟨Nat.le_of_ble_eq_true rfl, Nat.le_of_ble_eq_true rfl⟩ hl.1 rfl (Nat.le_of_ble_eq_true rfl) dL_law_985 ⟨by show cells + 2 + 0 ≤ 601024; omega, by show slots + 12 + 0 ≤ 7293034; omega⟩ (fun _ _ _ _ _ h => h.elim) (fun v w' H locs hp hW hS => ?_)
      obtain ⟨ct3, th3, fo3, s3, rfl, hM3, hXM, hcs⟩ := hp
      rcases hcs with ⟨k2, hk2, hxe, hcn2, rfl, rfl, rfl⟩ | ⟨hbad, rfl, rfl, rfl⟩ | ⟨⟨k2, hk2, hxe⟩, hcn2, rfl, rfl, rfl⟩
      · exact absurd hxe (hpx k2 hk2)
      · refine lv_istore (lv' := [(6, .int (nI 0)), (5, .int (nI 1)), (4, .int (nI (3 * i))), (3, .ref a2), (2, .ref a1), (1, .ref a0), (0, .ref b)]) hx hb dL_law_988 hl (by decide) rfl (fun ls hl => ?_)
        refine lv_aload_n hx hb dL_law_990 rfl (lv_at hl 4 rfl) ?_
        obtain ⟨hT1, fsT, hT2⟩ := MD.o0 (s := (lv, lev, lo, hi, ri, sz, ky, vl, go, rt, ep, wq, wn, cn, op, cl, ca, ce, kc, nb)) hM3
        refine kc_Va 0 (c_thrown l G A ad dm ct3 (lv, lev, lo, hi, ri, sz, ky, vl, go, rt, ep, wq, wn, cn, op, cl, ca, ce, kc, nb) _ _ hM3) F hE hW hS (10, 0) hT1 hT2 hb1 rfl [] rfl kw_668 kw_669 kw_670 kw_6 kw_671 (by decide +kernel) rfl ⟨rfl, rfl⟩ ⟨Nat.le_of_ble_eq_true rfl, Nat.le_of_ble_eq_true rfl⟩ hl.1 rfl (Nat.le_of_ble_eq_true rfl) dL_law_991 ⟨by show cells + 2 + 0 + 0 ≤ 601024; omega, by show slots + 12 + 0 + 0 ≤ 7293034; omega⟩ (fun _ _ _ _ _ h => h.elim) (fun v w' H locs hp hW hS => ?_)
        obtain ⟨rfl, rfl⟩ := hp
        refine lv_iload hx hb dL_law_994 (lv_at hl 1 rfl) ?_
        refine nc_eq (tgt := 1001) hx hb dL_law_996 (by decide) (by decide) (by decide) (fun c1 => ?_) (fun c1 => ?_)
        · refine lv_iload hx hb dL_law_1001 (lv_at hl 1 rfl) ?_
          refine nz_ne (tgt := 1018) hx hb dL_law_1003 (by decide) (by decide) (fun c2 => ?_) (fun c2 => ?_)
          · refine lv_goto (tgt := 1189) hx hb dL_law_1018 (by decide) ?_
            exact kk _ _ _ _ _ _ _ _ _ hW hS (jn_mk (0) hJ0 hF hK hO2 (fun _ _ => rfl) hXM hM3 hIu (Nat.le_refl _) (by show cells + 2 + 0 + 0 ≤ _; omega) (by show slots + 12 + 0 + 0 ≤ _; omega)) (lv_sub hl [2, 3, 4, 5, 6] rfl)
          · exact absurd c2 (by decide)
        · exact absurd rfl c1
      · exact absurd hxe (hpx k2 hk2)
    · refine ktop (y := nI 2) (by dsimp only; rw [if_neg (by decide)]) ?_
      refine lv_istore (lv' := [(5, .int (nI 2)), (4, .int (nI (3 * i))), (3, .ref a2), (2, .ref a1), (1, .ref a0), (0, .ref b)]) hx hb dL_law_976 hl (by decide) rfl (fun ls hl => ?_)
      refine lv_aload_n hx hb dL_law_978 rfl (lv_at hl 3 rfl) ?_
      refine lv_aload_n hx hb dL_law_979 rfl (lv_at hl 5 rfl) ?_
      refine lv_iload hx hb dL_law_980 (lv_at hl 1 rfl) ?_
      refine lv_iconst (v := nI 1) hx hb dL_law_982 (by decide) ?_
      refine lv_iadd hx hb dL_law_983 ?_
      refine ktop (nI_add _ _) ?_
      refine va_sld hx hb hXs hbl hbA hS (nI_vp (j := 3 * i + 1) rfl (by omega) (by omega)) dL_law_984 ?_
      refine ktop hx1 ?_
      have hF : FH ad dm ct ad dm ct := FH.rf
      have hM9 := hMf
      have hb1 : ad (10, 0) = a1 := ha1
      refine kc_Va 1 (c_X3_open l G A ad dm ct lv lev lo hi ri sz ky vl go rt ep wq wn cn op cl ca ce kc nb th0 fo0 hMf i hIf x) F hE hW hS (10, 0) (hM9.1 0 (by decide)) hM9.2.1 hb1 rfl [.int x] rfl kw_814 kw_815 kw_816 kw_6 kw_817 (by decide +kernel) rfl ⟨rfl, rfl⟩ ⟨Nat.le_of_ble_eq_true rfl, Nat.le_of_ble_eq_true rfl⟩ hl.1 rfl (Nat.le_of_ble_eq_true rfl) dL_law_985 ⟨by show cells + 2 + 0 ≤ 601024; omega, by show slots + 12 + 0 ≤ 7293034; omega⟩ (fun _ _ _ _ _ h => h.elim) (fun v w' H locs hp hW hS => ?_)
      obtain ⟨ct3, th3, fo3, s3, rfl, hM3, hXM, hcs⟩ := hp
      rcases hcs with ⟨k2, hk2, hxe, hcn2, rfl, rfl, rfl⟩ | ⟨hbad, rfl, rfl, rfl⟩ | ⟨⟨k2, hk2, hxe⟩, hcn2, rfl, rfl, rfl⟩
      · have := hpx.2; omega
      · obtain ⟨k3, hk3, hx3⟩ := hpx.1
        exact absurd hx3 (hbad k3 hk3)
      · refine lv_istore (lv' := [(6, .int (nI 0)), (5, .int (nI 2)), (4, .int (nI (3 * i))), (3, .ref a2), (2, .ref a1), (1, .ref a0), (0, .ref b)]) hx hb dL_law_988 hl (by decide) rfl (fun ls hl => ?_)
        refine lv_aload_n hx hb dL_law_990 rfl (lv_at hl 4 rfl) ?_
        obtain ⟨hT1, fsT, hT2⟩ := MD.o0 (s := (lv, lev, lo, hi, ri, sz, ky, vl, go, rt, ep, wq, wn, cn, op, cl, ca, ce, kc, nb)) hM3
        refine kc_Va 0 (c_thrown l G A ad dm ct3 (lv, lev, lo, hi, ri, sz, ky, vl, go, rt, ep, wq, wn, cn, op, cl, ca, ce, kc, nb) _ _ hM3) F hE hW hS (10, 0) hT1 hT2 hb1 rfl [] rfl kw_668 kw_669 kw_670 kw_6 kw_671 (by decide +kernel) rfl ⟨rfl, rfl⟩ ⟨Nat.le_of_ble_eq_true rfl, Nat.le_of_ble_eq_true rfl⟩ hl.1 rfl (Nat.le_of_ble_eq_true rfl) dL_law_991 ⟨by show cells + 2 + 0 + 0 ≤ 601024; omega, by show slots + 12 + 0 + 0 ≤ 7293034; omega⟩ (fun _ _ _ _ _ h => h.elim) (fun v w' H locs hp hW hS => ?_)
        obtain ⟨rfl, rfl⟩ := hp
        refine lv_iload hx hb dL_law_994 (lv_at hl 1 rfl) ?_
        refine nc_eq (tgt := 1001) hx hb dL_law_996 (by decide) (by decide) (by decide) (fun c1 => ?_) (fun c1 => ?_)
        · refine lv_iload hx hb dL_law_1001 (lv_at hl 1 rfl) ?_
          refine nz_ne (tgt := 1018) hx hb dL_law_1003 (by decide) (by decide) (fun c2 => ?_) (fun c2 => ?_)
          · refine lv_goto (tgt := 1189) hx hb dL_law_1018 (by decide) ?_
            exact kk _ _ _ _ _ _ _ _ _ hW hS (jn_mk (0) hJ0 hF hK hO2 (fun _ _ => rfl) hXM hM3 hIu (Nat.le_refl _) (by show cells + 2 + 0 + 0 ≤ _; omega) (by show slots + 12 + 0 + 0 ≤ _; omega)) (lv_sub hl [2, 3, 4, 5, 6] rfl)
          · exact absurd c2 (by decide)
        · exact absurd rfl c1
set_option maxRecDepth 100000 in
set_option maxHeartbeats 4000000 in
theorem lc_next {p : Program} {l : Launch} {e : Env} {s : State} {m : MethodId} {below : List Frame} {meth : Method} {c : Code} {b L : Nat} {xs : Nat → Int32} {Q : State → Prop} {G : GG} {A : Nat → Prop} {ad : Lb → Nat} {dm : Lb → Prop} {ct : Lb → va_E} {S : SG} {H : Heap} {locs : List Loc} {cells slots i a0 a1 a2 : Nat} {ls : Array Slot}
    (F : Fx p m c cL_law 7 s #[.ref b] RL) (hst : l.stackTraces = false) (hE : VE G A s) (hXs : va_X b L xs s s.heap) (hbl : b < s.heap.size) (hbA : ¬ A b) (hi9 : 3 * i + 3 ≤ L) (hL9 : L ≤ 1536) (hW : wd G A (ad, dm, ct) H) (hS : va_S A s.heap H locs) (hJ : JN G a0 a1 a2 ad dm ct S i cells slots) (hl : lv_has ls 7 [(4, .int (nI (3 * i))), (3, .ref a2), (2, .ref a1), (1, .ref a0), (0, .ref b)])
    (kk : ∀ (ad2 : Lb → Nat) (dm2 : Lb → Prop) (ct2 : Lb → va_E) (S2 : SG) (H2 : Heap) (locs2 : List Loc) (ls2 : Array Slot) (cells2 slots2 : Nat), wd G A (ad2, dm2, ct2) H2 → va_S A s.heap H2 locs2 → JN G a0 a1 a2 ad2 dm2 ct2 S2 (i + 1) cells2 slots2 → lv_has ls2 7 [(4, .int (nI (3 * i))), (3, .ref a2), (2, .ref a1), (1, .ref a0), (0, .ref b)] → W p l e room_1 s m #[.ref b] below meth c H2 locs2 cells2 slots2 Q (F0 m 1189 ls2 [])) :
    W p l e room_1 s m #[.ref b] below meth c H locs cells slots Q (F0 m 1021 ls []) := by
  have hx := F.1
  have hb := F.2.1
  obtain ⟨hcb, hsb⟩ := hJ.room
  have hJ0 := hJ
  obtain ⟨hK, ⟨th0, fo0, hM⟩, hI, ⟨ha0, ha1, ha2⟩, ⟨hO1, fO, hO2⟩, h7, -, -⟩ := hJ
  have ht9 : i < 512 := by omega
  have hIu := inv_up hI ht9
  obtain ⟨lv, lev, lo, hi, ri, sz, ky, vl, go, rt, ep, wq, wn, cn, op, cl, ca, ce, kc, nb⟩ := S
  have hH : HKF G ad dm ct lv lev lo hi ri sz ky vl go rt ep wq wn cn op cl ca ce kc nb := hK
  have hMf : MDF G ad dm ct lv lev lo hi ri sz ky vl go rt ep wq wn cn op cl ca ce kc nb th0 fo0 := hM
  have hIf : InvF lv lev lo hi ri sz ky vl go rt ep wq wn cn op cl ca ce kc nb 800 i := hI
  have hP := hIf.1
  have hnb : nb ≤ 513 := by have := hIf.2.2.2.2; omega
  have hcn9 := hIf.2.2.1.1
  obtain ⟨x, hx1⟩ : ∃ x, xs (nI (3 * i + 1)).toNatClampNeg = x := ⟨_, rfl⟩
  refine lv_aload_n hx hb dL_law_1021 rfl (lv_at hl 3 rfl) ?_
  refine lv_aload_n hx hb dL_law_1022 rfl (lv_at hl 4 rfl) ?_
  refine lv_iload hx hb dL_law_1023 (lv_at hl 0 rfl) ?_
  refine lv_iconst (v := nI 1) hx hb dL_law_1025 (by decide) ?_
  refine lv_iadd hx hb dL_law_1026 ?_
  refine ktop (nI_add _ _) ?_
  refine va_sld hx hb hXs hbl hbA hS (nI_vp (j := 3 * i + 1) rfl (by omega) (by omega)) dL_law_1027 ?_
  refine ktop hx1 ?_
  refine lv_aload_n hx hb dL_law_1028 rfl (lv_at hl 1 rfl) ?_
  refine kc_SH 3 (w_next l G A ad dm ct x hH.1.1 hH.2.1 (c_X2_next l G A ad dm ct lv lev lo hi ri sz ky vl go rt ep wq wn cn op cl ca ce kc nb hst hH i hIf x) (fun v w1 h => by obtain ⟨ct2, rfl, hF, j, hj, rfl, ho, hK2, hv⟩ := h; exact ⟨(hF.1 (20, 0) (by decide)).2.2.mpr hO1, (hF.1 (20, 0) (by decide)).1, ⟨fO, (hF.1 (20, 0) (by decide)).2.1.trans hO2⟩, _, hv⟩) (fun E h => h.1)) F hE hW hS kw_562 kw_563 kw_0 kw_564 (by decide +kernel) rfl ⟨rfl, rfl⟩ ⟨(Nat.le_of_ble_eq_true rfl), (Nat.le_of_ble_eq_true rfl)⟩ hl.1 (by rw [ha0, ha2]; rfl) (Nat.le_of_ble_eq_true rfl) dL_law_1029 ⟨by show cells + 1 ≤ 601024; omega, by show slots + 6 ≤ 7293034; omega⟩ (fun v w9 H locs hp hW hS => ?_)
  rcases hp with ⟨ans, w1, f1, hp, e1, e2, e3, e4, rfl⟩ | ⟨E, hpx, rfl, rfl⟩
  · obtain ⟨ad9, dm9, ct9⟩ := w9
    obtain ⟨ct2, rfl, hF, j, hj, rfl, ho, hK2, hv⟩ := hp
    cases hv
    dsimp only at e1 e2 e3 e4
    obtain rfl := e1.symm
    obtain rfl := e2.symm
    have hM9 : MDF G ad dm ct9 lv lev lo hi ri sz ky vl go rt ep wq wn cn op cl ca ce kc nb th0 fo0 := md_pass hM hF e4
    have hb1 : ad (10, 0) = a1 := (hF.1 (10, 0) (by decide)).1.trans ha1
    have hb2 : ad (20, 0) = a2 := (hF.1 (20, 0) (by decide)).1.trans ha2
    have hO9 : dm (20, 0) := (hF.1 (20, 0) (by decide)).2.2.mpr hO1
    refine lv_istore (lv' := [(5, .int (nI 0)), (4, .int (nI (3 * i))), (3, .ref a2), (2, .ref a1), (1, .ref a0), (0, .ref b)]) hx hb dL_law_1032 hl (by decide) rfl (fun ls hl => ?_)
    refine lv_aload_n hx hb dL_law_1034 rfl (lv_at hl 3 rfl) ?_
    refine lv_aload_n hx hb dL_law_1035 rfl (lv_at hl 5 rfl) ?_
    refine lv_iload hx hb dL_law_1036 (lv_at hl 1 rfl) ?_
    refine lv_iconst (v := nI 1) hx hb dL_law_1038 (by decide) ?_
    refine lv_iadd hx hb dL_law_1039 ?_
    refine ktop (nI_add _ _) ?_
    refine va_sld hx hb hXs hbl hbA hS (nI_vp (j := 3 * i + 1) rfl (by omega) (by omega)) dL_law_1040 ?_
    refine ktop hx1 ?_
    refine kc_Va 1 (c_X3_next l G A ad dm ct9 lv lev lo hi ri sz ky vl go rt ep wq wn cn op cl ca ce kc nb th0 fo0 hM9 i hIf (nI j)) F hE hW hS (10, 0) (hM9.1 0 (by decide)) hM9.2.1 hb1 rfl [.int (nI j)] rfl kw_818 kw_819 kw_820 kw_6 kw_821 (by decide +kernel) rfl ⟨rfl, rfl⟩ ⟨Nat.le_of_ble_eq_true rfl, Nat.le_of_ble_eq_true rfl⟩ hl.1 rfl (Nat.le_of_ble_eq_true rfl) dL_law_1041 ⟨by show cells + 1 + 0 ≤ 601024; omega, by show slots + 6 + 0 ≤ 7293034; omega⟩ (fun _ _ _ _ _ h => h.elim) (fun v w' H locs hp hW hS => ?_)
    obtain ⟨ct3, th3, s3, rfl, hM3, hXM, hcs⟩ := hp
    rcases hcs with ⟨j2, hj2, hxe, ho2, rfl, rfl, rfl⟩ | ⟨hbad, rfl, rfl, rfl⟩
    · obtain rfl : j = j2 := nI_inj (by omega) (by omega) hxe
      refine lv_istore (lv' := [(6, .int (oI (nxtS (lv, lev, lo, hi, ri, sz, ky, vl, go, rt, ep, wq, wn, cn, op, cl, ca, ce, kc, nb) j).2)), (5, .int (nI 0)), (4, .int (nI (3 * i))), (3, .ref a2), (2, .ref a1), (1, .ref a0), (0, .ref b)]) hx hb dL_law_1044 hl (by decide) rfl (fun ls hl => ?_)
      refine lv_aload_n hx hb dL_law_1046 rfl (lv_at hl 4 rfl) ?_
      obtain ⟨hT1, fsT, hT2⟩ := MD.o0 (s := (nxtS (lv, lev, lo, hi, ri, sz, ky, vl, go, rt, ep, wq, wn, cn, op, cl, ca, ce, kc, nb) j).1) hM3
      refine kc_Va 0 (c_thrown l G A ad dm ct3 ((nxtS (lv, lev, lo, hi, ri, sz, ky, vl, go, rt, ep, wq, wn, cn, op, cl, ca, ce, kc, nb) j).1) _ _ hM3) F hE hW hS (10, 0) hT1 hT2 hb1 rfl [] rfl kw_668 kw_669 kw_670 kw_6 kw_671 (by decide +kernel) rfl ⟨rfl, rfl⟩ ⟨Nat.le_of_ble_eq_true rfl, Nat.le_of_ble_eq_true rfl⟩ hl.1 rfl (Nat.le_of_ble_eq_true rfl) dL_law_1047 ⟨by show cells + 1 + 0 + 0 ≤ 601024; omega, by show slots + 6 + 0 + 0 ≤ 7293034; omega⟩ (fun _ _ _ _ _ h => h.elim) (fun v w' H locs hp hW hS => ?_)
      obtain ⟨rfl, rfl⟩ := hp
      refine lv_iload hx hb dL_law_1050 (lv_at hl 1 rfl) ?_
      refine nc_eq (tgt := 1057) hx hb dL_law_1052 (by decide) (by decide) (by decide) (fun c1 => ?_) (fun c1 => ?_)
      · refine lv_iload hx hb dL_law_1057 (lv_at hl 1 rfl) ?_
        refine nz_ne (tgt := 1074) hx hb dL_law_1059 (by decide) (by decide) (fun c2 => ?_) (fun c2 => ?_)
        · exact absurd rfl c2
        · refine lv_aload_n hx hb dL_law_1062 rfl (lv_at hl 3 rfl) ?_
          refine lv_iconst (v := nI 0) hx hb dL_law_1063 (by decide) ?_
          refine kl_l F hE hW (20, 0) hO9 hb2 ((hXM (20, 0) (by decide)).trans e3) 0 rfl (by decide) (by decide) dL_law_1064 ?_
          refine ktopv (congrArg Value.long (va_up_self _ _ _)) ?_
          refine lv_iload hx hb dL_law_1065 (lv_at hl 0 rfl) ?_
          refine lv_i2l hx hb dL_law_1067 rfl ?_
          refine lq_lcmp hx hb dL_law_1068 ?_
          refine nz_eq (tgt := 1074) hx hb dL_law_1069 (by decide) (by decide) (fun c9 => ?_) (fun c9 => ?_)
          · refine lv_goto (tgt := 1189) hx hb dL_law_1074 (by decide) ?_
            exact kk _ _ _ _ _ _ _ _ _ hW hS (jn_mk (0) hJ0 hF hK2 e3 e4 hXM hM3 (inv_up (inv_nxt hI hj ho) ht9) nxt_P (by show cells + 1 + 0 + 0 ≤ _; omega) (by show slots + 6 + 0 + 0 ≤ _; omega)) (lv_sub hl [2, 3, 4, 5, 6] rfl)
          · exact absurd c9 (by decide)
      · exact absurd rfl c1
    · exact absurd rfl (hbad j hj ho)
  · refine ktop (y := nI 1) rfl ?_
    refine lv_istore (lv' := [(5, .int (nI 1)), (4, .int (nI (3 * i))), (3, .ref a2), (2, .ref a1), (1, .ref a0), (0, .ref b)]) hx hb dL_law_1032 hl (by decide) rfl (fun ls hl => ?_)
    refine lv_aload_n hx hb dL_law_1034 rfl (lv_at hl 3 rfl) ?_
    refine lv_aload_n hx hb dL_law_1035 rfl (lv_at hl 5 rfl) ?_
    refine lv_iload hx hb dL_law_1036 (lv_at hl 1 rfl) ?_
    refine lv_iconst (v := nI 1) hx hb dL_law_1038 (by decide) ?_
    refine lv_iadd hx hb dL_law_1039 ?_
    refine ktop (nI_add _ _) ?_
    refine va_sld hx hb hXs hbl hbA hS (nI_vp (j := 3 * i + 1) rfl (by omega) (by omega)) dL_law_1040 ?_
    refine ktop hx1 ?_
    have hF : FH ad dm ct ad dm ct := FH.rf
    have hM9 := hMf
    have hb1 : ad (10, 0) = a1 := ha1
    refine kc_Va 1 (c_X3_next l G A ad dm ct lv lev lo hi ri sz ky vl go rt ep wq wn cn op cl ca ce kc nb th0 fo0 hMf i hIf x) F hE hW hS (10, 0) (hM9.1 0 (by decide)) hM9.2.1 hb1 rfl [.int x] rfl kw_818 kw_819 kw_820 kw_6 kw_821 (by decide +kernel) rfl ⟨rfl, rfl⟩ ⟨Nat.le_of_ble_eq_true rfl, Nat.le_of_ble_eq_true rfl⟩ hl.1 rfl (Nat.le_of_ble_eq_true rfl) dL_law_1041 ⟨by show cells + 1 + 0 ≤ 601024; omega, by show slots + 6 + 0 ≤ 7293034; omega⟩ (fun _ _ _ _ _ h => h.elim) (fun v w' H locs hp hW hS => ?_)
    obtain ⟨ct3, th3, s3, rfl, hM3, hXM, hcs⟩ := hp
    rcases hcs with ⟨j2, hj2, hxe, ho2, rfl, rfl, rfl⟩ | ⟨hbad, rfl, rfl, rfl⟩
    · exact absurd hxe (hpx.2 j2 hj2 ho2)
    · refine lv_istore (lv' := [(6, .int (nI 0)), (5, .int (nI 1)), (4, .int (nI (3 * i))), (3, .ref a2), (2, .ref a1), (1, .ref a0), (0, .ref b)]) hx hb dL_law_1044 hl (by decide) rfl (fun ls hl => ?_)
      refine lv_aload_n hx hb dL_law_1046 rfl (lv_at hl 4 rfl) ?_
      obtain ⟨hT1, fsT, hT2⟩ := MD.o0 (s := (lv, lev, lo, hi, ri, sz, ky, vl, go, rt, ep, wq, wn, cn, op, cl, ca, ce, kc, nb)) hM3
      refine kc_Va 0 (c_thrown l G A ad dm ct3 (lv, lev, lo, hi, ri, sz, ky, vl, go, rt, ep, wq, wn, cn, op, cl, ca, ce, kc, nb) _ _ hM3) F hE hW hS (10, 0) hT1 hT2 hb1 rfl [] rfl kw_668 kw_669 kw_670 kw_6 kw_671 (by decide +kernel) rfl ⟨rfl, rfl⟩ ⟨Nat.le_of_ble_eq_true rfl, Nat.le_of_ble_eq_true rfl⟩ hl.1 rfl (Nat.le_of_ble_eq_true rfl) dL_law_1047 ⟨by show cells + 1 + 0 + 0 ≤ 601024; omega, by show slots + 6 + 0 + 0 ≤ 7293034; omega⟩ (fun _ _ _ _ _ h => h.elim) (fun v w' H locs hp hW hS => ?_)
      obtain ⟨rfl, rfl⟩ := hp
      refine lv_iload hx hb dL_law_1050 (lv_at hl 1 rfl) ?_
      refine nc_eq (tgt := 1057) hx hb dL_law_1052 (by decide) (by decide) (by decide) (fun c1 => ?_) (fun c1 => ?_)
      · refine lv_iload hx hb dL_law_1057 (lv_at hl 1 rfl) ?_
        refine nz_ne (tgt := 1074) hx hb dL_law_1059 (by decide) (by decide) (fun c2 => ?_) (fun c2 => ?_)
        · refine lv_goto (tgt := 1189) hx hb dL_law_1074 (by decide) ?_
          exact kk _ _ _ _ _ _ _ _ _ hW hS (jn_mk (0) hJ0 hF hK hO2 (fun _ _ => rfl) hXM hM3 hIu (Nat.le_refl _) (by show cells + 1 + 0 + 0 ≤ _; omega) (by show slots + 6 + 0 + 0 ≤ _; omega)) (lv_sub hl [2, 3, 4, 5, 6] rfl)
        · exact absurd c2 (by decide)
      · exact absurd rfl c1
set_option maxRecDepth 100000 in
set_option maxHeartbeats 4000000 in
theorem lc_leafOf {p : Program} {l : Launch} {e : Env} {s : State} {m : MethodId} {below : List Frame} {meth : Method} {c : Code} {b L : Nat} {xs : Nat → Int32} {Q : State → Prop} {G : GG} {A : Nat → Prop} {ad : Lb → Nat} {dm : Lb → Prop} {ct : Lb → va_E} {S : SG} {H : Heap} {locs : List Loc} {cells slots i a0 a1 a2 : Nat} {ls : Array Slot}
    (F : Fx p m c cL_law 7 s #[.ref b] RL) (hst : l.stackTraces = false) (hE : VE G A s) (hXs : va_X b L xs s s.heap) (hbl : b < s.heap.size) (hbA : ¬ A b) (hi9 : 3 * i + 3 ≤ L) (hL9 : L ≤ 1536) (hW : wd G A (ad, dm, ct) H) (hS : va_S A s.heap H locs) (hJ : JN G a0 a1 a2 ad dm ct S i cells slots) (hl : lv_has ls 7 [(4, .int (nI (3 * i))), (3, .ref a2), (2, .ref a1), (1, .ref a0), (0, .ref b)])
    (kk : ∀ (ad2 : Lb → Nat) (dm2 : Lb → Prop) (ct2 : Lb → va_E) (S2 : SG) (H2 : Heap) (locs2 : List Loc) (ls2 : Array Slot) (cells2 slots2 : Nat), wd G A (ad2, dm2, ct2) H2 → va_S A s.heap H2 locs2 → JN G a0 a1 a2 ad2 dm2 ct2 S2 (i + 1) cells2 slots2 → lv_has ls2 7 [(4, .int (nI (3 * i))), (3, .ref a2), (2, .ref a1), (1, .ref a0), (0, .ref b)] → W p l e room_1 s m #[.ref b] below meth c H2 locs2 cells2 slots2 Q (F0 m 1189 ls2 [])) :
    W p l e room_1 s m #[.ref b] below meth c H locs cells slots Q (F0 m 1077 ls []) := by
  have hx := F.1
  have hb := F.2.1
  obtain ⟨hcb, hsb⟩ := hJ.room
  have hJ0 := hJ
  obtain ⟨hK, ⟨th0, fo0, hM⟩, hI, ⟨ha0, ha1, ha2⟩, ⟨hO1, fO, hO2⟩, h7, -, -⟩ := hJ
  have ht9 : i < 512 := by omega
  have hIu := inv_up hI ht9
  obtain ⟨lv, lev, lo, hi, ri, sz, ky, vl, go, rt, ep, wq, wn, cn, op, cl, ca, ce, kc, nb⟩ := S
  have hH : HKF G ad dm ct lv lev lo hi ri sz ky vl go rt ep wq wn cn op cl ca ce kc nb := hK
  have hMf : MDF G ad dm ct lv lev lo hi ri sz ky vl go rt ep wq wn cn op cl ca ce kc nb th0 fo0 := hM
  have hIf : InvF lv lev lo hi ri sz ky vl go rt ep wq wn cn op cl ca ce kc nb 800 i := hI
  have hP := hIf.1
  have hnb : nb ≤ 513 := by have := hIf.2.2.2.2; omega
  have hcn9 := hIf.2.2.1.1
  obtain ⟨x, hx1⟩ : ∃ x, xs (nI (3 * i + 1)).toNatClampNeg = x := ⟨_, rfl⟩
  refine lv_aload_n hx hb dL_law_1077 rfl (lv_at hl 3 rfl) ?_
  refine lv_aload_n hx hb dL_law_1078 rfl (lv_at hl 4 rfl) ?_
  refine lv_iload hx hb dL_law_1079 (lv_at hl 0 rfl) ?_
  refine lv_iconst (v := nI 1) hx hb dL_law_1081 (by decide) ?_
  refine lv_iadd hx hb dL_law_1082 ?_
  refine ktop (nI_add _ _) ?_
  refine va_sld hx hb hXs hbl hbA hS (nI_vp (j := 3 * i + 1) rfl (by omega) (by omega)) dL_law_1083 ?_
  refine ktop hx1 ?_
  refine lv_aload_n hx hb dL_law_1084 rfl (lv_at hl 1 rfl) ?_
  refine kc_SH 3 (w_leafOf l G A ad dm ct x hH.1.1 hH.2.1 (c_X2_leafOf l G A ad dm ct lv lev lo hi ri sz ky vl go rt ep wq wn cn op cl ca ce kc nb hst hH i hIf x) (fun v w1 h => by obtain ⟨rfl, j, hj, rfl, ho, hv⟩ := h; exact ⟨hO1, rfl, ⟨fO, hO2⟩, _, hv⟩) (fun E h => h.1)) F hE hW hS kw_582 kw_583 kw_0 kw_584 (by decide +kernel) rfl ⟨rfl, rfl⟩ ⟨(Nat.le_of_ble_eq_true rfl), (Nat.le_of_ble_eq_true rfl)⟩ hl.1 (by rw [ha0, ha2]; rfl) (Nat.le_of_ble_eq_true rfl) dL_law_1085 ⟨by show cells + 1 ≤ 601024; omega, by show slots + 6 ≤ 7293034; omega⟩ (fun v w9 H locs hp hW hS => ?_)
  rcases hp with ⟨ans, w1, f1, hp, e1, e2, e3, e4, rfl⟩ | ⟨E, hpx, rfl, rfl⟩
  · obtain ⟨ad9, dm9, ct9⟩ := w9
    obtain ⟨rfl, j, hj, rfl, ho, hv⟩ := hp
    cases hv
    dsimp only at e1 e2 e3 e4
    obtain rfl := e1.symm
    obtain rfl := e2.symm
    have hF : FH ad dm ct ad dm ct := FH.rf
    have hK2 := hK
    have hM9 : MDF G ad dm ct9 lv lev lo hi ri sz ky vl go rt ep wq wn cn op cl ca ce kc nb th0 fo0 := md_pass hM hF e4
    have hb1 : ad (10, 0) = a1 := (hF.1 (10, 0) (by decide)).1.trans ha1
    have hb2 : ad (20, 0) = a2 := (hF.1 (20, 0) (by decide)).1.trans ha2
    have hO9 : dm (20, 0) := (hF.1 (20, 0) (by decide)).2.2.mpr hO1
    refine lv_istore (lv' := [(5, .int (nI 0)), (4, .int (nI (3 * i))), (3, .ref a2), (2, .ref a1), (1, .ref a0), (0, .ref b)]) hx hb dL_law_1088 hl (by decide) rfl (fun ls hl => ?_)
    refine lv_aload_n hx hb dL_law_1090 rfl (lv_at hl 3 rfl) ?_
    refine lv_aload_n hx hb dL_law_1091 rfl (lv_at hl 5 rfl) ?_
    refine lv_iload hx hb dL_law_1092 (lv_at hl 1 rfl) ?_
    refine lv_iconst (v := nI 1) hx hb dL_law_1094 (by decide) ?_
    refine lv_iadd hx hb dL_law_1095 ?_
    refine ktop (nI_add _ _) ?_
    refine va_sld hx hb hXs hbl hbA hS (nI_vp (j := 3 * i + 1) rfl (by omega) (by omega)) dL_law_1096 ?_
    refine ktop hx1 ?_
    refine kc_Va 1 (c_X3_leafOf l G A ad dm ct9 lv lev lo hi ri sz ky vl go rt ep wq wn cn op cl ca ce kc nb th0 fo0 hM9 i hIf (nI j)) F hE hW hS (10, 0) (hM9.1 0 (by decide)) hM9.2.1 hb1 rfl [.int (nI j)] rfl kw_826 kw_827 kw_828 kw_6 kw_829 (by decide +kernel) rfl ⟨rfl, rfl⟩ ⟨Nat.le_of_ble_eq_true rfl, Nat.le_of_ble_eq_true rfl⟩ hl.1 rfl (Nat.le_of_ble_eq_true rfl) dL_law_1097 ⟨by show cells + 1 + 0 ≤ 601024; omega, by show slots + 6 + 0 ≤ 7293034; omega⟩ (fun _ _ _ _ _ h => h.elim) (fun v w' H locs hp hW hS => ?_)
    obtain ⟨ct3, th3, s3, rfl, hM3, hXM, hcs⟩ := hp
    rcases hcs with ⟨j2, hj2, hxe, ho2, rfl, rfl, rfl⟩ | ⟨hbad, rfl, rfl, rfl⟩
    · obtain rfl : j = j2 := nI_inj (by omega) (by omega) hxe
      refine lv_istore (lv' := [(6, .int (nI (cl j))), (5, .int (nI 0)), (4, .int (nI (3 * i))), (3, .ref a2), (2, .ref a1), (1, .ref a0), (0, .ref b)]) hx hb dL_law_1100 hl (by decide) rfl (fun ls hl => ?_)
      refine lv_aload_n hx hb dL_law_1102 rfl (lv_at hl 4 rfl) ?_
      obtain ⟨hT1, fsT, hT2⟩ := MD.o0 (s := (lv, lev, lo, hi, ri, sz, ky, vl, go, rt, ep, wq, wn, cn, op, cl, ca, ce, kc, nb)) hM3
      refine kc_Va 0 (c_thrown l G A ad dm ct3 (lv, lev, lo, hi, ri, sz, ky, vl, go, rt, ep, wq, wn, cn, op, cl, ca, ce, kc, nb) _ _ hM3) F hE hW hS (10, 0) hT1 hT2 hb1 rfl [] rfl kw_668 kw_669 kw_670 kw_6 kw_671 (by decide +kernel) rfl ⟨rfl, rfl⟩ ⟨Nat.le_of_ble_eq_true rfl, Nat.le_of_ble_eq_true rfl⟩ hl.1 rfl (Nat.le_of_ble_eq_true rfl) dL_law_1103 ⟨by show cells + 1 + 0 + 0 ≤ 601024; omega, by show slots + 6 + 0 + 0 ≤ 7293034; omega⟩ (fun _ _ _ _ _ h => h.elim) (fun v w' H locs hp hW hS => ?_)
      obtain ⟨rfl, rfl⟩ := hp
      refine lv_iload hx hb dL_law_1106 (lv_at hl 1 rfl) ?_
      refine nc_eq (tgt := 1113) hx hb dL_law_1108 (by decide) (by decide) (by decide) (fun c1 => ?_) (fun c1 => ?_)
      · refine lv_iload hx hb dL_law_1113 (lv_at hl 1 rfl) ?_
        refine nz_ne (tgt := 1130) hx hb dL_law_1115 (by decide) (by decide) (fun c2 => ?_) (fun c2 => ?_)
        · exact absurd rfl c2
        · refine lv_aload_n hx hb dL_law_1118 rfl (lv_at hl 3 rfl) ?_
          refine lv_iconst (v := nI 0) hx hb dL_law_1119 (by decide) ?_
          refine kl_l F hE hW (20, 0) hO9 hb2 ((hXM (20, 0) (by decide)).trans e3) 0 rfl (by decide) (by decide) dL_law_1120 ?_
          refine ktopv (congrArg Value.long (va_up_self _ _ _)) ?_
          refine lv_iload hx hb dL_law_1121 (lv_at hl 0 rfl) ?_
          refine lv_i2l hx hb dL_law_1123 rfl ?_
          refine lq_lcmp hx hb dL_law_1124 ?_
          refine nz_eq (tgt := 1130) hx hb dL_law_1125 (by decide) (by decide) (fun c9 => ?_) (fun c9 => ?_)
          · refine lv_goto (tgt := 1189) hx hb dL_law_1130 (by decide) ?_
            exact kk _ _ _ _ _ _ _ _ _ hW hS (jn_mk (0) hJ0 hF hK2 e3 e4 hXM hM3 hIu (Nat.le_refl _) (by show cells + 1 + 0 + 0 ≤ _; omega) (by show slots + 6 + 0 + 0 ≤ _; omega)) (lv_sub hl [2, 3, 4, 5, 6] rfl)
          · exact absurd c9 (by decide)
      · exact absurd rfl c1
    · exact absurd rfl (hbad j hj ho)
  · refine ktop (y := nI 1) rfl ?_
    refine lv_istore (lv' := [(5, .int (nI 1)), (4, .int (nI (3 * i))), (3, .ref a2), (2, .ref a1), (1, .ref a0), (0, .ref b)]) hx hb dL_law_1088 hl (by decide) rfl (fun ls hl => ?_)
    refine lv_aload_n hx hb dL_law_1090 rfl (lv_at hl 3 rfl) ?_
    refine lv_aload_n hx hb dL_law_1091 rfl (lv_at hl 5 rfl) ?_
    refine lv_iload hx hb dL_law_1092 (lv_at hl 1 rfl) ?_
    refine lv_iconst (v := nI 1) hx hb dL_law_1094 (by decide) ?_
    refine lv_iadd hx hb dL_law_1095 ?_
    refine ktop (nI_add _ _) ?_
    refine va_sld hx hb hXs hbl hbA hS (nI_vp (j := 3 * i + 1) rfl (by omega) (by omega)) dL_law_1096 ?_
    refine ktop hx1 ?_
    have hF : FH ad dm ct ad dm ct := FH.rf
    have hM9 := hMf
    have hb1 : ad (10, 0) = a1 := ha1
    refine kc_Va 1 (c_X3_leafOf l G A ad dm ct lv lev lo hi ri sz ky vl go rt ep wq wn cn op cl ca ce kc nb th0 fo0 hMf i hIf x) F hE hW hS (10, 0) (hM9.1 0 (by decide)) hM9.2.1 hb1 rfl [.int x] rfl kw_826 kw_827 kw_828 kw_6 kw_829 (by decide +kernel) rfl ⟨rfl, rfl⟩ ⟨Nat.le_of_ble_eq_true rfl, Nat.le_of_ble_eq_true rfl⟩ hl.1 rfl (Nat.le_of_ble_eq_true rfl) dL_law_1097 ⟨by show cells + 1 + 0 ≤ 601024; omega, by show slots + 6 + 0 ≤ 7293034; omega⟩ (fun _ _ _ _ _ h => h.elim) (fun v w' H locs hp hW hS => ?_)
    obtain ⟨ct3, th3, s3, rfl, hM3, hXM, hcs⟩ := hp
    rcases hcs with ⟨j2, hj2, hxe, ho2, rfl, rfl, rfl⟩ | ⟨hbad, rfl, rfl, rfl⟩
    · exact absurd hxe (hpx.2 j2 hj2 ho2)
    · refine lv_istore (lv' := [(6, .int (nI 0)), (5, .int (nI 1)), (4, .int (nI (3 * i))), (3, .ref a2), (2, .ref a1), (1, .ref a0), (0, .ref b)]) hx hb dL_law_1100 hl (by decide) rfl (fun ls hl => ?_)
      refine lv_aload_n hx hb dL_law_1102 rfl (lv_at hl 4 rfl) ?_
      obtain ⟨hT1, fsT, hT2⟩ := MD.o0 (s := (lv, lev, lo, hi, ri, sz, ky, vl, go, rt, ep, wq, wn, cn, op, cl, ca, ce, kc, nb)) hM3
      refine kc_Va 0 (c_thrown l G A ad dm ct3 (lv, lev, lo, hi, ri, sz, ky, vl, go, rt, ep, wq, wn, cn, op, cl, ca, ce, kc, nb) _ _ hM3) F hE hW hS (10, 0) hT1 hT2 hb1 rfl [] rfl kw_668 kw_669 kw_670 kw_6 kw_671 (by decide +kernel) rfl ⟨rfl, rfl⟩ ⟨Nat.le_of_ble_eq_true rfl, Nat.le_of_ble_eq_true rfl⟩ hl.1 rfl (Nat.le_of_ble_eq_true rfl) dL_law_1103 ⟨by show cells + 1 + 0 + 0 ≤ 601024; omega, by show slots + 6 + 0 + 0 ≤ 7293034; omega⟩ (fun _ _ _ _ _ h => h.elim) (fun v w' H locs hp hW hS => ?_)
      obtain ⟨rfl, rfl⟩ := hp
      refine lv_iload hx hb dL_law_1106 (lv_at hl 1 rfl) ?_
      refine nc_eq (tgt := 1113) hx hb dL_law_1108 (by decide) (by decide) (by decide) (fun c1 => ?_) (fun c1 => ?_)
      · refine lv_iload hx hb dL_law_1113 (lv_at hl 1 rfl) ?_
        refine nz_ne (tgt := 1130) hx hb dL_law_1115 (by decide) (by decide) (fun c2 => ?_) (fun c2 => ?_)
        · refine lv_goto (tgt := 1189) hx hb dL_law_1130 (by decide) ?_
          exact kk _ _ _ _ _ _ _ _ _ hW hS (jn_mk (0) hJ0 hF hK hO2 (fun _ _ => rfl) hXM hM3 hIu (Nat.le_refl _) (by show cells + 1 + 0 + 0 ≤ _; omega) (by show slots + 6 + 0 + 0 ≤ _; omega)) (lv_sub hl [2, 3, 4, 5, 6] rfl)
        · exact absurd c2 (by decide)
      · exact absurd rfl c1
set_option maxRecDepth 100000 in
set_option maxHeartbeats 4000000 in
theorem lc_close {p : Program} {l : Launch} {e : Env} {s : State} {m : MethodId} {below : List Frame} {meth : Method} {c : Code} {b L : Nat} {xs : Nat → Int32} {Q : State → Prop} {G : GG} {A : Nat → Prop} {ad : Lb → Nat} {dm : Lb → Prop} {ct : Lb → va_E} {S : SG} {H : Heap} {locs : List Loc} {cells slots i a0 a1 a2 : Nat} {ls : Array Slot}
    (F : Fx p m c cL_law 7 s #[.ref b] RL) (hst : l.stackTraces = false) (hE : VE G A s) (hXs : va_X b L xs s s.heap) (hbl : b < s.heap.size) (hbA : ¬ A b) (hi9 : 3 * i + 3 ≤ L) (hL9 : L ≤ 1536) (hW : wd G A (ad, dm, ct) H) (hS : va_S A s.heap H locs) (hJ : JN G a0 a1 a2 ad dm ct S i cells slots) (hl : lv_has ls 7 [(4, .int (nI (3 * i))), (3, .ref a2), (2, .ref a1), (1, .ref a0), (0, .ref b)])
    (kk : ∀ (ad2 : Lb → Nat) (dm2 : Lb → Prop) (ct2 : Lb → va_E) (S2 : SG) (H2 : Heap) (locs2 : List Loc) (ls2 : Array Slot) (cells2 slots2 : Nat), wd G A (ad2, dm2, ct2) H2 → va_S A s.heap H2 locs2 → JN G a0 a1 a2 ad2 dm2 ct2 S2 (i + 1) cells2 slots2 → lv_has ls2 7 [(4, .int (nI (3 * i))), (3, .ref a2), (2, .ref a1), (1, .ref a0), (0, .ref b)] → W p l e room_1 s m #[.ref b] below meth c H2 locs2 cells2 slots2 Q (F0 m 1189 ls2 [])) :
    W p l e room_1 s m #[.ref b] below meth c H locs cells slots Q (F0 m 1133 ls []) := by
  have hx := F.1
  have hb := F.2.1
  obtain ⟨hcb, hsb⟩ := hJ.room
  have hJ0 := hJ
  obtain ⟨hK, ⟨th0, fo0, hM⟩, hI, ⟨ha0, ha1, ha2⟩, ⟨hO1, fO, hO2⟩, h7, -, -⟩ := hJ
  have ht9 : i < 512 := by omega
  have hIu := inv_up hI ht9
  obtain ⟨lv, lev, lo, hi, ri, sz, ky, vl, go, rt, ep, wq, wn, cn, op, cl, ca, ce, kc, nb⟩ := S
  have hH : HKF G ad dm ct lv lev lo hi ri sz ky vl go rt ep wq wn cn op cl ca ce kc nb := hK
  have hMf : MDF G ad dm ct lv lev lo hi ri sz ky vl go rt ep wq wn cn op cl ca ce kc nb th0 fo0 := hM
  have hIf : InvF lv lev lo hi ri sz ky vl go rt ep wq wn cn op cl ca ce kc nb 800 i := hI
  have hP := hIf.1
  have hnb : nb ≤ 513 := by have := hIf.2.2.2.2; omega
  have hcn9 := hIf.2.2.1.1
  obtain ⟨x, hx1⟩ : ∃ x, xs (nI (3 * i + 1)).toNatClampNeg = x := ⟨_, rfl⟩
  refine lv_aload_n hx hb dL_law_1133 rfl (lv_at hl 3 rfl) ?_
  refine lv_aload_n hx hb dL_law_1134 rfl (lv_at hl 4 rfl) ?_
  refine lv_iload hx hb dL_law_1135 (lv_at hl 0 rfl) ?_
  refine lv_iconst (v := nI 1) hx hb dL_law_1137 (by decide) ?_
  refine lv_iadd hx hb dL_law_1138 ?_
  refine ktop (nI_add _ _) ?_
  refine va_sld hx hb hXs hbl hbA hS (nI_vp (j := 3 * i + 1) rfl (by omega) (by omega)) dL_law_1139 ?_
  refine ktop hx1 ?_
  refine lv_aload_n hx hb dL_law_1140 rfl (lv_at hl 1 rfl) ?_
  refine kc_SH 3 (w_close l G A ad dm ct x hH.1.1 hH.2.1 (c_X2_close l G A ad dm ct lv lev lo hi ri sz ky vl go rt ep wq wn cn op cl ca ce kc nb hst hH i hIf x) (fun v w1 h => by obtain ⟨ct2, rfl, hF, j, hj, rfl, ho, hK2, hv⟩ := h; exact ⟨(hF.1 (20, 0) (by decide)).2.2.mpr hO1, (hF.1 (20, 0) (by decide)).1, ⟨fO, (hF.1 (20, 0) (by decide)).2.1.trans hO2⟩, _, hv⟩) (fun E h => h.1)) F hE hW hS kw_589 kw_590 kw_0 kw_591 (by decide +kernel) rfl ⟨rfl, rfl⟩ ⟨(Nat.le_of_ble_eq_true rfl), (Nat.le_of_ble_eq_true rfl)⟩ hl.1 (by rw [ha0, ha2]; rfl) (Nat.le_of_ble_eq_true rfl) dL_law_1141 ⟨by show cells + 1 ≤ 601024; omega, by show slots + 6 ≤ 7293034; omega⟩ (fun v w9 H locs hp hW hS => ?_)
  rcases hp with ⟨ans, w1, f1, hp, e1, e2, e3, e4, rfl⟩ | ⟨E, hpx, rfl, rfl⟩
  · obtain ⟨ad9, dm9, ct9⟩ := w9
    obtain ⟨ct2, rfl, hF, j, hj, rfl, ho, hK2, hv⟩ := hp
    cases hv
    dsimp only at e1 e2 e3 e4
    obtain rfl := e1.symm
    obtain rfl := e2.symm
    have hM9 : MDF G ad dm ct9 lv lev lo hi ri sz ky vl go rt ep wq wn cn op cl ca ce kc nb th0 fo0 := md_pass hM hF e4
    have hb1 : ad (10, 0) = a1 := (hF.1 (10, 0) (by decide)).1.trans ha1
    have hb2 : ad (20, 0) = a2 := (hF.1 (20, 0) (by decide)).1.trans ha2
    have hO9 : dm (20, 0) := (hF.1 (20, 0) (by decide)).2.2.mpr hO1
    refine lv_istore (lv' := [(5, .int (nI 0)), (4, .int (nI (3 * i))), (3, .ref a2), (2, .ref a1), (1, .ref a0), (0, .ref b)]) hx hb dL_law_1144 hl (by decide) rfl (fun ls hl => ?_)
    refine lv_aload_n hx hb dL_law_1146 rfl (lv_at hl 3 rfl) ?_
    refine lv_aload_n hx hb dL_law_1147 rfl (lv_at hl 5 rfl) ?_
    refine lv_iload hx hb dL_law_1148 (lv_at hl 1 rfl) ?_
    refine lv_iconst (v := nI 1) hx hb dL_law_1150 (by decide) ?_
    refine lv_iadd hx hb dL_law_1151 ?_
    refine ktop (nI_add _ _) ?_
    refine va_sld hx hb hXs hbl hbA hS (nI_vp (j := 3 * i + 1) rfl (by omega) (by omega)) dL_law_1152 ?_
    refine ktop hx1 ?_
    refine kc_Va 1 (c_X3_close l G A ad dm ct9 lv lev lo hi ri sz ky vl go rt ep wq wn cn op cl ca ce kc nb th0 fo0 hM9 i hIf (nI j)) F hE hW hS (10, 0) (hM9.1 0 (by decide)) hM9.2.1 hb1 rfl [.int (nI j)] rfl kw_830 kw_831 kw_832 kw_6 kw_833 (by decide +kernel) rfl ⟨rfl, rfl⟩ ⟨Nat.le_of_ble_eq_true rfl, Nat.le_of_ble_eq_true rfl⟩ hl.1 rfl (Nat.le_of_ble_eq_true rfl) dL_law_1153 ⟨by show cells + 1 + 0 ≤ 601024; omega, by show slots + 6 + 0 ≤ 7293034; omega⟩ (fun _ _ _ _ _ h => h.elim) (fun v w' H locs hp hW hS => ?_)
    obtain ⟨ct3, th3, s3, rfl, hM3, hXM, hcs⟩ := hp
    rcases hcs with ⟨j2, hj2, hxe, ho2, rfl, rfl, rfl⟩ | ⟨hbad, rfl, rfl, rfl⟩
    · obtain rfl : j = j2 := nI_inj (by omega) (by omega) hxe
      refine lv_istore (lv' := [(6, .int (nI (cntB cn (va_up op j false)))), (5, .int (nI 0)), (4, .int (nI (3 * i))), (3, .ref a2), (2, .ref a1), (1, .ref a0), (0, .ref b)]) hx hb dL_law_1156 hl (by decide) rfl (fun ls hl => ?_)
      refine lv_aload_n hx hb dL_law_1158 rfl (lv_at hl 4 rfl) ?_
      obtain ⟨hT1, fsT, hT2⟩ := MD.o0 (s := (cloS (lv, lev, lo, hi, ri, sz, ky, vl, go, rt, ep, wq, wn, cn, op, cl, ca, ce, kc, nb) j)) hM3
      refine kc_Va 0 (c_thrown l G A ad dm ct3 (cloS (lv, lev, lo, hi, ri, sz, ky, vl, go, rt, ep, wq, wn, cn, op, cl, ca, ce, kc, nb) j) _ _ hM3) F hE hW hS (10, 0) hT1 hT2 hb1 rfl [] rfl kw_668 kw_669 kw_670 kw_6 kw_671 (by decide +kernel) rfl ⟨rfl, rfl⟩ ⟨Nat.le_of_ble_eq_true rfl, Nat.le_of_ble_eq_true rfl⟩ hl.1 rfl (Nat.le_of_ble_eq_true rfl) dL_law_1159 ⟨by show cells + 1 + 0 + 0 ≤ 601024; omega, by show slots + 6 + 0 + 0 ≤ 7293034; omega⟩ (fun _ _ _ _ _ h => h.elim) (fun v w' H locs hp hW hS => ?_)
      obtain ⟨rfl, rfl⟩ := hp
      refine lv_iload hx hb dL_law_1162 (lv_at hl 1 rfl) ?_
      refine nc_eq (tgt := 1169) hx hb dL_law_1164 (by decide) (by decide) (by decide) (fun c1 => ?_) (fun c1 => ?_)
      · refine lv_iload hx hb dL_law_1169 (lv_at hl 1 rfl) ?_
        refine nz_ne (tgt := 1186) hx hb dL_law_1171 (by decide) (by decide) (fun c2 => ?_) (fun c2 => ?_)
        · exact absurd rfl c2
        · refine lv_aload_n hx hb dL_law_1174 rfl (lv_at hl 3 rfl) ?_
          refine lv_iconst (v := nI 0) hx hb dL_law_1175 (by decide) ?_
          refine kl_l F hE hW (20, 0) hO9 hb2 ((hXM (20, 0) (by decide)).trans e3) 0 rfl (by decide) (by decide) dL_law_1176 ?_
          refine ktopv (congrArg Value.long (va_up_self _ _ _)) ?_
          refine lv_iload hx hb dL_law_1177 (lv_at hl 0 rfl) ?_
          refine lv_i2l hx hb dL_law_1179 rfl ?_
          refine lq_lcmp hx hb dL_law_1180 ?_
          refine nz_eq (tgt := 1186) hx hb dL_law_1181 (by decide) (by decide) (fun c9 => ?_) (fun c9 => ?_)
          · refine lv_goto (tgt := 1189) hx hb dL_law_1186 (by decide) ?_
            exact kk _ _ _ _ _ _ _ _ _ hW hS (jn_mk (0) hJ0 hF hK2 e3 e4 hXM hM3 (inv_up (inv_clo hI) ht9) clo_P (by show cells + 1 + 0 + 0 ≤ _; omega) (by show slots + 6 + 0 + 0 ≤ _; omega)) (lv_sub hl [2, 3, 4, 5, 6] rfl)
          · exact absurd c9 (by decide)
      · exact absurd rfl c1
    · exact absurd rfl (hbad j hj ho)
  · refine ktop (y := nI 1) rfl ?_
    refine lv_istore (lv' := [(5, .int (nI 1)), (4, .int (nI (3 * i))), (3, .ref a2), (2, .ref a1), (1, .ref a0), (0, .ref b)]) hx hb dL_law_1144 hl (by decide) rfl (fun ls hl => ?_)
    refine lv_aload_n hx hb dL_law_1146 rfl (lv_at hl 3 rfl) ?_
    refine lv_aload_n hx hb dL_law_1147 rfl (lv_at hl 5 rfl) ?_
    refine lv_iload hx hb dL_law_1148 (lv_at hl 1 rfl) ?_
    refine lv_iconst (v := nI 1) hx hb dL_law_1150 (by decide) ?_
    refine lv_iadd hx hb dL_law_1151 ?_
    refine ktop (nI_add _ _) ?_
    refine va_sld hx hb hXs hbl hbA hS (nI_vp (j := 3 * i + 1) rfl (by omega) (by omega)) dL_law_1152 ?_
    refine ktop hx1 ?_
    have hF : FH ad dm ct ad dm ct := FH.rf
    have hM9 := hMf
    have hb1 : ad (10, 0) = a1 := ha1
    refine kc_Va 1 (c_X3_close l G A ad dm ct lv lev lo hi ri sz ky vl go rt ep wq wn cn op cl ca ce kc nb th0 fo0 hMf i hIf x) F hE hW hS (10, 0) (hM9.1 0 (by decide)) hM9.2.1 hb1 rfl [.int x] rfl kw_830 kw_831 kw_832 kw_6 kw_833 (by decide +kernel) rfl ⟨rfl, rfl⟩ ⟨Nat.le_of_ble_eq_true rfl, Nat.le_of_ble_eq_true rfl⟩ hl.1 rfl (Nat.le_of_ble_eq_true rfl) dL_law_1153 ⟨by show cells + 1 + 0 ≤ 601024; omega, by show slots + 6 + 0 ≤ 7293034; omega⟩ (fun _ _ _ _ _ h => h.elim) (fun v w' H locs hp hW hS => ?_)
    obtain ⟨ct3, th3, s3, rfl, hM3, hXM, hcs⟩ := hp
    rcases hcs with ⟨j2, hj2, hxe, ho2, rfl, rfl, rfl⟩ | ⟨hbad, rfl, rfl, rfl⟩
    · exact absurd hxe (hpx.2 j2 hj2 ho2)
    · refine lv_istore (lv' := [(6, .int (nI 0)), (5, .int (nI 1)), (4, .int (nI (3 * i))), (3, .ref a2), (2, .ref a1), (1, .ref a0), (0, .ref b)]) hx hb dL_law_1156 hl (by decide) rfl (fun ls hl => ?_)
      refine lv_aload_n hx hb dL_law_1158 rfl (lv_at hl 4 rfl) ?_
      obtain ⟨hT1, fsT, hT2⟩ := MD.o0 (s := (lv, lev, lo, hi, ri, sz, ky, vl, go, rt, ep, wq, wn, cn, op, cl, ca, ce, kc, nb)) hM3
      refine kc_Va 0 (c_thrown l G A ad dm ct3 (lv, lev, lo, hi, ri, sz, ky, vl, go, rt, ep, wq, wn, cn, op, cl, ca, ce, kc, nb) _ _ hM3) F hE hW hS (10, 0) hT1 hT2 hb1 rfl [] rfl kw_668 kw_669 kw_670 kw_6 kw_671 (by decide +kernel) rfl ⟨rfl, rfl⟩ ⟨Nat.le_of_ble_eq_true rfl, Nat.le_of_ble_eq_true rfl⟩ hl.1 rfl (Nat.le_of_ble_eq_true rfl) dL_law_1159 ⟨by show cells + 1 + 0 + 0 ≤ 601024; omega, by show slots + 6 + 0 + 0 ≤ 7293034; omega⟩ (fun _ _ _ _ _ h => h.elim) (fun v w' H locs hp hW hS => ?_)
      obtain ⟨rfl, rfl⟩ := hp
      refine lv_iload hx hb dL_law_1162 (lv_at hl 1 rfl) ?_
      refine nc_eq (tgt := 1169) hx hb dL_law_1164 (by decide) (by decide) (by decide) (fun c1 => ?_) (fun c1 => ?_)
      · refine lv_iload hx hb dL_law_1169 (lv_at hl 1 rfl) ?_
        refine nz_ne (tgt := 1186) hx hb dL_law_1171 (by decide) (by decide) (fun c2 => ?_) (fun c2 => ?_)
        · refine lv_goto (tgt := 1189) hx hb dL_law_1186 (by decide) ?_
          exact kk _ _ _ _ _ _ _ _ _ hW hS (jn_mk (0) hJ0 hF hK hO2 (fun _ _ => rfl) hXM hM3 hIu (Nat.le_refl _) (by show cells + 1 + 0 + 0 ≤ _; omega) (by show slots + 6 + 0 + 0 ≤ _; omega)) (lv_sub hl [2, 3, 4, 5, 6] rfl)
        · exact absurd c2 (by decide)
      · exact absurd rfl c1
