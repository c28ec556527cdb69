/-! The class: putting, taking. -/
def rtS (s : SG) : Nat := match s with
  | (lv, lev, lo, hi, ri, sz, ky, vl, go, rt, ep, wq, wn, cn, op, cl, ca, ce, kc, nb) => rt
def cnS (s : SG) : Nat := match s with
  | (lv, lev, lo, hi, ri, sz, ky, vl, go, rt, ep, wq, wn, cn, op, cl, ca, ce, kc, nb) => cn
section PT
variable {G : GG} {ad ad1 : Lb → Nat} {dm dm1 : Lb → Prop} {ct ct1 : Lb → va_E} {s : SG}
theorem HK.o0 (h : HK G ad dm ct s) : dm (0, 0) ∧ ct (0, 0) = .inr (3, HO ad (rtS s) (kcN s) (epS s) (cnS s)) := by
  obtain ⟨lv, lev, lo, hi, ri, sz, ky, vl, go, rt, ep, wq, wn, cn, op, cl, ca, ce, kc, nb⟩ := s
  have h2 : HKF G ad dm ct lv lev lo hi ri sz ky vl go rt ep wq wn cn op cl ca ce kc nb := h
  exact ⟨h2.1.1, h2.2.1⟩
theorem HK.setkc {k : Nat} (h : HK G ad dm ct s) (h0 : ct1 (0, 0) = .inr (3, HO ad (rtS s) k (epS s) (cnS s))) (hf : ∀ z, z ≠ (0, 0) → ct1 z = ct z) : HK G ad dm ct1 (kcS s k) := by
  obtain ⟨lv, lev, lo, hi, ri, sz, ky, vl, go, rt, ep, wq, wn, cn, op, cl, ca, ce, kc, nb⟩ := s
  have h2 : HKF G ad dm ct lv lev lo hi ri sz ky vl go rt ep wq wn cn op cl ca ce kc nb := h
  have h3 : HKF G ad dm ct1 lv lev lo hi ri sz ky vl go rt ep wq wn cn op cl ca ce k nb := h2.obj h0 hf
  exact h3
theorem kcN_add {lv : Nat → Bool} {lev lo hi : Nat → Nat} {ri : Nat → Option Nat} {sz ky vl : Nat → Nat} {go : Nat → Option Nat} {rt ep : Nat} {wq : Nat → Nat} {wn cn : Nat} {op : Nat → Bool} {cl ca ce : Nat → Nat} {kc nb : Nat} {p x v : Nat} : kcN (addS (lv, lev, lo, hi, ri, sz, ky, vl, go, rt, ep, wq, wn, cn, op, cl, ca, ce, kc, nb) p x v) = kc := by
  by_cases h : sz p = 4
  · rw [addS_eq h]; rfl
  · rw [addS_lt h]; rfl
theorem sumN_ge {n : Nat} {f : Nat → Nat} {k : Nat} (hk : k < n) : f k ≤ sumN n f := by
  induction n with
  | zero => omega
  | succ n ih =>
    show f k ≤ sumN n f + f n
    rcases Nat.lt_or_ge k n with h | h
    · have := ih h; omega
    · rw [show k = n by omega]; omega
end PT
set_option maxRecDepth 100000 in
set_option maxHeartbeats 4000000 in
theorem c_X2_put (l : Launch) (G : GG) (A : Nat → Prop) (ad : Lb → Nat) (dm : Lb → Prop) (ct : Lb → va_E) (lv : Nat → Bool) (lev : Nat → Nat) (lo : Nat → Nat) (hi : Nat → Nat) (ri : Nat → Option Nat) (sz : Nat → Nat) (ky : Nat → Nat) (vl : Nat → Nat) (go : Nat → Option Nat) (rt : Nat) (ep : Nat) (wq : Nat → Nat) (wn : Nat) (cn : Nat) (op : Nat → Bool) (cl : Nat → Nat) (ca : Nat → Nat) (ce : Nat → Nat) (kc : Nat) (nb : Nat) (hst : l.stackTraces = false) (hH : HKF G ad dm ct lv lev lo hi ri sz ky vl go rt ep wq wn cn op cl ca ce kc nb) (t0 : Nat) (hI : InvF lv lev lo hi ri sz ky vl go rt ep wq wn cn op cl ca ce kc nb 800 t0) (x y : Int32) :
    CT l yX2_put cX2_put 5 (some FieldType.int) { frames := 10, cells := 7, slots := 838, locals := 197 } [.ref (ad (0, 0)), .int x, .int y] G A (ad, dm, ct) (fun v w' => ∃ ad' dm' ct', w' = (ad', dm', ct') ∧ FH ad dm ct ad' dm' ct' ∧ ∃ key, key < 200 ∧ x = nI key ∧ ∃ u, u < 10000 ∧ y = nI u ∧ HK G ad' dm' ct' (putS (lv, lev, lo, hi, ri, sz, ky, vl, go, rt, ep, wq, wn, cn, op, cl, ca, ce, kc, nb) key u).1 ∧ v = some (.int (oI (putS (lv, lev, lo, hi, ri, sz, ky, vl, go, rt, ep, wq, wn, cn, op, cl, ca, ce, kc, nb) key u).2))) (fun E => E = "java/lang/IllegalArgumentException" ∧ ((∀ k, k < 200 → x ≠ nI k) ∨ ∀ u, u < 10000 → y ≠ nI u)) (7) (838) := by
  refine ct_of (by decide) (Nat.le_of_ble_eq_true rfl) ?_
  intro p e s m below meth c ls F hr hlk hnm hex hE hW hl
  have hx := F.1
  have hb := F.2.1
  have hS : va_S A s.heap s.heap [] := va_S.rf
  have hl : lv_has ls 5 [(0, .ref (ad (0, 0))), (1, .int x), (2, .int y)] := hl
  have hI0 := hI
  obtain ⟨hP, hQ, hCu, hkc, hsum, ht, hep, hkt⟩ := hI
  have hb9 : nb ≤ 513 := by omega
  have hwn9 : wn ≤ 513 := by omega
  obtain ⟨hfr1, hfr2, hfr3⟩ := fr_spec hP hb9
  refine lv_iload_n hx hb dX2_put_0 rfl (lv_at hl 1 rfl) ?_
  refine kc_S 1 (c_X2_checkKey l G A ad dm ct hst x) F hE hW hS kw_289 kw_290 kw_1 kw_291 (by decide +kernel) rfl ⟨rfl, rfl⟩ ⟨Nat.le_of_ble_eq_true rfl, Nat.le_of_ble_eq_true rfl⟩ hl.1 rfl (Nat.le_of_ble_eq_true rfl) dX2_put_1 ⟨Nat.le_of_ble_eq_true rfl, Nat.le_of_ble_eq_true rfl⟩ (fun E q9 ce H locs hpx hW hS hce hcv hcl => kr_x hex hlk hW hS hce hcv hcl (Nat.le_of_ble_eq_true rfl) (Nat.le_of_ble_eq_true rfl) (⟨hpx.1, Or.inl hpx.2⟩)) (fun v w' H locs hp hW hS => ?_)
  obtain ⟨rfl, rfl, key, hk, rfl⟩ := hp
  refine lv_iload_n hx hb dX2_put_4 rfl (lv_at hl 2 rfl) ?_
  refine kc_S 1 (c_X2_checkValue l G A ad dm ct hst y) F hE hW hS kw_360 kw_361 kw_1 kw_362 (by decide +kernel) rfl ⟨rfl, rfl⟩ ⟨Nat.le_of_ble_eq_true rfl, Nat.le_of_ble_eq_true rfl⟩ hl.1 rfl (Nat.le_of_ble_eq_true rfl) dX2_put_5 ⟨Nat.le_of_ble_eq_true rfl, Nat.le_of_ble_eq_true rfl⟩ (fun E q9 ce H locs hpx hW hS hce hcv hcl => kr_x hex hlk hW hS hce hcv hcl (Nat.le_of_ble_eq_true rfl) (Nat.le_of_ble_eq_true rfl) (⟨hpx.1, Or.inr hpx.2⟩)) (fun v w' H locs hp hW hS => ?_)
  obtain ⟨rfl, rfl, u, hu, rfl⟩ := hp
  have hAt := dnF_at hP hk 2000 rt (vp_root (key := key) (lvl := 0) hP (Nat.zero_le _)) (by have := mu_root hP hb9; omega)
  obtain ⟨pz, hpz⟩ : ∃ z, (dnF lev hi ri sz ky vl key 0 2000 rt).1 = z := ⟨_, rfl⟩
  rw [hpz] at hAt
  obtain ⟨u1, u2, u3, u4, u5, u6⟩ := pg_bd hP hb9 hAt.1.1
  refine lv_aload_n hx hb dX2_put_8 rfl (lv_at hl 0 rfl) ?_
  refine lv_iload_n hx hb dX2_put_9 rfl (lv_at hl 1 rfl) ?_
  refine lv_iconst (v := nI 0) hx hb dX2_put_10 (by decide) ?_
  refine kc_V 2 (c_X2_goDown l G A ad dm ct lv lev lo hi ri sz ky vl go rt ep wq wn cn op cl ca ce kc nb hH 800 key 0 hP hb9 hk (Nat.zero_le _)) F hE hW hS (0, 0) hH.1.1 hH.2.1 rfl [.int (nI key), .int (nI 0)] rfl kw_179 kw_181 kp_5 kw_1 kw_182 (by decide +kernel) rfl ⟨rfl, rfl⟩ ⟨Nat.le_of_ble_eq_true rfl, Nat.le_of_ble_eq_true rfl⟩ hl.1 rfl (Nat.le_of_ble_eq_true rfl) dX2_put_11 ⟨Nat.le_of_ble_eq_true rfl, Nat.le_of_ble_eq_true rfl⟩ (fun _ _ _ _ _ h => h.elim) (fun v w' H locs hp hW hS => ?_)
  rw [hpz] at hp
  obtain ⟨rfl, rfl⟩ := hp
  obtain ⟨kf1, vf1, cf1, ta1, hPp1, hCp1, hTp1⟩ := hH.2.2.2.2.2.2.1 pz hAt.1.1
  refine lv_astore_n (lv' := [(3, .ref (ad (1, pz))), (0, .ref (ad (0, 0))), (1, .int (nI key)), (2, .int (nI u))]) hx hb dX2_put_14 rfl hl (by decide) rfl (fun ls hl => ?_)
  refine lv_aload_n hx hb dX2_put_15 rfl (lv_at hl 0 rfl) ?_
  refine lv_iload_n hx hb dX2_put_16 rfl (lv_at hl 2 rfl) ?_
  refine kc_V 1 (c_X1_placeOf l G A ad dm ct pz (lev pz) (lo pz) (sz pz) (hi pz) (rA ad ri pz) (dI go pz) ta1 kf1 vf1 cf1 hPp1 u5 (nI key)) F hE hW hS (1, pz) hPp1.1.1 hPp1.2.1 rfl [.int (nI key)] rfl kw_364 kw_365 kw_366 kw_5 kw_367 (by decide +kernel) rfl ⟨rfl, rfl⟩ ⟨Nat.le_of_ble_eq_true rfl, Nat.le_of_ble_eq_true rfl⟩ hl.1 rfl (Nat.le_of_ble_eq_true rfl) dX2_put_17 ⟨Nat.le_of_ble_eq_true rfl, Nat.le_of_ble_eq_true rfl⟩ (fun _ _ _ _ _ h => h.elim) (fun v w' H locs hp hW hS => ?_)
  obtain ⟨rfl, hp⟩ := hp
  rcases pl_fnd hP hAt.1.1 hCp1 hk hp with ⟨j, hj, hfn, rfl⟩ | ⟨hfn, hno, rfl⟩
  · refine lv_istore (lv' := [(4, .int (nI j)), (3, .ref (ad (1, pz))), (0, .ref (ad (0, 0))), (1, .int (nI key)), (2, .int (nI u))]) hx hb dX2_put_20 hl (by decide) rfl (fun ls hl => ?_)
    refine lv_iload hx hb dX2_put_22 (lv_at hl 0 rfl) ?_
    refine lv_iconst (v := (-1)) hx hb dX2_put_24 (by decide) ?_
    refine lv_icmp_eq (tgt := 36) hx hb dX2_put_25 (by decide) (fun c2 => ?_) (fun c2 => ?_)
    · exact absurd c2 (nI_neg (by omega))
    · refine lv_aload_n hx hb dX2_put_28 rfl (lv_at hl 1 rfl) ?_
      refine lv_iload hx hb dX2_put_29 (lv_at hl 0 rfl) ?_
      refine lv_iload_n hx hb dX2_put_31 rfl (lv_at hl 4 rfl) ?_
      refine kc_V 2 (c_X1_changeValue l G A ad dm ct pz (lev pz) (lo pz) (sz pz) (hi pz) (rA ad ri pz) (dI go pz) ta1 kf1 vf1 cf1 hPp1 u5 j hj (nI u)) F hE hW hS (1, pz) hPp1.1.1 hPp1.2.1 rfl [.int (nI j), .int (nI u)] rfl kw_368 kw_369 kw_370 kw_5 kw_371 (by decide +kernel) rfl ⟨rfl, rfl⟩ ⟨Nat.le_of_ble_eq_true rfl, Nat.le_of_ble_eq_true rfl⟩ hl.1 rfl (Nat.le_of_ble_eq_true rfl) dX2_put_32 ⟨Nat.le_of_ble_eq_true rfl, Nat.le_of_ble_eq_true rfl⟩ (fun _ _ _ _ _ h => h.elim) (fun v w' H locs hp hW hS => ?_)
      obtain ⟨ct2, rfl, rfl, hPG, hX⟩ := hp
      obtain ⟨-, -, hvj⟩ : True ∧ True ∧ vf1 j = nI (vl (5 * pz + j)) := ⟨trivial, trivial, ((hCp1 j hj).2.1 hAt.2.1).1⟩
      have hH2 : HKF G ad dm ct2 lv lev lo hi ri sz ky (va_up vl (5 * pz + j) u) go rt ep wq wn cn op cl ca ce kc nb := hH.page (hi2 := hi) (ri2 := ri) (sz2 := sz) (ky2 := ky) (vl2 := va_up vl (5 * pz + j) u) (go2 := go) hX (fun n hn hne => ⟨rfl, rfl, rfl, rfl, fun k hk9 => ⟨rfl, va_up_ne _ _ (by have := pgi_s5 hP hn; omega)⟩⟩) ⟨kf1, va_up vf1 j (nI u), cf1, ta1, hPG, fun k hk9 => ⟨(hCp1 k hk9).1, fun h => ⟨by by_cases e : k = j; rw [e, va_up_self, va_up_self]; rw [va_up_ne _ _ e, va_up_ne _ _ (by omega)]; exact ((hCp1 k hk9).2.1 h).1, ((hCp1 k hk9).2.1 h).2⟩, fun h => by omega⟩, hTp1⟩
      rw [hvj]
      exact kr_i F hr hlk hE hW hS (Nat.le_of_ble_eq_true rfl) (Nat.le_of_ble_eq_true rfl) dX2_put_35 (⟨_, _, _, rfl, FH.page hX, key, hk, rfl, u, hu, rfl, by unfold putS; dsimp only; rw [hpz, hfn]; exact hH2, by unfold putS; dsimp only; rw [hpz, hfn]; rfl⟩)
  · refine lv_istore (lv' := [(4, .int (-1)), (3, .ref (ad (1, pz))), (0, .ref (ad (0, 0))), (1, .int (nI key)), (2, .int (nI u))]) hx hb dX2_put_20 hl (by decide) rfl (fun ls hl => ?_)
    refine lv_iload hx hb dX2_put_22 (lv_at hl 0 rfl) ?_
    refine lv_iconst (v := (-1)) hx hb dX2_put_24 (by decide) ?_
    refine lv_icmp_eq (tgt := 36) hx hb dX2_put_25 (by decide) (fun c2 => ?_) (fun c2 => ?_)
    · have hnb1 := (hP.1 0 hP.2.2.2.2.2.2.2.2.1.1.1).1
      refine lv_aload_n hx hb dX2_put_36 rfl (lv_at hl 2 rfl) ?_
      refine lv_aload_n hx hb dX2_put_37 rfl (lv_at hl 1 rfl) ?_
      refine lv_iload_n hx hb dX2_put_38 rfl (lv_at hl 3 rfl) ?_
      refine lv_iload_n hx hb dX2_put_39 rfl (lv_at hl 4 rfl) ?_
      refine lv_null hx hb dX2_put_40 ?_
      refine kc_V 4 (c_X2_addToN l G A ad dm ct lv lev lo hi ri sz ky vl go rt ep wq wn cn op cl ca ce kc nb hH pz key u t0 hP hb9 hAt.1 hAt.2.2.1 hAt.2.2.2 hno hu (by omega) (fun j hj => (hQ j hj).1.1) (fun c8 h8 ho8 => ((hCu.2 c8 h8).2.2 ho8).1) hP.2.2.2.2.2.2.2.2.1.1.1 hP.2.2.2.2.2.2.2.1.1.1 hAt.2.1) F hE hW hS (0, 0) hH.1.1 hH.2.1 rfl [.ref (ad (1, pz)), .int (nI key), .int (nI u), .null] rfl kw_195 kw_197 kp_6 kw_1 kw_198 (by decide +kernel) rfl ⟨rfl, rfl⟩ ⟨Nat.le_of_ble_eq_true rfl, Nat.le_of_ble_eq_true rfl⟩ hl.1 rfl (Nat.le_of_ble_eq_true rfl) dX2_put_41 ⟨Nat.le_of_ble_eq_true rfl, Nat.le_of_ble_eq_true rfl⟩ (fun _ _ _ _ _ h => h.elim) (fun v w' H locs hp hW hS => ?_)
      obtain ⟨ad5, dm5, ct5, rfl, hF, hK, rfl⟩ := hp
      have hkn : kcN (addS (lv, lev, lo, hi, ri, sz, ky, vl, go, rt, ep, wq, wn, cn, op, cl, ca, ce, kc, nb) pz key u) = kc := kcN_add
      obtain ⟨S9, hS9⟩ : ∃ S9, S9 = addS (lv, lev, lo, hi, ri, sz, ky, vl, go, rt, ep, wq, wn, cn, op, cl, ca, ce, kc, nb) pz key u := ⟨_, rfl⟩
      rw [← hS9] at hK hkn
      obtain ⟨hd0, hO0⟩ := hK.o0
      rw [hkn] at hO0
      refine nz_eq (tgt := 57) hx hb dX2_put_44 (by decide) (by decide) (fun c9 => ?_) (fun c9 => ?_)
      · exact absurd c9 (by decide)
      · refine lv_aload_n hx hb dX2_put_47 rfl (lv_at hl 2 rfl) ?_
        refine lv_dup hx hb dX2_put_48 rfl ?_
        refine kg F hE hW (0, 0) hd0 hF.2 hO0 rfl inA_X2 5 (by decide) kw_110 (v := .int (nI kc)) rfl dX2_put_49 ?_
        refine lv_iconst (v := nI 1) hx hb dX2_put_52 (by decide) ?_
        refine lv_iadd hx hb dX2_put_53 ?_
        refine ktop (nI_add _ _) ?_
        refine kp F hE hW hS (0, 0) hd0 hF.2 hO0 rfl inA_X2 tyX2 tyX2_ok nmX2 5 (by decide) kw_110 rfl rfl rfl (Nat.le_of_ble_eq_true rfl) dX2_put_54 (fun ct81 H locs hW hc81 hf81 hS => ?_)
        refine lv_iconst (v := (-1)) hx hb dX2_put_57 (by decide) ?_
        have hKK := hK.setkc hc81 hf81
        rw [hS9] at hKK
        exact kr_i F hr hlk hE hW hS (Nat.le_of_ble_eq_true rfl) (Nat.le_of_ble_eq_true rfl) dX2_put_58 (⟨_, _, _, rfl, hF.tr (FH.put (x := (0, 0)) (by decide) hf81), key, hk, rfl, u, hu, rfl, by unfold putS; dsimp only; rw [hpz, hfn]; exact hKK, by unfold putS; dsimp only; rw [hpz, hfn]; rfl⟩)
    · exact absurd rfl c2
set_option maxRecDepth 100000 in
set_option maxHeartbeats 4000000 in
theorem c_X2_take (l : Launch) (G : GG) (A : Nat → Prop) (ad : Lb → Nat) (dm : Lb → Prop) (ct : Lb → va_E) (lv : Nat → Bool) (lev : Nat → Nat) (lo : Nat → Nat) (hi : Nat → Nat) (ri : Nat → Option Nat) (sz : Nat → Nat) (ky : Nat → Nat) (vl : Nat → Nat) (go : Nat → Option Nat) (rt : Nat) (ep : Nat) (wq : Nat → Nat) (wn : Nat) (cn : Nat) (op : Nat → Bool) (cl : Nat → Nat) (ca : Nat → Nat) (ce : Nat → Nat) (kc : Nat) (nb : Nat) (hst : l.stackTraces = false) (hH : HKF G ad dm ct lv lev lo hi ri sz ky vl go rt ep wq wn cn op cl ca ce kc nb) (t0 : Nat) (hI : InvF lv lev lo hi ri sz ky vl go rt ep wq wn cn op cl ca ce kc nb 800 t0) (x : Int32) :
    CT l yX2_take cX2_take 5 (some FieldType.int) { frames := 7, cells := 1, slots := 6, locals := 120 } [.ref (ad (0, 0)), .int x] G A (ad, dm, ct) (fun v w' => ∃ ad' dm' ct', w' = (ad', dm', ct') ∧ FH ad dm ct ad' dm' ct' ∧ ∃ key, key < 200 ∧ x = nI key ∧ HK G ad' dm' ct' (takS (lv, lev, lo, hi, ri, sz, ky, vl, go, rt, ep, wq, wn, cn, op, cl, ca, ce, kc, nb) key).1 ∧ v = some (.int (oI (takS (lv, lev, lo, hi, ri, sz, ky, vl, go, rt, ep, wq, wn, cn, op, cl, ca, ce, kc, nb) key).2))) (fun E => E = "java/lang/IllegalArgumentException" ∧ ∀ k, k < 200 → x ≠ nI k) (1) (6) := by
  refine ct_of (by decide) (Nat.le_of_ble_eq_true rfl) ?_
  intro p e s m below meth c ls F hr hlk hnm hex hE hW hl
  have hx := F.1
  have hb := F.2.1
  have hS : va_S A s.heap s.heap [] := va_S.rf
  have hl : lv_has ls 5 [(0, .ref (ad (0, 0))), (1, .int x)] := hl
  have hI0 := hI
  obtain ⟨hP, hQ, hCu, hkc, hsum, ht, hep, hkt⟩ := hI
  have hb9 : nb ≤ 513 := by omega
  have hwn9 : wn ≤ 513 := by omega
  obtain ⟨hfr1, hfr2, hfr3⟩ := fr_spec hP hb9
  refine lv_iload_n hx hb dX2_take_0 rfl (lv_at hl 1 rfl) ?_
  refine kc_S 1 (c_X2_checkKey l G A ad dm ct hst x) F hE hW hS kw_289 kw_290 kw_1 kw_291 (by decide +kernel) rfl ⟨rfl, rfl⟩ ⟨Nat.le_of_ble_eq_true rfl, Nat.le_of_ble_eq_true rfl⟩ hl.1 rfl (Nat.le_of_ble_eq_true rfl) dX2_take_1 ⟨Nat.le_of_ble_eq_true rfl, Nat.le_of_ble_eq_true rfl⟩ (fun E q9 ce H locs hpx hW hS hce hcv hcl => kr_x hex hlk hW hS hce hcv hcl (Nat.le_of_ble_eq_true rfl) (Nat.le_of_ble_eq_true rfl) (hpx)) (fun v w' H locs hp hW hS => ?_)
  obtain ⟨rfl, rfl, key, hk, rfl⟩ := hp
  have hAt := dnF_at hP hk 2000 rt (vp_root (key := key) (lvl := 0) hP (Nat.zero_le _)) (by have := mu_root hP hb9; omega)
  obtain ⟨pz, hpz⟩ : ∃ z, (dnF lev hi ri sz ky vl key 0 2000 rt).1 = z := ⟨_, rfl⟩
  rw [hpz] at hAt
  obtain ⟨u1, u2, u3, u4, u5, u6⟩ := pg_bd hP hb9 hAt.1.1
  refine lv_aload_n hx hb dX2_take_4 rfl (lv_at hl 0 rfl) ?_
  refine lv_iload_n hx hb dX2_take_5 rfl (lv_at hl 1 rfl) ?_
  refine lv_iconst (v := nI 0) hx hb dX2_take_6 (by decide) ?_
  refine kc_V 2 (c_X2_goDown l G A ad dm ct lv lev lo hi ri sz ky vl go rt ep wq wn cn op cl ca ce kc nb hH 800 key 0 hP hb9 hk (Nat.zero_le _)) F hE hW hS (0, 0) hH.1.1 hH.2.1 rfl [.int (nI key), .int (nI 0)] rfl kw_179 kw_181 kp_5 kw_1 kw_182 (by decide +kernel) rfl ⟨rfl, rfl⟩ ⟨Nat.le_of_ble_eq_true rfl, Nat.le_of_ble_eq_true rfl⟩ hl.1 rfl (Nat.le_of_ble_eq_true rfl) dX2_take_7 ⟨Nat.le_of_ble_eq_true rfl, Nat.le_of_ble_eq_true rfl⟩ (fun _ _ _ _ _ h => h.elim) (fun v w' H locs hp hW hS => ?_)
  rw [hpz] at hp
  obtain ⟨rfl, rfl⟩ := hp
  obtain ⟨kf1, vf1, cf1, ta1, hPp1, hCp1, hTp1⟩ := hH.2.2.2.2.2.2.1 pz hAt.1.1
  refine lv_astore_n (lv' := [(2, .ref (ad (1, pz))), (0, .ref (ad (0, 0))), (1, .int (nI key))]) hx hb dX2_take_10 rfl hl (by decide) rfl (fun ls hl => ?_)
  refine lv_aload_n hx hb dX2_take_11 rfl (lv_at hl 0 rfl) ?_
  refine lv_iload_n hx hb dX2_take_12 rfl (lv_at hl 2 rfl) ?_
  refine kc_V 1 (c_X1_placeOf l G A ad dm ct pz (lev pz) (lo pz) (sz pz) (hi pz) (rA ad ri pz) (dI go pz) ta1 kf1 vf1 cf1 hPp1 u5 (nI key)) F hE hW hS (1, pz) hPp1.1.1 hPp1.2.1 rfl [.int (nI key)] rfl kw_364 kw_365 kw_366 kw_5 kw_367 (by decide +kernel) rfl ⟨rfl, rfl⟩ ⟨Nat.le_of_ble_eq_true rfl, Nat.le_of_ble_eq_true rfl⟩ hl.1 rfl (Nat.le_of_ble_eq_true rfl) dX2_take_13 ⟨Nat.le_of_ble_eq_true rfl, Nat.le_of_ble_eq_true rfl⟩ (fun _ _ _ _ _ h => h.elim) (fun v w' H locs hp hW hS => ?_)
  obtain ⟨rfl, hp⟩ := hp
  rcases pl_fnd hP hAt.1.1 hCp1 hk hp with ⟨j, hj, hfn, rfl⟩ | ⟨hfn, hno, rfl⟩
  · refine lv_istore_n (lv' := [(3, .int (nI j)), (2, .ref (ad (1, pz))), (0, .ref (ad (0, 0))), (1, .int (nI key))]) hx hb dX2_take_16 rfl hl (by decide) rfl (fun ls hl => ?_)
    refine lv_iload_n hx hb dX2_take_17 rfl (lv_at hl 0 rfl) ?_
    refine lv_iconst (v := (-1)) hx hb dX2_take_18 (by decide) ?_
    refine lv_icmp_ne (tgt := 24) hx hb dX2_take_19 (by decide) (fun c2 => ?_) (fun c2 => ?_)
    · refine lv_aload_n hx hb dX2_take_24 rfl (lv_at hl 1 rfl) ?_
      refine lv_iload_n hx hb dX2_take_25 rfl (lv_at hl 0 rfl) ?_
      refine kc_V 1 (c_X1_valueIn l G A ad dm ct pz (lev pz) (lo pz) (sz pz) (hi pz) (rA ad ri pz) (dI go pz) ta1 kf1 vf1 cf1 hPp1 u5 (nI j)) F hE hW hS (1, pz) hPp1.1.1 hPp1.2.1 rfl [.int (nI j)] rfl kw_376 kw_377 kw_378 kw_5 kw_379 (by decide +kernel) rfl ⟨rfl, rfl⟩ ⟨Nat.le_of_ble_eq_true rfl, Nat.le_of_ble_eq_true rfl⟩ hl.1 rfl (Nat.le_of_ble_eq_true rfl) dX2_take_26 ⟨Nat.le_of_ble_eq_true rfl, Nat.le_of_ble_eq_true rfl⟩ (fun _ _ _ _ _ h => h.elim) (fun v w' H locs hp hW hS => ?_)
      obtain ⟨rfl, ⟨i9, hi9, he9, rfl⟩ | ⟨rfl, hno⟩⟩ := hp
      · obtain rfl : j = i9 := nI_inj (by omega) (by omega) he9
        rw [((hCp1 j hj).2.1 hAt.2.1).1]
        refine lv_istore (lv' := [(4, .int (nI (vl (5 * pz + j)))), (3, .int (nI j)), (2, .ref (ad (1, pz))), (0, .ref (ad (0, 0))), (1, .int (nI key))]) hx hb dX2_take_29 hl (by decide) rfl (fun ls hl => ?_)
        refine lv_aload_n hx hb dX2_take_31 rfl (lv_at hl 2 rfl) ?_
        refine lv_iload_n hx hb dX2_take_32 rfl (lv_at hl 1 rfl) ?_
        refine kc_V 1 (c_X1_removeFrom l G A ad dm ct pz (lev pz) (lo pz) (sz pz) (hi pz) (rA ad ri pz) (dI go pz) ta1 kf1 vf1 cf1 hPp1 u5 j hj (ch_pg hH hP hAt.1 hCp1)) F hE hW hS (1, pz) hPp1.1.1 hPp1.2.1 rfl [.int (nI j)] rfl kw_380 kw_381 kw_382 kw_5 kw_383 (by decide +kernel) rfl ⟨rfl, rfl⟩ ⟨Nat.le_of_ble_eq_true rfl, Nat.le_of_ble_eq_true rfl⟩ hl.1 rfl (Nat.le_of_ble_eq_true rfl) dX2_take_33 ⟨Nat.le_of_ble_eq_true rfl, Nat.le_of_ble_eq_true rfl⟩ (fun _ _ _ _ _ h => h.elim) (fun v w' H locs hp hW hS => ?_)
        obtain ⟨ct2, rfl, rfl, kf9, vf9, cf9, hPG, hX, hD1, hD2, hD3⟩ := hp
        have hH2 := hH.del hP hb9 hAt.1.1 hCp1 hTp1 hj hPG hX hD1 hD2 hD3
        have hkp : 1 ≤ kc := by
          have h1 := sumN_ge (n := 800) (f := kcF lv lev sz) (k := pz) (by omega)
          rw [kc_at hAt.1.1, if_pos hAt.2.1, ← hkc] at h1
          omega
        refine lv_aload_n hx hb dX2_take_36 rfl (lv_at hl 3 rfl) ?_
        refine lv_dup hx hb dX2_take_37 rfl ?_
        refine kg F hE hW (0, 0) hH2.1.1 rfl hH2.2.1 rfl inA_X2 5 (by decide) kw_110 (v := .int (nI kc)) rfl dX2_take_38 ?_
        refine lv_iconst (v := nI 1) hx hb dX2_take_41 (by decide) ?_
        refine lv_isub hx hb dX2_take_42 ?_
        refine ktop (pk_sub (by omega)) ?_
        refine kp F hE hW hS (0, 0) hH2.1.1 rfl hH2.2.1 rfl inA_X2 tyX2 tyX2_ok nmX2 5 (by decide) kw_110 rfl rfl rfl (Nat.le_of_ble_eq_true rfl) dX2_take_43 (fun ct81 H locs hW hc81 hf81 hS => ?_)
        refine lv_iload hx hb dX2_take_46 (lv_at hl 0 rfl) ?_
        have hKK := hH2.obj hc81 hf81
        exact kr_i F hr hlk hE hW hS (Nat.le_of_ble_eq_true rfl) (Nat.le_of_ble_eq_true rfl) dX2_take_48 (⟨_, _, _, rfl, (FH.page hX).tr (FH.put (x := (0, 0)) (by decide) hf81), key, hk, rfl, by unfold takS; dsimp only; rw [hpz, hfn]; exact hKK, by unfold takS; dsimp only; rw [hpz, hfn]; rfl⟩)
      · exact absurd rfl (hno j hj)
    · exact absurd c2 (nI_neg (by omega))
  · refine lv_istore_n (lv' := [(3, .int (-1)), (2, .ref (ad (1, pz))), (0, .ref (ad (0, 0))), (1, .int (nI key))]) hx hb dX2_take_16 rfl hl (by decide) rfl (fun ls hl => ?_)
    refine lv_iload_n hx hb dX2_take_17 rfl (lv_at hl 0 rfl) ?_
    refine lv_iconst (v := (-1)) hx hb dX2_take_18 (by decide) ?_
    refine lv_icmp_ne (tgt := 24) hx hb dX2_take_19 (by decide) (fun c2 => ?_) (fun c2 => ?_)
    · exact absurd rfl c2
    · refine lv_iconst (v := (-1)) hx hb dX2_take_22 (by decide) ?_
      exact kr_i F hr hlk hE hW hS (Nat.le_of_ble_eq_true rfl) (Nat.le_of_ble_eq_true rfl) dX2_take_23 (⟨_, _, _, rfl, FH.rf, key, hk, rfl, by unfold takS; dsimp only; rw [hpz, hfn]; exact hH, by unfold takS; dsimp only; rw [hpz, hfn]; rfl⟩)
