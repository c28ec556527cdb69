/-! The reference: the calls on keys and splits. -/
theorem MDF.kc {G : GG} {ad : Lb → Nat} {dm : Lb → Prop} {ct : Lb → va_E} {lv : Nat → Bool} {lev lo hi : Nat → Nat} {ri : Nat → Option Nat} {sz ky vl : Nat → Nat} {go : Nat → Option Nat} {rt ep : Nat} {wq : Nat → Nat} {wn cn : Nat} {op : Nat → Bool} {cl ca ce : Nat → Nat} {kc nb : Nat} {th fo k2 n2 : Nat} (h : MDF G ad dm ct lv lev lo hi ri sz ky vl go rt ep wq wn cn op cl ca ce kc nb th fo) : MDF G ad dm ct lv lev lo hi ri sz ky vl go rt ep wq wn cn op cl ca ce k2 n2 th fo := by
  unfold MDF at h ⊢
  exact h
theorem MD.kc {G : GG} {ad : Lb → Nat} {dm : Lb → Prop} {ct : Lb → va_E} {th fo n2 : Nat} : ∀ {s : SG}, MD G ad dm ct s th fo → MD G ad dm ct (kcS s n2) th fo
  | (lv, lev, lo, hi, ri, sz, ky, vl, go, rt, ep, wq, wn, cn, op, cl, ca, ce, kc, nb), h => by
    unfold kcS
    unfold MD at h ⊢
    exact MDF.kc h
set_option maxRecDepth 100000 in
set_option maxHeartbeats 4000000 in
theorem c_X3_valueOf (l : Launch) (G : GG) (A : Nat → Prop) (ad : Lb → Nat) (dm : Lb → Prop) (ct0 : Lb → va_E) (lv : Nat → Bool) (lev : Nat → Nat) (lo : Nat → Nat) (hi : Nat → Nat) (ri : Nat → Option Nat) (sz : Nat → Nat) (ky : Nat → Nat) (vl : Nat → Nat) (go : Nat → Option Nat) (rt : Nat) (ep : Nat) (wq : Nat → Nat) (wn : Nat) (cn : Nat) (op : Nat → Bool) (cl : Nat → Nat) (ca : Nat → Nat) (ce : Nat → Nat) (kc : Nat) (nb : Nat) (th fo : Nat) (hM : MDF G ad dm ct0 lv lev lo hi ri sz ky vl go rt ep wq wn cn op cl ca ce kc nb th fo) (t0 k : Nat) (hI : InvF lv lev lo hi ri sz ky vl go rt ep wq wn cn op cl ca ce kc nb 800 t0) (hk : k < 200) :
    CT l yX3_valueOf cX3_valueOf 4 (some FieldType.int) { frames := 2, cells := 0, slots := 0, locals := 48 } [.ref (ad (10, 0)), .int (nI k)] G A (ad, dm, ct0) (fun v w' => ∃ ct' fo', w' = (ad, dm, ct') ∧ MDF G ad dm ct' lv lev lo hi ri sz ky vl go rt ep wq wn cn op cl ca ce kc nb th fo' ∧ XM ct0 ct' ∧ v = some (.int (oI (getS (lv, lev, lo, hi, ri, sz, ky, vl, go, rt, ep, wq, wn, cn, op, cl, ca, ce, kc, nb) k)))) (fun _ => False) (0) (0) := by
  refine ct_of (by decide) (Nat.le_of_ble_eq_true rfl) ?_
  intro p e s m below meth c ls F hr hlk hnm hex hE hW hl
  have hx := F.1
  have hb := F.2.1
  have hS : va_S A s.heap s.heap [] := va_S.rf
  have hl : lv_has ls 4 [(0, .ref (ad (10, 0))), (1, .int (nI k))] := hl
  have hX : XM ct0 ct0 := XM.rf
  have hI0 := hI
  obtain ⟨hP, hQ, hCu, hkc, hsum, ht, hep, hkt⟩ := hI
  have hb9 : nb ≤ 513 := by omega
  have hwn9 : wn ≤ 513 := by omega
  obtain ⟨hfr1, hfr2, hfr3⟩ := fr_spec hP hb9
  have hAt := dnF_at hP hk 2000 rt (vp_root (key := k) (lvl := 0) hP (Nat.zero_le _)) (by have := mu_root hP hb9; omega)
  obtain ⟨pz, hpz⟩ : ∃ z, (dnF lev hi ri sz ky vl k 0 2000 rt).1 = z := ⟨_, rfl⟩
  rw [hpz] at hAt
  obtain ⟨u1, u2, u3, u4, u5, u6⟩ := pg_bd hP hb9 hAt.1.1
  have u7 : sz pz ≤ 4 := by have := (hP.1 pz hAt.1.1).2.2.2.2; rw [if_neg (by omega)] at this; exact this
  have hcl := cnt_le (sz pz) (pk ky pz) (k + 1)
  refine lv_aload_n hx hb dX3_valueOf_0 rfl (lv_at hl 0 rfl) ?_
  refine lv_iload_n hx hb dX3_valueOf_1 rfl (lv_at hl 1 rfl) ?_
  refine lv_iconst (v := nI 0) hx hb dX3_valueOf_2 (by decide) ?_
  refine kc_V 2 (c_X3_down l G A ad dm ct0 lv lev lo hi ri sz ky vl go rt ep wq wn cn op cl ca ce kc nb th fo hM 800 k 0 hP hb9 hk (Nat.zero_le _)) F hE hW hS (10, 0) (hM.1 0 (by decide)) hM.2.1 rfl [.int (nI k), .int (nI 0)] rfl kw_686 kw_688 kp_17 kw_6 kw_689 (by decide +kernel) rfl ⟨rfl, rfl⟩ ⟨Nat.le_of_ble_eq_true rfl, Nat.le_of_ble_eq_true rfl⟩ hl.1 rfl (Nat.le_of_ble_eq_true rfl) dX3_valueOf_3 ⟨Nat.le_of_ble_eq_true rfl, Nat.le_of_ble_eq_true rfl⟩ (fun _ _ _ _ _ h => h.elim) (fun v w' H locs hp hW hS => ?_)
  obtain ⟨ct2, rfl, hM, hX0, rfl⟩ := hp
  have hX := hX.tr hX0
  rw [hpz]
  refine lv_istore_n (lv' := [(2, .int (nI pz)), (0, .ref (ad (10, 0))), (1, .int (nI k))]) hx hb dX3_valueOf_6 rfl hl (by decide) rfl (fun ls hl => ?_)
  refine lv_aload_n hx hb dX3_valueOf_7 rfl (lv_at hl 1 rfl) ?_
  refine lv_iload_n hx hb dX3_valueOf_8 rfl (lv_at hl 0 rfl) ?_
  refine lv_iload_n hx hb dX3_valueOf_9 rfl (lv_at hl 2 rfl) ?_
  refine kc_V 2 (c_X3_place l G A ad dm ct2 lv lev lo hi ri sz ky vl go rt ep wq wn cn op cl ca ce kc nb th ((dnF lev hi ri sz ky vl k 0 2000 rt).2) hM pz (k + 1) (nI k) (by omega) u5 (lI_s k).symm (by omega) (fun i hi9 => by have := (u6 i hi9).1; omega)) F hE hW hS (10, 0) (hM.1 0 (by decide)) hM.2.1 rfl [.int (nI pz), .int (nI k)] rfl kw_690 kw_692 kp_18 kw_6 kw_693 (by decide +kernel) rfl ⟨rfl, rfl⟩ ⟨Nat.le_of_ble_eq_true rfl, Nat.le_of_ble_eq_true rfl⟩ hl.1 rfl (Nat.le_of_ble_eq_true rfl) dX3_valueOf_10 ⟨Nat.le_of_ble_eq_true rfl, Nat.le_of_ble_eq_true rfl⟩ (fun _ _ _ _ _ h => h.elim) (fun v w' H locs hp hW hS => ?_)
  obtain ⟨rfl, rfl⟩ := hp
  refine lv_istore_n (lv' := [(3, .int (lI (cnt (sz pz) (pk ky pz) (k + 1)))), (2, .int (nI pz)), (0, .ref (ad (10, 0))), (1, .int (nI k))]) hx hb dX3_valueOf_13 rfl hl (by decide) rfl (fun ls hl => ?_)
  refine lv_aload_n hx hb dX3_valueOf_14 rfl (lv_at hl 2 rfl) ?_
  refine lv_iload_n hx hb dX3_valueOf_15 rfl (lv_at hl 1 rfl) ?_
  refine lv_iload_n hx hb dX3_valueOf_16 rfl (lv_at hl 0 rfl) ?_
  refine lv_iload_n hx hb dX3_valueOf_17 rfl (lv_at hl 3 rfl) ?_
  have hkyb : ky (5 * pz + (cnt (sz pz) (pk ky pz) (k + 1) - 1)) < 2 ^ 30 ∨ cnt (sz pz) (pk ky pz) (k + 1) = 0 := by
    rcases Nat.eq_zero_or_pos (cnt (sz pz) (pk ky pz) (k + 1)) with h | h
    · exact Or.inr h
    · have := (u6 (cnt (sz pz) (pk ky pz) (k + 1) - 1) (by omega)).1; exact Or.inl (by omega)
  refine kc_V 3 (c_X3_hasKey l G A ad dm ct2 lv lev lo hi ri sz ky vl go rt ep wq wn cn op cl ca ce kc nb th ((dnF lev hi ri sz ky vl k 0 2000 rt).2) hM pz (cnt (sz pz) (pk ky pz) (k + 1)) k (by omega) (by omega) (by omega) hkyb) F hE hW hS (10, 0) (hM.1 0 (by decide)) hM.2.1 rfl [.int (nI pz), .int (lI (cnt (sz pz) (pk ky pz) (k + 1))), .int (nI k)] rfl kw_694 kw_696 kp_19 kw_6 kw_697 (by decide +kernel) rfl ⟨rfl, rfl⟩ ⟨Nat.le_of_ble_eq_true rfl, Nat.le_of_ble_eq_true rfl⟩ hl.1 rfl (Nat.le_of_ble_eq_true rfl) dX3_valueOf_18 ⟨Nat.le_of_ble_eq_true rfl, Nat.le_of_ble_eq_true rfl⟩ (fun _ _ _ _ _ h => h.elim) (fun v w' H locs hp hW hS => ?_)
  obtain ⟨rfl, ⟨hq0, hqk, rfl⟩ | ⟨hq0, rfl⟩⟩ := hp
  · have hfn : fnd sz ky pz k = some (cnt (sz pz) (pk ky pz) (k + 1) - 1) := if_pos ⟨hq0, hqk⟩
    refine nz_eq (tgt := 37) hx hb dX3_valueOf_21 (by decide) (by decide) (fun c2 => ?_) (fun c2 => ?_)
    · exact absurd c2 (by decide)
    · have hl2 := lI_p hq0
      rw [hl2] at hl
      refine lv_aload_n hx hb dX3_valueOf_24 rfl (lv_at hl 2 rfl) ?_
      refine kg F hE hW (10, 0) (hM.1 0 (by decide)) rfl hM.2.1 rfl inA_X3 8 (by decide) kw_614 (v := .ref (ad (10, 8))) rfl dX3_valueOf_25 ?_
      refine lv_iconst (v := nI 5) hx hb dX3_valueOf_28 (by decide) ?_
      refine lv_iload_n hx hb dX3_valueOf_29 rfl (lv_at hl 1 rfl) ?_
      refine lv_imul hx hb dX3_valueOf_30 ?_
      refine ktop (pk_mul _ _) ?_
      refine lv_iload_n hx hb dX3_valueOf_31 rfl (lv_at hl 0 rfl) ?_
      refine lv_iadd hx hb dX3_valueOf_32 ?_
      refine ktop (nI_add _ _) ?_
      refine kl_i F hE hW (10, 8) (hM.1 8 (by decide)) rfl hM.2.2.2.2.2.2.2.2.2.1 ((5 * pz) + (cnt (sz pz) (pk ky pz) (k + 1) - 1)) rfl (by omega) (by decide) dX3_valueOf_33 ?_
      refine lv_goto (tgt := 38) hx hb dX3_valueOf_34 (by decide) ?_
      exact kr_i F hr hlk hE hW hS (Nat.le_of_ble_eq_true rfl) (Nat.le_of_ble_eq_true rfl) dX3_valueOf_38 (⟨_, _, rfl, hM, hX, by unfold getS; dsimp only; rw [hpz, hfn]; rfl⟩)
  · have hfn : fnd sz ky pz k = none := if_neg (fun h => by rcases hq0 with h2 | h2; exact absurd h.1 (by omega); exact h2 h.2)
    refine nz_eq (tgt := 37) hx hb dX3_valueOf_21 (by decide) (by decide) (fun c2 => ?_) (fun c2 => ?_)
    · refine lv_iconst (v := (-1)) hx hb dX3_valueOf_37 (by decide) ?_
      exact kr_i F hr hlk hE hW hS (Nat.le_of_ble_eq_true rfl) (Nat.le_of_ble_eq_true rfl) dX3_valueOf_38 (⟨_, _, rfl, hM, hX, by unfold getS; dsimp only; rw [hpz, hfn]; rfl⟩)
    · exact absurd rfl c2
set_option maxRecDepth 100000 in
set_option maxHeartbeats 4000000 in
theorem c_X3_get (l : Launch) (G : GG) (A : Nat → Prop) (ad : Lb → Nat) (dm : Lb → Prop) (ct0 : Lb → va_E) (lv : Nat → Bool) (lev : Nat → Nat) (lo : Nat → Nat) (hi : Nat → Nat) (ri : Nat → Option Nat) (sz : Nat → Nat) (ky : Nat → Nat) (vl : Nat → Nat) (go : Nat → Option Nat) (rt : Nat) (ep : Nat) (wq : Nat → Nat) (wn : Nat) (cn : Nat) (op : Nat → Bool) (cl : Nat → Nat) (ca : Nat → Nat) (ce : Nat → Nat) (kc : Nat) (nb : Nat) (th fo : Nat) (hM : MDF G ad dm ct0 lv lev lo hi ri sz ky vl go rt ep wq wn cn op cl ca ce kc nb th fo) (t0 : Nat) (hI : InvF lv lev lo hi ri sz ky vl go rt ep wq wn cn op cl ca ce kc nb 800 t0) (x : Int32) :
    CT l yX3_get cX3_get 2 (some FieldType.int) { frames := 3, cells := 0, slots := 0, locals := 71 } [.ref (ad (10, 0)), .int x] G A (ad, dm, ct0) (fun v w' => ∃ ct' th' fo', w' = (ad, dm, ct') ∧ MDF G ad dm ct' lv lev lo hi ri sz ky vl go rt ep wq wn cn op cl ca ce kc nb th' fo' ∧ XM ct0 ct' ∧ ((∃ k, k < 200 ∧ x = nI k ∧ th' = 0 ∧ v = some (.int (oI (getS (lv, lev, lo, hi, ri, sz, ky, vl, go, rt, ep, wq, wn, cn, op, cl, ca, ce, kc, nb) k)))) ∨ ((∀ k, k < 200 → x ≠ nI k) ∧ th' = 1 ∧ v = some (.int (nI 0))))) (fun _ => False) (0) (0) := by
  refine ct_of (by decide) (Nat.le_of_ble_eq_true rfl) ?_
  intro p e s m below meth c ls F hr hlk hnm hex hE hW hl
  have hx := F.1
  have hb := F.2.1
  have hS : va_S A s.heap s.heap [] := va_S.rf
  have hl : lv_has ls 2 [(0, .ref (ad (10, 0))), (1, .int x)] := hl
  have hX : XM ct0 ct0 := XM.rf
  refine lv_aload_n hx hb dX3_get_0 rfl (lv_at hl 0 rfl) ?_
  refine lv_iload_n hx hb dX3_get_1 rfl (lv_at hl 1 rfl) ?_
  refine kc_S 1 (c_X3_isKey l G A ad dm ct0 x) F hE hW hS kw_676 kw_677 kw_6 kw_678 (by decide +kernel) rfl ⟨rfl, rfl⟩ ⟨Nat.le_of_ble_eq_true rfl, Nat.le_of_ble_eq_true rfl⟩ hl.1 rfl (Nat.le_of_ble_eq_true rfl) dX3_get_2 ⟨Nat.le_of_ble_eq_true rfl, Nat.le_of_ble_eq_true rfl⟩ (fun _ _ _ _ _ h => h.elim) (fun v w' H locs hp hW hS => ?_)
  obtain ⟨rfl, ⟨rfl, k, hk, rfl⟩ | ⟨rfl, hno⟩⟩ := hp
  · refine nz_eq (tgt := 12) hx hb dX3_get_5 (by decide) (by decide) (fun c9 => ?_) (fun c9 => ?_)
    · exact absurd c9 (by decide)
    · refine lv_iconst (v := nI 0) hx hb dX3_get_8 (by decide) ?_
      refine lv_goto (tgt := 13) hx hb dX3_get_9 (by decide) ?_
      refine kc_V 1 (c_X3_holds l G A ad dm ct0 lv lev lo hi ri sz ky vl go rt ep wq wn cn op cl ca ce kc nb th fo hM 0 (by decide)) F hE hW hS (10, 0) (hM.1 0 (by decide)) hM.2.1 rfl [.int (nI 0)] rfl kw_682 kw_684 kp_16 kw_6 kw_685 (by decide +kernel) rfl ⟨rfl, rfl⟩ ⟨Nat.le_of_ble_eq_true rfl, Nat.le_of_ble_eq_true rfl⟩ hl.1 rfl (Nat.le_of_ble_eq_true rfl) dX3_get_13 ⟨Nat.le_of_ble_eq_true rfl, Nat.le_of_ble_eq_true rfl⟩ (fun _ _ _ _ _ h => h.elim) (fun v w' H locs hp hW hS => ?_)
      obtain ⟨ct2, rfl, hM, hX0, ⟨-, rfl⟩ | ⟨hq9, -⟩⟩ := hp
      · have hX := hX.tr hX0
        refine nz_eq (tgt := 27) hx hb dX3_get_16 (by decide) (by decide) (fun c9 => ?_) (fun c9 => ?_)
        · exact absurd c9 (by decide)
        · refine lv_aload_n hx hb dX3_get_19 rfl (lv_at hl 0 rfl) ?_
          refine lv_iload_n hx hb dX3_get_20 rfl (lv_at hl 1 rfl) ?_
          refine kc_V 1 (c_X3_valueOf l G A ad dm ct2 lv lev lo hi ri sz ky vl go rt ep wq wn cn op cl ca ce kc nb 0 fo hM t0 k hI hk) F hE hW hS (10, 0) (hM.1 0 (by decide)) hM.2.1 rfl [.int (nI k)] rfl kw_714 kw_716 kp_23 kw_6 kw_717 (by decide +kernel) rfl ⟨rfl, rfl⟩ ⟨Nat.le_of_ble_eq_true rfl, Nat.le_of_ble_eq_true rfl⟩ hl.1 rfl (Nat.le_of_ble_eq_true rfl) dX3_get_21 ⟨Nat.le_of_ble_eq_true rfl, Nat.le_of_ble_eq_true rfl⟩ (fun _ _ _ _ _ h => h.elim) (fun v w' H locs hp hW hS => ?_)
          obtain ⟨ct3, fo3, rfl, hM, hX0, rfl⟩ := hp
          have hX := hX.tr hX0
          refine lv_goto (tgt := 28) hx hb dX3_get_24 (by decide) ?_
          exact kr_i F hr hlk hE hW hS (Nat.le_of_ble_eq_true rfl) (Nat.le_of_ble_eq_true rfl) dX3_get_28 (⟨_, _, _, rfl, hM, hX, Or.inl ⟨k, hk, rfl, rfl, rfl⟩⟩)
      · exact absurd hq9 (by decide)
  · refine nz_eq (tgt := 12) hx hb dX3_get_5 (by decide) (by decide) (fun c9 => ?_) (fun c9 => ?_)
    · refine lv_iconst (v := nI 1) hx hb dX3_get_12 (by decide) ?_
      refine kc_V 1 (c_X3_holds l G A ad dm ct0 lv lev lo hi ri sz ky vl go rt ep wq wn cn op cl ca ce kc nb th fo hM 1 (by decide)) F hE hW hS (10, 0) (hM.1 0 (by decide)) hM.2.1 rfl [.int (nI 1)] rfl kw_682 kw_684 kp_16 kw_6 kw_685 (by decide +kernel) rfl ⟨rfl, rfl⟩ ⟨Nat.le_of_ble_eq_true rfl, Nat.le_of_ble_eq_true rfl⟩ hl.1 rfl (Nat.le_of_ble_eq_true rfl) dX3_get_13 ⟨Nat.le_of_ble_eq_true rfl, Nat.le_of_ble_eq_true rfl⟩ (fun _ _ _ _ _ h => h.elim) (fun v w' H locs hp hW hS => ?_)
      obtain ⟨ct2, rfl, hM, hX0, ⟨hq9, -⟩ | ⟨-, rfl⟩⟩ := hp
      · exact absurd hq9 (by decide)
      · have hX := hX.tr hX0
        refine nz_eq (tgt := 27) hx hb dX3_get_16 (by decide) (by decide) (fun c9 => ?_) (fun c9 => ?_)
        · refine lv_iconst (v := nI 0) hx hb dX3_get_27 (by decide) ?_
          exact kr_i F hr hlk hE hW hS (Nat.le_of_ble_eq_true rfl) (Nat.le_of_ble_eq_true rfl) dX3_get_28 (⟨_, _, _, rfl, hM, hX, Or.inr ⟨hno, rfl, rfl⟩⟩)
        · exact absurd c9 (by decide)
    · exact absurd c9 (by decide)
set_option maxRecDepth 100000 in
set_option maxHeartbeats 4000000 in
theorem c_X3_getByLeaves (l : Launch) (G : GG) (A : Nat → Prop) (ad : Lb → Nat) (dm : Lb → Prop) (ct0 : Lb → va_E) (lv : Nat → Bool) (lev : Nat → Nat) (lo : Nat → Nat) (hi : Nat → Nat) (ri : Nat → Option Nat) (sz : Nat → Nat) (ky : Nat → Nat) (vl : Nat → Nat) (go : Nat → Option Nat) (rt : Nat) (ep : Nat) (wq : Nat → Nat) (wn : Nat) (cn : Nat) (op : Nat → Bool) (cl : Nat → Nat) (ca : Nat → Nat) (ce : Nat → Nat) (kc : Nat) (nb : Nat) (th fo : Nat) (hM : MDF G ad dm ct0 lv lev lo hi ri sz ky vl go rt ep wq wn cn op cl ca ce kc nb th fo) (t0 : Nat) (hI : InvF lv lev lo hi ri sz ky vl go rt ep wq wn cn op cl ca ce kc nb 800 t0) (x : Int32) :
    CT l yX3_getByLeaves cX3_getByLeaves 2 (some FieldType.int) { frames := 3, cells := 0, slots := 0, locals := 71 } [.ref (ad (10, 0)), .int x] G A (ad, dm, ct0) (fun v w' => ∃ ct' th' fo', w' = (ad, dm, ct') ∧ MDF G ad dm ct' lv lev lo hi ri sz ky vl go rt ep wq wn cn op cl ca ce kc nb th' fo' ∧ XM ct0 ct' ∧ ((∃ k, k < 200 ∧ x = nI k ∧ th' = 0 ∧ v = some (.int (oI (getS (lv, lev, lo, hi, ri, sz, ky, vl, go, rt, ep, wq, wn, cn, op, cl, ca, ce, kc, nb) k)))) ∨ ((∀ k, k < 200 → x ≠ nI k) ∧ th' = 1 ∧ v = some (.int (nI 0))))) (fun _ => False) (0) (0) := by
  refine ct_of (by decide) (Nat.le_of_ble_eq_true rfl) ?_
  intro p e s m below meth c ls F hr hlk hnm hex hE hW hl
  have hx := F.1
  have hb := F.2.1
  have hS : va_S A s.heap s.heap [] := va_S.rf
  have hl : lv_has ls 2 [(0, .ref (ad (10, 0))), (1, .int x)] := hl
  have hX : XM ct0 ct0 := XM.rf
  refine lv_aload_n hx hb dX3_getByLeaves_0 rfl (lv_at hl 0 rfl) ?_
  refine lv_iload_n hx hb dX3_getByLeaves_1 rfl (lv_at hl 1 rfl) ?_
  refine kc_S 1 (c_X3_isKey l G A ad dm ct0 x) F hE hW hS kw_676 kw_677 kw_6 kw_678 (by decide +kernel) rfl ⟨rfl, rfl⟩ ⟨Nat.le_of_ble_eq_true rfl, Nat.le_of_ble_eq_true rfl⟩ hl.1 rfl (Nat.le_of_ble_eq_true rfl) dX3_getByLeaves_2 ⟨Nat.le_of_ble_eq_true rfl, Nat.le_of_ble_eq_true rfl⟩ (fun _ _ _ _ _ h => h.elim) (fun v w' H locs hp hW hS => ?_)
  obtain ⟨rfl, ⟨rfl, k, hk, rfl⟩ | ⟨rfl, hno⟩⟩ := hp
  · refine nz_eq (tgt := 12) hx hb dX3_getByLeaves_5 (by decide) (by decide) (fun c9 => ?_) (fun c9 => ?_)
    · exact absurd c9 (by decide)
    · refine lv_iconst (v := nI 0) hx hb dX3_getByLeaves_8 (by decide) ?_
      refine lv_goto (tgt := 13) hx hb dX3_getByLeaves_9 (by decide) ?_
      refine kc_V 1 (c_X3_holds l G A ad dm ct0 lv lev lo hi ri sz ky vl go rt ep wq wn cn op cl ca ce kc nb th fo hM 0 (by decide)) F hE hW hS (10, 0) (hM.1 0 (by decide)) hM.2.1 rfl [.int (nI 0)] rfl kw_682 kw_684 kp_16 kw_6 kw_685 (by decide +kernel) rfl ⟨rfl, rfl⟩ ⟨Nat.le_of_ble_eq_true rfl, Nat.le_of_ble_eq_true rfl⟩ hl.1 rfl (Nat.le_of_ble_eq_true rfl) dX3_getByLeaves_13 ⟨Nat.le_of_ble_eq_true rfl, Nat.le_of_ble_eq_true rfl⟩ (fun _ _ _ _ _ h => h.elim) (fun v w' H locs hp hW hS => ?_)
      obtain ⟨ct2, rfl, hM, hX0, ⟨-, rfl⟩ | ⟨hq9, -⟩⟩ := hp
      · have hX := hX.tr hX0
        refine nz_eq (tgt := 27) hx hb dX3_getByLeaves_16 (by decide) (by decide) (fun c9 => ?_) (fun c9 => ?_)
        · exact absurd c9 (by decide)
        · refine lv_aload_n hx hb dX3_getByLeaves_19 rfl (lv_at hl 0 rfl) ?_
          refine lv_iload_n hx hb dX3_getByLeaves_20 rfl (lv_at hl 1 rfl) ?_
          refine kc_V 1 (c_X3_valueOf l G A ad dm ct2 lv lev lo hi ri sz ky vl go rt ep wq wn cn op cl ca ce kc nb 0 fo hM t0 k hI hk) F hE hW hS (10, 0) (hM.1 0 (by decide)) hM.2.1 rfl [.int (nI k)] rfl kw_714 kw_716 kp_23 kw_6 kw_717 (by decide +kernel) rfl ⟨rfl, rfl⟩ ⟨Nat.le_of_ble_eq_true rfl, Nat.le_of_ble_eq_true rfl⟩ hl.1 rfl (Nat.le_of_ble_eq_true rfl) dX3_getByLeaves_21 ⟨Nat.le_of_ble_eq_true rfl, Nat.le_of_ble_eq_true rfl⟩ (fun _ _ _ _ _ h => h.elim) (fun v w' H locs hp hW hS => ?_)
          obtain ⟨ct3, fo3, rfl, hM, hX0, rfl⟩ := hp
          have hX := hX.tr hX0
          refine lv_goto (tgt := 28) hx hb dX3_getByLeaves_24 (by decide) ?_
          exact kr_i F hr hlk hE hW hS (Nat.le_of_ble_eq_true rfl) (Nat.le_of_ble_eq_true rfl) dX3_getByLeaves_28 (⟨_, _, _, rfl, hM, hX, Or.inl ⟨k, hk, rfl, rfl, rfl⟩⟩)
      · exact absurd hq9 (by decide)
  · refine nz_eq (tgt := 12) hx hb dX3_getByLeaves_5 (by decide) (by decide) (fun c9 => ?_) (fun c9 => ?_)
    · refine lv_iconst (v := nI 1) hx hb dX3_getByLeaves_12 (by decide) ?_
      refine kc_V 1 (c_X3_holds l G A ad dm ct0 lv lev lo hi ri sz ky vl go rt ep wq wn cn op cl ca ce kc nb th fo hM 1 (by decide)) F hE hW hS (10, 0) (hM.1 0 (by decide)) hM.2.1 rfl [.int (nI 1)] rfl kw_682 kw_684 kp_16 kw_6 kw_685 (by decide +kernel) rfl ⟨rfl, rfl⟩ ⟨Nat.le_of_ble_eq_true rfl, Nat.le_of_ble_eq_true rfl⟩ hl.1 rfl (Nat.le_of_ble_eq_true rfl) dX3_getByLeaves_13 ⟨Nat.le_of_ble_eq_true rfl, Nat.le_of_ble_eq_true rfl⟩ (fun _ _ _ _ _ h => h.elim) (fun v w' H locs hp hW hS => ?_)
      obtain ⟨ct2, rfl, hM, hX0, ⟨hq9, -⟩ | ⟨-, rfl⟩⟩ := hp
      · exact absurd hq9 (by decide)
      · have hX := hX.tr hX0
        refine nz_eq (tgt := 27) hx hb dX3_getByLeaves_16 (by decide) (by decide) (fun c9 => ?_) (fun c9 => ?_)
        · refine lv_iconst (v := nI 0) hx hb dX3_getByLeaves_27 (by decide) ?_
          exact kr_i F hr hlk hE hW hS (Nat.le_of_ble_eq_true rfl) (Nat.le_of_ble_eq_true rfl) dX3_getByLeaves_28 (⟨_, _, _, rfl, hM, hX, Or.inr ⟨hno, rfl, rfl⟩⟩)
        · exact absurd c9 (by decide)
    · exact absurd c9 (by decide)
set_option maxRecDepth 100000 in
set_option maxHeartbeats 4000000 in
theorem c_X3_put (l : Launch) (G : GG) (A : Nat → Prop) (ad : Lb → Nat) (dm : Lb → Prop) (ct0 : Lb → va_E) (lv : Nat → Bool) (lev : Nat → Nat) (lo : Nat → Nat) (hi : Nat → Nat) (ri : Nat → Option Nat) (sz : Nat → Nat) (ky : Nat → Nat) (vl : Nat → Nat) (go : Nat → Option Nat) (rt : Nat) (ep : Nat) (wq : Nat → Nat) (wn : Nat) (cn : Nat) (op : Nat → Bool) (cl : Nat → Nat) (ca : Nat → Nat) (ce : Nat → Nat) (kc : Nat) (nb : Nat) (th fo : Nat) (hM : MDF G ad dm ct0 lv lev lo hi ri sz ky vl go rt ep wq wn cn op cl ca ce kc nb th fo) (t0 : Nat) (hI : InvF lv lev lo hi ri sz ky vl go rt ep wq wn cn op cl ca ce kc nb 800 t0) (x y : Int32) :
    CT l yX3_put cX3_put 6 (some FieldType.int) { frames := 3, cells := 0, slots := 0, locals := 72 } [.ref (ad (10, 0)), .int x, .int y] G A (ad, dm, ct0) (fun v w' => ∃ ct' th' fo' s', w' = (ad, dm, ct') ∧ MD G ad dm ct' s' th' fo' ∧ XM ct0 ct' ∧ ((∃ k, k < 200 ∧ x = nI k ∧ ∃ u, u < 10000 ∧ y = nI u ∧ th' = 0 ∧ s' = (putS (lv, lev, lo, hi, ri, sz, ky, vl, go, rt, ep, wq, wn, cn, op, cl, ca, ce, kc, nb) k u).1 ∧ v = some (.int (oI (putS (lv, lev, lo, hi, ri, sz, ky, vl, go, rt, ep, wq, wn, cn, op, cl, ca, ce, kc, nb) k u).2))) ∨ (((∀ k, k < 200 → x ≠ nI k) ∨ ∀ u, u < 10000 → y ≠ nI u) ∧ th' = 1 ∧ s' = (lv, lev, lo, hi, ri, sz, ky, vl, go, rt, ep, wq, wn, cn, op, cl, ca, ce, kc, nb) ∧ v = some (.int (nI 0))))) (fun _ => False) (0) (0) := by
  refine ct_of (by decide) (Nat.le_of_ble_eq_true rfl) ?_
  intro p e s m below meth c ls F hr hlk hnm hex hE hW hl
  have hx := F.1
  have hb := F.2.1
  have hS : va_S A s.heap s.heap [] := va_S.rf
  have hl : lv_has ls 6 [(0, .ref (ad (10, 0))), (1, .int x), (2, .int y)] := hl
  have hX : XM ct0 ct0 := XM.rf
  refine lv_aload_n hx hb dX3_put_0 rfl (lv_at hl 0 rfl) ?_
  refine lv_iload_n hx hb dX3_put_1 rfl (lv_at hl 1 rfl) ?_
  refine kc_S 1 (c_X3_isKey l G A ad dm ct0 x) F hE hW hS kw_676 kw_677 kw_6 kw_678 (by decide +kernel) rfl ⟨rfl, rfl⟩ ⟨Nat.le_of_ble_eq_true rfl, Nat.le_of_ble_eq_true rfl⟩ hl.1 rfl (Nat.le_of_ble_eq_true rfl) dX3_put_2 ⟨Nat.le_of_ble_eq_true rfl, Nat.le_of_ble_eq_true rfl⟩ (fun _ _ _ _ _ h => h.elim) (fun v w' H locs hp hW hS => ?_)
  obtain ⟨rfl, ⟨rfl, k, hk, rfl⟩ | ⟨rfl, hno⟩⟩ := hp
  · refine nz_eq (tgt := 23) hx hb dX3_put_5 (by decide) (by decide) (fun c9 => ?_) (fun c9 => ?_)
    · exact absurd c9 (by decide)
    · refine lv_iload_n hx hb dX3_put_8 rfl (lv_at hl 2 rfl) ?_
      refine lv_iconst (v := nI 0) hx hb dX3_put_9 (by decide) ?_
      refine lv_sipush (v := nI 9999) hx hb dX3_put_10 (by decide) ?_
      refine ktop (y := lI 10000) (by decide) ?_
      refine kc_S 3 (c_X3_in l G A ad dm ct0 y 10000 (by decide)) F hE hW hS kw_679 kw_680 kw_6 kw_681 (by decide +kernel) rfl ⟨rfl, rfl⟩ ⟨Nat.le_of_ble_eq_true rfl, Nat.le_of_ble_eq_true rfl⟩ hl.1 rfl (Nat.le_of_ble_eq_true rfl) dX3_put_13 ⟨Nat.le_of_ble_eq_true rfl, Nat.le_of_ble_eq_true rfl⟩ (fun _ _ _ _ _ h => h.elim) (fun v w' H locs hp hW hS => ?_)
      obtain ⟨rfl, ⟨rfl, u, hu, rfl⟩ | ⟨rfl, hno⟩⟩ := hp
      · refine nz_eq (tgt := 23) hx hb dX3_put_16 (by decide) (by decide) (fun c9 => ?_) (fun c9 => ?_)
        · exact absurd c9 (by decide)
        · refine lv_iconst (v := nI 0) hx hb dX3_put_19 (by decide) ?_
          refine lv_goto (tgt := 24) hx hb dX3_put_20 (by decide) ?_
          refine kc_V 1 (c_X3_holds l G A ad dm ct0 lv lev lo hi ri sz ky vl go rt ep wq wn cn op cl ca ce kc nb th fo hM 0 (by decide)) F hE hW hS (10, 0) (hM.1 0 (by decide)) hM.2.1 rfl [.int (nI 0)] rfl kw_682 kw_684 kp_16 kw_6 kw_685 (by decide +kernel) rfl ⟨rfl, rfl⟩ ⟨Nat.le_of_ble_eq_true rfl, Nat.le_of_ble_eq_true rfl⟩ hl.1 rfl (Nat.le_of_ble_eq_true rfl) dX3_put_24 ⟨Nat.le_of_ble_eq_true rfl, Nat.le_of_ble_eq_true rfl⟩ (fun _ _ _ _ _ h => h.elim) (fun v w' H locs hp hW hS => ?_)
          obtain ⟨ct2, rfl, hM, hX0, ⟨-, rfl⟩ | ⟨hq9, -⟩⟩ := hp
          · have hX := hX.tr hX0
            refine nz_ne (tgt := 32) hx hb dX3_put_27 (by decide) (by decide) (fun c9 => ?_) (fun c9 => ?_)
            · have hI0 := hI
              obtain ⟨hP, hQ, hCu, hkc, hsum, ht, hep, hkt⟩ := hI
              have hb9 : nb ≤ 513 := by omega
              have hwn9 : wn ≤ 513 := by omega
              obtain ⟨hfr1, hfr2, hfr3⟩ := fr_spec hP hb9
              have hAt := dnF_at hP hk 2000 rt (vp_root (key := k) (lvl := 0) hP (Nat.zero_le _)) (by have := mu_root hP hb9; omega)
              obtain ⟨pz, hpz⟩ : ∃ z, (dnF lev hi ri sz ky vl k 0 2000 rt).1 = z := ⟨_, rfl⟩
              rw [hpz] at hAt
              obtain ⟨u1, u2, u3, u4, u5, u6⟩ := pg_bd hP hb9 hAt.1.1
              have u7 : sz pz ≤ 4 := by have := (hP.1 pz hAt.1.1).2.2.2.2; rw [if_neg (by omega)] at this; exact this
              have hcl := cnt_le (sz pz) (pk ky pz) (k + 1)
              refine lv_aload_n hx hb dX3_put_32 rfl (lv_at hl 0 rfl) ?_
              refine lv_iload_n hx hb dX3_put_33 rfl (lv_at hl 1 rfl) ?_
              refine lv_iconst (v := nI 0) hx hb dX3_put_34 (by decide) ?_
              refine kc_V 2 (c_X3_down l G A ad dm ct2 lv lev lo hi ri sz ky vl go rt ep wq wn cn op cl ca ce kc nb 0 fo hM 800 k 0 hP hb9 hk (Nat.zero_le _)) F hE hW hS (10, 0) (hM.1 0 (by decide)) hM.2.1 rfl [.int (nI k), .int (nI 0)] rfl kw_686 kw_688 kp_17 kw_6 kw_689 (by decide +kernel) rfl ⟨rfl, rfl⟩ ⟨Nat.le_of_ble_eq_true rfl, Nat.le_of_ble_eq_true rfl⟩ hl.1 rfl (Nat.le_of_ble_eq_true rfl) dX3_put_35 ⟨Nat.le_of_ble_eq_true rfl, Nat.le_of_ble_eq_true rfl⟩ (fun _ _ _ _ _ h => h.elim) (fun v w' H locs hp hW hS => ?_)
              obtain ⟨ct2, rfl, hM, hX0, rfl⟩ := hp
              have hX := hX.tr hX0
              rw [hpz]
              refine lv_istore_n (lv' := [(3, .int (nI pz)), (0, .ref (ad (10, 0))), (1, .int (nI k)), (2, .int (nI u))]) hx hb dX3_put_38 rfl hl (by decide) rfl (fun ls hl => ?_)
              refine lv_aload_n hx hb dX3_put_39 rfl (lv_at hl 1 rfl) ?_
              refine lv_iload_n hx hb dX3_put_40 rfl (lv_at hl 0 rfl) ?_
              refine lv_iload_n hx hb dX3_put_41 rfl (lv_at hl 2 rfl) ?_
              refine kc_V 2 (c_X3_place l G A ad dm ct2 lv lev lo hi ri sz ky vl go rt ep wq wn cn op cl ca ce kc nb 0 ((dnF lev hi ri sz ky vl k 0 2000 rt).2) hM pz (k + 1) (nI k) (by omega) u5 (lI_s k).symm (by omega) (fun i hi9 => by have := (u6 i hi9).1; omega)) F hE hW hS (10, 0) (hM.1 0 (by decide)) hM.2.1 rfl [.int (nI pz), .int (nI k)] rfl kw_690 kw_692 kp_18 kw_6 kw_693 (by decide +kernel) rfl ⟨rfl, rfl⟩ ⟨Nat.le_of_ble_eq_true rfl, Nat.le_of_ble_eq_true rfl⟩ hl.1 rfl (Nat.le_of_ble_eq_true rfl) dX3_put_42 ⟨Nat.le_of_ble_eq_true rfl, Nat.le_of_ble_eq_true rfl⟩ (fun _ _ _ _ _ h => h.elim) (fun v w' H locs hp hW hS => ?_)
              obtain ⟨rfl, rfl⟩ := hp
              refine lv_istore (lv' := [(4, .int (lI (cnt (sz pz) (pk ky pz) (k + 1)))), (3, .int (nI pz)), (0, .ref (ad (10, 0))), (1, .int (nI k)), (2, .int (nI u))]) hx hb dX3_put_45 hl (by decide) rfl (fun ls hl => ?_)
              refine lv_aload_n hx hb dX3_put_47 rfl (lv_at hl 2 rfl) ?_
              refine lv_iload_n hx hb dX3_put_48 rfl (lv_at hl 1 rfl) ?_
              refine lv_iload hx hb dX3_put_49 (lv_at hl 0 rfl) ?_
              refine lv_iload_n hx hb dX3_put_51 rfl (lv_at hl 3 rfl) ?_
              have hkyb : ky (5 * pz + (cnt (sz pz) (pk ky pz) (k + 1) - 1)) < 2 ^ 30 ∨ cnt (sz pz) (pk ky pz) (k + 1) = 0 := by
                rcases Nat.eq_zero_or_pos (cnt (sz pz) (pk ky pz) (k + 1)) with h | h
                · exact Or.inr h
                · have := (u6 (cnt (sz pz) (pk ky pz) (k + 1) - 1) (by omega)).1; exact Or.inl (by omega)
              refine kc_V 3 (c_X3_hasKey l G A ad dm ct2 lv lev lo hi ri sz ky vl go rt ep wq wn cn op cl ca ce kc nb 0 ((dnF lev hi ri sz ky vl k 0 2000 rt).2) hM pz (cnt (sz pz) (pk ky pz) (k + 1)) k (by omega) (by omega) (by omega) hkyb) F hE hW hS (10, 0) (hM.1 0 (by decide)) hM.2.1 rfl [.int (nI pz), .int (lI (cnt (sz pz) (pk ky pz) (k + 1))), .int (nI k)] rfl kw_694 kw_696 kp_19 kw_6 kw_697 (by decide +kernel) rfl ⟨rfl, rfl⟩ ⟨Nat.le_of_ble_eq_true rfl, Nat.le_of_ble_eq_true rfl⟩ hl.1 rfl (Nat.le_of_ble_eq_true rfl) dX3_put_52 ⟨Nat.le_of_ble_eq_true rfl, Nat.le_of_ble_eq_true rfl⟩ (fun _ _ _ _ _ h => h.elim) (fun v w' H locs hp hW hS => ?_)
              obtain ⟨rfl, ⟨hq0, hqk, rfl⟩ | ⟨hq0, rfl⟩⟩ := hp
              · have hfn : fnd sz ky pz k = some (cnt (sz pz) (pk ky pz) (k + 1) - 1) := if_pos ⟨hq0, hqk⟩
                refine nz_ne (tgt := 67) hx hb dX3_put_55 (by decide) (by decide) (fun c9 => ?_) (fun c9 => ?_)
                · have hl2 := lI_p hq0
                  rw [hl2] at hl
                  refine lv_aload_n hx hb dX3_put_67 rfl (lv_at hl 2 rfl) ?_
                  refine kg F hE hW (10, 0) (hM.1 0 (by decide)) rfl hM.2.1 rfl inA_X3 8 (by decide) kw_614 (v := .ref (ad (10, 8))) rfl dX3_put_68 ?_
                  refine lv_iconst (v := nI 5) hx hb dX3_put_71 (by decide) ?_
                  refine lv_iload_n hx hb dX3_put_72 rfl (lv_at hl 1 rfl) ?_
                  refine lv_imul hx hb dX3_put_73 ?_
                  refine ktop (pk_mul _ _) ?_
                  refine lv_iload hx hb dX3_put_74 (lv_at hl 0 rfl) ?_
                  refine lv_iadd hx hb dX3_put_76 ?_
                  refine ktop (nI_add _ _) ?_
                  refine kl_i F hE hW (10, 8) (hM.1 8 (by decide)) rfl hM.2.2.2.2.2.2.2.2.2.1 ((5 * pz) + (cnt (sz pz) (pk ky pz) (k + 1) - 1)) rfl (by omega) (by decide) dX3_put_77 ?_
                  refine lv_istore (lv' := [(5, .int (nI (vl ((5 * pz) + (cnt (sz pz) (pk ky pz) (k + 1) - 1))))), (4, .int (nI (cnt (sz pz) (pk ky pz) (k + 1) - 1))), (3, .int (nI pz)), (0, .ref (ad (10, 0))), (1, .int (nI k)), (2, .int (nI u))]) hx hb dX3_put_78 hl (by decide) rfl (fun ls hl => ?_)
                  refine lv_aload_n hx hb dX3_put_80 rfl (lv_at hl 3 rfl) ?_
                  refine kg F hE hW (10, 0) (hM.1 0 (by decide)) rfl hM.2.1 rfl inA_X3 8 (by decide) kw_614 (v := .ref (ad (10, 8))) rfl dX3_put_81 ?_
                  refine lv_iconst (v := nI 5) hx hb dX3_put_84 (by decide) ?_
                  refine lv_iload_n hx hb dX3_put_85 rfl (lv_at hl 2 rfl) ?_
                  refine lv_imul hx hb dX3_put_86 ?_
                  refine ktop (pk_mul _ _) ?_
                  refine lv_iload hx hb dX3_put_87 (lv_at hl 1 rfl) ?_
                  refine lv_iadd hx hb dX3_put_89 ?_
                  refine ktop (nI_add _ _) ?_
                  refine lv_iload_n hx hb dX3_put_90 rfl (lv_at hl 5 rfl) ?_
                  refine ms_vl (v := u) F hE hW hS hM ((5 * pz) + (cnt (sz pz) (pk ky pz) (k + 1) - 1)) rfl (by omega) dX3_put_91 (fun ct H locs hW hM hX0 hS => ?_)
                  have hX := hX.tr hX0
                  refine lv_iload hx hb dX3_put_92 (lv_at hl 0 rfl) ?_
                  exact kr_i F hr hlk hE hW hS (Nat.le_of_ble_eq_true rfl) (Nat.le_of_ble_eq_true rfl) dX3_put_94 (⟨_, _, _, (putS (lv, lev, lo, hi, ri, sz, ky, vl, go, rt, ep, wq, wn, cn, op, cl, ca, ce, kc, nb) k u).1, rfl, by unfold putS; dsimp only; rw [hpz, hfn]; dsimp only; exact hM, hX, Or.inl ⟨k, hk, rfl, u, hu, rfl, rfl, rfl, by unfold putS; dsimp only; rw [hpz, hfn]; rfl⟩⟩)
                · exact absurd c9 (by decide)
              · have hfn : fnd sz ky pz k = none := if_neg (fun h => by rcases hq0 with h2 | h2; exact absurd h.1 (by omega); exact h2 h.2)
                refine nz_ne (tgt := 67) hx hb dX3_put_55 (by decide) (by decide) (fun c9 => ?_) (fun c9 => ?_)
                · exact absurd c9 (by decide)
                · refine lv_aload_n hx hb dX3_put_58 rfl (lv_at hl 2 rfl) ?_
                  refine lv_iload_n hx hb dX3_put_59 rfl (lv_at hl 1 rfl) ?_
                  refine lv_iload_n hx hb dX3_put_60 rfl (lv_at hl 3 rfl) ?_
                  refine lv_iload_n hx hb dX3_put_61 rfl (lv_at hl 4 rfl) ?_
                  refine kc_V 3 (c_X3_adds l G A ad dm ct2 lv lev lo hi ri sz ky vl go rt ep wq wn cn op cl ca ce kc nb 0 ((dnF lev hi ri sz ky vl k 0 2000 rt).2) hM pz k u (by omega) u7 (by omega) (fun i hi9 => by have := (u6 i hi9).1; omega) hAt.1.1 (by omega) hfr1 hfr2 (by omega)) F hE hW hS (10, 0) (hM.1 0 (by decide)) hM.2.1 rfl [.int (nI pz), .int (nI k), .int (nI u)] rfl kw_698 kw_700 kp_20 kw_6 kw_701 (by decide +kernel) rfl ⟨rfl, rfl⟩ ⟨Nat.le_of_ble_eq_true rfl, Nat.le_of_ble_eq_true rfl⟩ hl.1 rfl (Nat.le_of_ble_eq_true rfl) dX3_put_62 ⟨Nat.le_of_ble_eq_true rfl, Nat.le_of_ble_eq_true rfl⟩ (fun _ _ _ _ _ h => h.elim) (fun v w' H locs hp hW hS => ?_)
                  obtain ⟨ct2, rfl, hM, hX0, rfl⟩ := hp
                  have hX := hX.tr hX0
                  refine lv_iconst (v := (-1)) hx hb dX3_put_65 (by decide) ?_
                  exact kr_i F hr hlk hE hW hS (Nat.le_of_ble_eq_true rfl) (Nat.le_of_ble_eq_true rfl) dX3_put_66 (⟨_, _, _, (putS (lv, lev, lo, hi, ri, sz, ky, vl, go, rt, ep, wq, wn, cn, op, cl, ca, ce, kc, nb) k u).1, rfl, by unfold putS; dsimp only; rw [hpz, hfn]; dsimp only; exact hM.kc, hX, Or.inl ⟨k, hk, rfl, u, hu, rfl, rfl, rfl, by unfold putS; dsimp only; rw [hpz, hfn]; rfl⟩⟩)
            · exact absurd c9 (by decide)
          · exact absurd hq9 (by decide)
      · refine nz_eq (tgt := 23) hx hb dX3_put_16 (by decide) (by decide) (fun c9 => ?_) (fun c9 => ?_)
        · refine lv_iconst (v := nI 1) hx hb dX3_put_23 (by decide) ?_
          refine kc_V 1 (c_X3_holds l G A ad dm ct0 lv lev lo hi ri sz ky vl go rt ep wq wn cn op cl ca ce kc nb th fo hM 1 (by decide)) F hE hW hS (10, 0) (hM.1 0 (by decide)) hM.2.1 rfl [.int (nI 1)] rfl kw_682 kw_684 kp_16 kw_6 kw_685 (by decide +kernel) rfl ⟨rfl, rfl⟩ ⟨Nat.le_of_ble_eq_true rfl, Nat.le_of_ble_eq_true rfl⟩ hl.1 rfl (Nat.le_of_ble_eq_true rfl) dX3_put_24 ⟨Nat.le_of_ble_eq_true rfl, Nat.le_of_ble_eq_true rfl⟩ (fun _ _ _ _ _ h => h.elim) (fun v w' H locs hp hW hS => ?_)
          obtain ⟨ct2, rfl, hM, hX0, ⟨hq9, -⟩ | ⟨-, rfl⟩⟩ := hp
          · exact absurd hq9 (by decide)
          · have hX := hX.tr hX0
            refine nz_ne (tgt := 32) hx hb dX3_put_27 (by decide) (by decide) (fun c9 => ?_) (fun c9 => ?_)
            · exact absurd c9 (by decide)
            · refine lv_iconst (v := nI 0) hx hb dX3_put_30 (by decide) ?_
              exact kr_i F hr hlk hE hW hS (Nat.le_of_ble_eq_true rfl) (Nat.le_of_ble_eq_true rfl) dX3_put_31 (⟨_, _, _, (lv, lev, lo, hi, ri, sz, ky, vl, go, rt, ep, wq, wn, cn, op, cl, ca, ce, kc, nb), rfl, hM, hX, Or.inr ⟨Or.inr hno, rfl, rfl, rfl⟩⟩)
        · exact absurd c9 (by decide)
  · refine nz_eq (tgt := 23) hx hb dX3_put_5 (by decide) (by decide) (fun c9 => ?_) (fun c9 => ?_)
    · refine lv_iconst (v := nI 1) hx hb dX3_put_23 (by decide) ?_
      refine kc_V 1 (c_X3_holds l G A ad dm ct0 lv lev lo hi ri sz ky vl go rt ep wq wn cn op cl ca ce kc nb th fo hM 1 (by decide)) F hE hW hS (10, 0) (hM.1 0 (by decide)) hM.2.1 rfl [.int (nI 1)] rfl kw_682 kw_684 kp_16 kw_6 kw_685 (by decide +kernel) rfl ⟨rfl, rfl⟩ ⟨Nat.le_of_ble_eq_true rfl, Nat.le_of_ble_eq_true rfl⟩ hl.1 rfl (Nat.le_of_ble_eq_true rfl) dX3_put_24 ⟨Nat.le_of_ble_eq_true rfl, Nat.le_of_ble_eq_true rfl⟩ (fun _ _ _ _ _ h => h.elim) (fun v w' H locs hp hW hS => ?_)
      obtain ⟨ct2, rfl, hM, hX0, ⟨hq9, -⟩ | ⟨-, rfl⟩⟩ := hp
      · exact absurd hq9 (by decide)
      · have hX := hX.tr hX0
        refine nz_ne (tgt := 32) hx hb dX3_put_27 (by decide) (by decide) (fun c9 => ?_) (fun c9 => ?_)
        · exact absurd c9 (by decide)
        · refine lv_iconst (v := nI 0) hx hb dX3_put_30 (by decide) ?_
          exact kr_i F hr hlk hE hW hS (Nat.le_of_ble_eq_true rfl) (Nat.le_of_ble_eq_true rfl) dX3_put_31 (⟨_, _, _, (lv, lev, lo, hi, ri, sz, ky, vl, go, rt, ep, wq, wn, cn, op, cl, ca, ce, kc, nb), rfl, hM, hX, Or.inr ⟨Or.inl hno, rfl, rfl, rfl⟩⟩)
    · exact absurd c9 (by decide)
set_option maxRecDepth 100000 in
set_option maxHeartbeats 4000000 in
theorem c_X3_take (l : Launch) (G : GG) (A : Nat → Prop) (ad : Lb → Nat) (dm : Lb → Prop) (ct0 : Lb → va_E) (lv : Nat → Bool) (lev : Nat → Nat) (lo : Nat → Nat) (hi : Nat → Nat) (ri : Nat → Option Nat) (sz : Nat → Nat) (ky : Nat → Nat) (vl : Nat → Nat) (go : Nat → Option Nat) (rt : Nat) (ep : Nat) (wq : Nat → Nat) (wn : Nat) (cn : Nat) (op : Nat → Bool) (cl : Nat → Nat) (ca : Nat → Nat) (ce : Nat → Nat) (kc : Nat) (nb : Nat) (th fo : Nat) (hM : MDF G ad dm ct0 lv lev lo hi ri sz ky vl go rt ep wq wn cn op cl ca ce kc nb th fo) (t0 : Nat) (hI : InvF lv lev lo hi ri sz ky vl go rt ep wq wn cn op cl ca ce kc nb 800 t0) (x : Int32) :
    CT l yX3_take cX3_take 4 (some FieldType.int) { frames := 3, cells := 0, slots := 0, locals := 71 } [.ref (ad (10, 0)), .int x] G A (ad, dm, ct0) (fun v w' => ∃ ct' th' fo' s', w' = (ad, dm, ct') ∧ MD G ad dm ct' s' th' fo' ∧ XM ct0 ct' ∧ ((∃ k, k < 200 ∧ x = nI k ∧ th' = 0 ∧ s' = (takS (lv, lev, lo, hi, ri, sz, ky, vl, go, rt, ep, wq, wn, cn, op, cl, ca, ce, kc, nb) k).1 ∧ v = some (.int (oI (takS (lv, lev, lo, hi, ri, sz, ky, vl, go, rt, ep, wq, wn, cn, op, cl, ca, ce, kc, nb) k).2))) ∨ ((∀ k, k < 200 → x ≠ nI k) ∧ th' = 1 ∧ s' = (lv, lev, lo, hi, ri, sz, ky, vl, go, rt, ep, wq, wn, cn, op, cl, ca, ce, kc, nb) ∧ v = some (.int (nI 0))))) (fun _ => False) (0) (0) := by
  refine ct_of (by decide) (Nat.le_of_ble_eq_true rfl) ?_
  intro p e s m below meth c ls F hr hlk hnm hex hE hW hl
  have hx := F.1
  have hb := F.2.1
  have hS : va_S A s.heap s.heap [] := va_S.rf
  have hl : lv_has ls 4 [(0, .ref (ad (10, 0))), (1, .int x)] := hl
  have hX : XM ct0 ct0 := XM.rf
  refine lv_aload_n hx hb dX3_take_0 rfl (lv_at hl 0 rfl) ?_
  refine lv_iload_n hx hb dX3_take_1 rfl (lv_at hl 1 rfl) ?_
  refine kc_S 1 (c_X3_isKey l G A ad dm ct0 x) F hE hW hS kw_676 kw_677 kw_6 kw_678 (by decide +kernel) rfl ⟨rfl, rfl⟩ ⟨Nat.le_of_ble_eq_true rfl, Nat.le_of_ble_eq_true rfl⟩ hl.1 rfl (Nat.le_of_ble_eq_true rfl) dX3_take_2 ⟨Nat.le_of_ble_eq_true rfl, Nat.le_of_ble_eq_true rfl⟩ (fun _ _ _ _ _ h => h.elim) (fun v w' H locs hp hW hS => ?_)
  obtain ⟨rfl, ⟨rfl, k, hk, rfl⟩ | ⟨rfl, hno⟩⟩ := hp
  · refine nz_eq (tgt := 12) hx hb dX3_take_5 (by decide) (by decide) (fun c9 => ?_) (fun c9 => ?_)
    · exact absurd c9 (by decide)
    · refine lv_iconst (v := nI 0) hx hb dX3_take_8 (by decide) ?_
      refine lv_goto (tgt := 13) hx hb dX3_take_9 (by decide) ?_
      refine kc_V 1 (c_X3_holds l G A ad dm ct0 lv lev lo hi ri sz ky vl go rt ep wq wn cn op cl ca ce kc nb th fo hM 0 (by decide)) F hE hW hS (10, 0) (hM.1 0 (by decide)) hM.2.1 rfl [.int (nI 0)] rfl kw_682 kw_684 kp_16 kw_6 kw_685 (by decide +kernel) rfl ⟨rfl, rfl⟩ ⟨Nat.le_of_ble_eq_true rfl, Nat.le_of_ble_eq_true rfl⟩ hl.1 rfl (Nat.le_of_ble_eq_true rfl) dX3_take_13 ⟨Nat.le_of_ble_eq_true rfl, Nat.le_of_ble_eq_true rfl⟩ (fun _ _ _ _ _ h => h.elim) (fun v w' H locs hp hW hS => ?_)
      obtain ⟨ct2, rfl, hM, hX0, ⟨-, rfl⟩ | ⟨hq9, -⟩⟩ := hp
      · have hX := hX.tr hX0
        refine nz_ne (tgt := 21) hx hb dX3_take_16 (by decide) (by decide) (fun c9 => ?_) (fun c9 => ?_)
        · have hI0 := hI
          obtain ⟨hP, hQ, hCu, hkc, hsum, ht, hep, hkt⟩ := hI
          have hb9 : nb ≤ 513 := by omega
          have hwn9 : wn ≤ 513 := by omega
          obtain ⟨hfr1, hfr2, hfr3⟩ := fr_spec hP hb9
          have hAt := dnF_at hP hk 2000 rt (vp_root (key := k) (lvl := 0) hP (Nat.zero_le _)) (by have := mu_root hP hb9; omega)
          obtain ⟨pz, hpz⟩ : ∃ z, (dnF lev hi ri sz ky vl k 0 2000 rt).1 = z := ⟨_, rfl⟩
          rw [hpz] at hAt
          obtain ⟨u1, u2, u3, u4, u5, u6⟩ := pg_bd hP hb9 hAt.1.1
          have u7 : sz pz ≤ 4 := by have := (hP.1 pz hAt.1.1).2.2.2.2; rw [if_neg (by omega)] at this; exact this
          have hcl := cnt_le (sz pz) (pk ky pz) (k + 1)
          refine lv_aload_n hx hb dX3_take_21 rfl (lv_at hl 0 rfl) ?_
          refine lv_iload_n hx hb dX3_take_22 rfl (lv_at hl 1 rfl) ?_
          refine kc_V 1 (c_X3_valueOf l G A ad dm ct2 lv lev lo hi ri sz ky vl go rt ep wq wn cn op cl ca ce kc nb 0 fo hM t0 k hI0 hk) F hE hW hS (10, 0) (hM.1 0 (by decide)) hM.2.1 rfl [.int (nI k)] rfl kw_714 kw_716 kp_23 kw_6 kw_717 (by decide +kernel) rfl ⟨rfl, rfl⟩ ⟨Nat.le_of_ble_eq_true rfl, Nat.le_of_ble_eq_true rfl⟩ hl.1 rfl (Nat.le_of_ble_eq_true rfl) dX3_take_23 ⟨Nat.le_of_ble_eq_true rfl, Nat.le_of_ble_eq_true rfl⟩ (fun _ _ _ _ _ h => h.elim) (fun v w' H locs hp hW hS => ?_)
          obtain ⟨ct3, fo3, rfl, hM, hX0, rfl⟩ := hp
          have hX := hX.tr hX0
          refine lv_istore_n (lv' := [(2, .int (oI (getS (lv, lev, lo, hi, ri, sz, ky, vl, go, rt, ep, wq, wn, cn, op, cl, ca, ce, kc, nb) k))), (0, .ref (ad (10, 0))), (1, .int (nI k))]) hx hb dX3_take_26 rfl hl (by decide) rfl (fun ls hl => ?_)
          refine lv_aload_n hx hb dX3_take_27 rfl (lv_at hl 1 rfl) ?_
          refine lv_iload_n hx hb dX3_take_28 rfl (lv_at hl 2 rfl) ?_
          refine lv_iconst (v := nI 0) hx hb dX3_take_29 (by decide) ?_
          refine kc_V 2 (c_X3_down l G A ad dm ct3 lv lev lo hi ri sz ky vl go rt ep wq wn cn op cl ca ce kc nb 0 fo3 hM 800 k 0 hP hb9 hk (Nat.zero_le _)) F hE hW hS (10, 0) (hM.1 0 (by decide)) hM.2.1 rfl [.int (nI k), .int (nI 0)] rfl kw_686 kw_688 kp_17 kw_6 kw_689 (by decide +kernel) rfl ⟨rfl, rfl⟩ ⟨Nat.le_of_ble_eq_true rfl, Nat.le_of_ble_eq_true rfl⟩ hl.1 rfl (Nat.le_of_ble_eq_true rfl) dX3_take_30 ⟨Nat.le_of_ble_eq_true rfl, Nat.le_of_ble_eq_true rfl⟩ (fun _ _ _ _ _ h => h.elim) (fun v w' H locs hp hW hS => ?_)
          obtain ⟨ct2, rfl, hM, hX0, rfl⟩ := hp
          have hX := hX.tr hX0
          rw [hpz]
          refine lv_istore_n (lv' := [(3, .int (nI pz)), (2, .int (oI (getS (lv, lev, lo, hi, ri, sz, ky, vl, go, rt, ep, wq, wn, cn, op, cl, ca, ce, kc, nb) k))), (0, .ref (ad (10, 0))), (1, .int (nI k))]) hx hb dX3_take_33 rfl hl (by decide) rfl (fun ls hl => ?_)
          refine lv_iload_n hx hb dX3_take_34 rfl (lv_at hl 1 rfl) ?_
          refine lv_iconst (v := (-1)) hx hb dX3_take_35 (by decide) ?_
          have hgs : getS (lv, lev, lo, hi, ri, sz, ky, vl, go, rt, ep, wq, wn, cn, op, cl, ca, ce, kc, nb) k = (fnd sz ky pz k).map fun j => vl (5 * pz + j) := by unfold getS; dsimp only; rw [hpz]
          cases hfn : fnd sz ky pz k with
          | none =>
            rw [hfn] at hgs
            refine lv_icmp_eq (tgt := 50) hx hb dX3_take_36 (by decide) (fun c3 => ?_) (fun c3 => ?_)
            · refine lv_iload_n hx hb dX3_take_50 rfl (lv_at hl 1 rfl) ?_
              exact kr_i F hr hlk hE hW hS (Nat.le_of_ble_eq_true rfl) (Nat.le_of_ble_eq_true rfl) dX3_take_51 (⟨_, _, _, (takS (lv, lev, lo, hi, ri, sz, ky, vl, go, rt, ep, wq, wn, cn, op, cl, ca, ce, kc, nb) k).1, rfl, by unfold takS; dsimp only; rw [hpz, hfn]; exact hM, hX, Or.inl ⟨k, hk, rfl, rfl, rfl, by unfold takS; dsimp only; rw [hpz, hfn, hgs]; rfl⟩⟩)
            · exact absurd (by rw [hgs]; rfl) c3
          | some jz =>
            rw [hfn] at hgs
            obtain ⟨hj1, hj2⟩ := fnd_some hfn
            have hvl := (u6 jz hj1).2
            refine lv_icmp_eq (tgt := 50) hx hb dX3_take_36 (by decide) (fun c3 => ?_) (fun c3 => ?_)
            · rw [hgs] at c3
              exact absurd c3 (nI_neg (show vl (5 * pz + jz) < 2 ^ 31 by omega))
            · refine lv_aload_n hx hb dX3_take_39 rfl (lv_at hl 2 rfl) ?_
              refine lv_iload_n hx hb dX3_take_40 rfl (lv_at hl 0 rfl) ?_
              refine lv_aload_n hx hb dX3_take_41 rfl (lv_at hl 2 rfl) ?_
              refine lv_iload_n hx hb dX3_take_42 rfl (lv_at hl 0 rfl) ?_
              refine lv_iload_n hx hb dX3_take_43 rfl (lv_at hl 3 rfl) ?_
              refine kc_V 2 (c_X3_place l G A ad dm ct2 lv lev lo hi ri sz ky vl go rt ep wq wn cn op cl ca ce kc nb 0 ((dnF lev hi ri sz ky vl k 0 2000 rt).2) hM pz (k + 1) (nI k) (by omega) u5 (lI_s k).symm (by omega) (fun i hi9 => by have := (u6 i hi9).1; omega)) F hE hW hS (10, 0) (hM.1 0 (by decide)) hM.2.1 rfl [.int (nI pz), .int (nI k)] rfl kw_690 kw_692 kp_18 kw_6 kw_693 (by decide +kernel) rfl ⟨rfl, rfl⟩ ⟨Nat.le_of_ble_eq_true rfl, Nat.le_of_ble_eq_true rfl⟩ hl.1 rfl (Nat.le_of_ble_eq_true rfl) dX3_take_44 ⟨Nat.le_of_ble_eq_true rfl, Nat.le_of_ble_eq_true rfl⟩ (fun _ _ _ _ _ h => h.elim) (fun v w' H locs hp hW hS => ?_)
              obtain ⟨rfl, rfl⟩ := hp
              have hjq : cnt (sz pz) (pk ky pz) (k + 1) = jz + 1 := by
                unfold fnd at hfn
                split at hfn
                · rename_i hc9; cases hfn; omega
                · cases hfn
              refine ktop (y := nI jz) (by rw [hjq, lI_s]) ?_
              refine kc_V 2 (c_X3_removes l G A ad dm ct2 lv lev lo hi ri sz ky vl go rt ep wq wn cn op cl ca ce kc nb 0 ((dnF lev hi ri sz ky vl k 0 2000 rt).2) hM pz jz (by omega) u5 hj1) F hE hW hS (10, 0) (hM.1 0 (by decide)) hM.2.1 rfl [.int (nI pz), .int (nI jz)] rfl kw_718 kw_720 kp_24 kw_6 kw_721 (by decide +kernel) rfl ⟨rfl, rfl⟩ ⟨Nat.le_of_ble_eq_true rfl, Nat.le_of_ble_eq_true rfl⟩ hl.1 rfl (Nat.le_of_ble_eq_true rfl) dX3_take_47 ⟨Nat.le_of_ble_eq_true rfl, Nat.le_of_ble_eq_true rfl⟩ (fun _ _ _ _ _ h => h.elim) (fun v w' H locs hp hW hS => ?_)
              obtain ⟨ct2, rfl, hM, hX0, rfl⟩ := hp
              have hX := hX.tr hX0
              refine lv_iload_n hx hb dX3_take_50 rfl (lv_at hl 1 rfl) ?_
              exact kr_i F hr hlk hE hW hS (Nat.le_of_ble_eq_true rfl) (Nat.le_of_ble_eq_true rfl) dX3_take_51 (⟨_, _, _, (takS (lv, lev, lo, hi, ri, sz, ky, vl, go, rt, ep, wq, wn, cn, op, cl, ca, ce, kc, nb) k).1, rfl, by unfold takS; dsimp only; rw [hpz, hfn]; dsimp only; exact MD.kc (s := remS (lv, lev, lo, hi, ri, sz, ky, vl, go, rt, ep, wq, wn, cn, op, cl, ca, ce, kc, nb) pz jz) hM, hX, Or.inl ⟨k, hk, rfl, rfl, rfl, by unfold takS; dsimp only; rw [hpz, hfn, hgs]; rfl⟩⟩)
        · exact absurd c9 (by decide)
      · exact absurd hq9 (by decide)
  · refine nz_eq (tgt := 12) hx hb dX3_take_5 (by decide) (by decide) (fun c9 => ?_) (fun c9 => ?_)
    · refine lv_iconst (v := nI 1) hx hb dX3_take_12 (by decide) ?_
      refine kc_V 1 (c_X3_holds l G A ad dm ct0 lv lev lo hi ri sz ky vl go rt ep wq wn cn op cl ca ce kc nb th fo hM 1 (by decide)) F hE hW hS (10, 0) (hM.1 0 (by decide)) hM.2.1 rfl [.int (nI 1)] rfl kw_682 kw_684 kp_16 kw_6 kw_685 (by decide +kernel) rfl ⟨rfl, rfl⟩ ⟨Nat.le_of_ble_eq_true rfl, Nat.le_of_ble_eq_true rfl⟩ hl.1 rfl (Nat.le_of_ble_eq_true rfl) dX3_take_13 ⟨Nat.le_of_ble_eq_true rfl, Nat.le_of_ble_eq_true rfl⟩ (fun _ _ _ _ _ h => h.elim) (fun v w' H locs hp hW hS => ?_)
      obtain ⟨ct2, rfl, hM, hX0, ⟨hq9, -⟩ | ⟨-, rfl⟩⟩ := hp
      · exact absurd hq9 (by decide)
      · have hX := hX.tr hX0
        refine nz_ne (tgt := 21) hx hb dX3_take_16 (by decide) (by decide) (fun c9 => ?_) (fun c9 => ?_)
        · exact absurd c9 (by decide)
        · refine lv_iconst (v := nI 0) hx hb dX3_take_19 (by decide) ?_
          exact kr_i F hr hlk hE hW hS (Nat.le_of_ble_eq_true rfl) (Nat.le_of_ble_eq_true rfl) dX3_take_20 (⟨_, _, _, (lv, lev, lo, hi, ri, sz, ky, vl, go, rt, ep, wq, wn, cn, op, cl, ca, ce, kc, nb), rfl, hM, hX, Or.inr ⟨hno, rfl, rfl, rfl⟩⟩)
    · exact absurd c9 (by decide)
