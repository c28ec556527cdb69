/-! The reference: recycling. -/
section RCY
variable {lv : Nat → Bool} {lev lo hi : Nat → Nat} {ri : Nat → Option Nat} {sz ky vl : Nat → Nat} {go : Nat → Option Nat} {rt ep : Nat} {wq : Nat → Nat} {wn cn : Nat} {op : Nat → Bool} {cl ca ce : Nat → Nat} {kc nb : Nat} {i j : Nat}
theorem rc_no (hb : ∀ e, lv i = true → go i = some e → e < 2 ^ 31) (hc : ce j < 2 ^ 31) (hj : j < cn) (ho : op j = true) (h : ¬ oI (go i) < nI (ce j)) : (lv i && rcB go cn op ce i) = false := by
  cases hv : lv i with
  | false => rfl
  | true =>
    cases hr : rcB go cn op ce i with
    | false => rfl
    | true =>
      obtain ⟨e, h1, h2⟩ := rcB_iff.1 hr
      have h3 := h2 j hj ho
      rw [h1] at h
      exact absurd ((nI_ltI (hb e hv h1) hc).2 h3) h
def RcI (lv : Nat → Bool) (go : Nat → Option Nat) (op : Nat → Bool) (ce : Nat → Nat) (i j : Nat) : Prop := ∀ c, c < j → op c = true → ∀ e, lv i = true → go i = some e → e < ce c
theorem rc_st0 (h : RcI lv go op ce i j) (ho : op j = false) : RcI lv go op ce i (j + 1) := by
  intro c hc
  by_cases e : c = j
  · subst e; intro h2; rw [ho] at h2; cases h2
  · exact h c (by omega)
theorem rc_st1 (hb : ∀ e, lv i = true → go i = some e → e < 2 ^ 31) (hc : ce j < 2 ^ 31) (h : RcI lv go op ce i j) (h2 : oI (go i) < nI (ce j)) : RcI lv go op ce i (j + 1) := by
  intro c hc2
  by_cases e : c = j
  · subst e; intro _ e h3 h4; rw [h4] at h2; exact (nI_ltI (hb e h3 h4) hc).1 h2
  · exact h c (by omega)
theorem rc_yes {e : Nat} (h : RcI lv go op ce i cn) (hv : lv i = true) (hg : go i = some e) : rcB go cn op ce i = true := rcB_iff.2 ⟨e, hg, fun c hc ho => h c hc ho e hv hg⟩
theorem rc_go (hg : go i = none) : rcB go cn op ce i = false := by unfold rcB; rw [hg]
end RCY
set_option maxRecDepth 100000 in
set_option maxHeartbeats 4000000 in
theorem c_X3_mayRecycle (l : Launch) (G : GG) (A : Nat → Prop) (ad : Lb → Nat) (dm : Lb → Prop) (ct0 : Lb → va_E) (lv : Nat → Bool) (lev : Nat → Nat) (lo : Nat → Nat) (hi : Nat → Nat) (ri : Nat → Option Nat) (sz : Nat → Nat) (ky : Nat → Nat) (vl : Nat → Nat) (go : Nat → Option Nat) (rt : Nat) (ep : Nat) (wq : Nat → Nat) (wn : Nat) (cn : Nat) (op : Nat → Bool) (cl : Nat → Nat) (ca : Nat → Nat) (ce : Nat → Nat) (kc : Nat) (nb : Nat) (th fo : Nat) (hM : MDF G ad dm ct0 lv lev lo hi ri sz ky vl go rt ep wq wn cn op cl ca ce kc nb th fo) (i : Nat) (hi8 : i < 800) (hcn : cn ≤ 20) (hgb : ∀ e, lv i = true → go i = some e → e < 2 ^ 31) (hce : ∀ j, j < cn → ce j < 2 ^ 31) :
    CT l yX3_mayRecycle cX3_mayRecycle 3 (some FieldType.boolean) { frames := 0, cells := 0, slots := 0, locals := 0 } [.ref (ad (10, 0)), .int (nI i)] G A (ad, dm, ct0) (fun v w' => (ad, dm, ct0) = w' ∧ v = some (.int (bI (lv i && rcB go cn op ce i)))) (fun _ => False) (0) (0) := by
  refine ct_of (by decide) (Nat.le_of_ble_eq_true rfl) ?_
  intro p e s m below meth c ls F hr hlk hnm hex hE hW hl
  have hx := F.1
  have hb := F.2.1
  have hS : va_S A s.heap s.heap [] := va_S.rf
  have hl : lv_has ls 3 [(0, .ref (ad (10, 0))), (1, .int (nI i))] := hl
  have hX : XM ct0 ct0 := XM.rf
  refine lv_iconst (v := nI 0) hx hb dX3_mayRecycle_0 (by decide) ?_
  refine lv_istore_n (lv' := [(2, .int (nI 0)), (0, .ref (ad (10, 0))), (1, .int (nI i))]) hx hb dX3_mayRecycle_1 rfl hl (by decide) rfl (fun ls hl => ?_)
  suffices key : ∀ (d : Nat) (j : Nat) (H : Heap) (locs : List Loc) (ls : Array Slot), j + d = cn → RcI lv go op ce i j → wd G A (ad, dm, ct0) H → va_S A s.heap H locs → lv_has ls 3 [(2, .int (nI j)), (0, .ref (ad (10, 0))), (1, .int (nI i))] → W _ l e _ s m _ below meth c H locs 0 0 _ (F0 m 2 ls []) from
    key cn 0 _ _ ls (Nat.zero_add _) (fun c hc => absurd hc (Nat.not_lt_zero _)) hW hS hl
  clear hW hS hl
  intro d
  induction d with
  | zero =>
    intro j H locs ls hj hR hW hS hl
    refine lv_iload_n hx hb dX3_mayRecycle_2 rfl (lv_at hl 0 rfl) ?_
    refine lv_aload_n hx hb dX3_mayRecycle_3 rfl (lv_at hl 1 rfl) ?_
    refine kg F hE hW (10, 0) (hM.1 0 (by decide)) rfl hM.2.1 rfl inA_X3 14 (by decide) kw_620 (v := .int (nI cn)) rfl dX3_mayRecycle_4 ?_
    refine nc_ge (tgt := 42) hx hb dX3_mayRecycle_7 (by decide) (by omega) (by omega) (fun c1 => ?_) (fun c1 => ?_)
    · have hjn : j = cn := by omega
      rw [hjn] at hR
      refine lv_aload_n hx hb dX3_mayRecycle_42 rfl (lv_at hl 1 rfl) ?_
      refine kg F hE hW (10, 0) (hM.1 0 (by decide)) rfl hM.2.1 rfl inA_X3 1 (by decide) kw_607 (v := .ref (ad (10, 1))) rfl dX3_mayRecycle_43 ?_
      refine lv_iload_n hx hb dX3_mayRecycle_46 rfl (lv_at hl 2 rfl) ?_
      refine kl_z F hE hW (10, 1) (hM.1 1 (by decide)) rfl hM.2.2.1 i rfl (by omega) (by decide) dX3_mayRecycle_47 ?_
      cases hv : lv i with
      | false =>
        refine nz_eq (tgt := 65) hx hb dX3_mayRecycle_48 (by decide) (by decide) (fun c9 => ?_) (fun c9 => ?_)
        · refine lv_iconst (v := nI 0) hx hb dX3_mayRecycle_65 (by decide) ?_
          exact kr_z F hr hlk hE hW hS (Nat.le_of_ble_eq_true rfl) (Nat.le_of_ble_eq_true rfl) rfl dX3_mayRecycle_66 (⟨rfl, by rfl⟩)
        · exact absurd c9 (by decide)
      | true =>
        refine nz_eq (tgt := 65) hx hb dX3_mayRecycle_48 (by decide) (by decide) (fun c9 => ?_) (fun c9 => ?_)
        · exact absurd c9 (by decide)
        · refine lv_aload_n hx hb dX3_mayRecycle_51 rfl (lv_at hl 1 rfl) ?_
          refine kg F hE hW (10, 0) (hM.1 0 (by decide)) rfl hM.2.1 rfl inA_X3 9 (by decide) kw_615 (v := .ref (ad (10, 9))) rfl dX3_mayRecycle_52 ?_
          refine lv_iload_n hx hb dX3_mayRecycle_55 rfl (lv_at hl 2 rfl) ?_
          refine kl_i F hE hW (10, 9) (hM.1 9 (by decide)) rfl hM.2.2.2.2.2.2.2.2.2.2.1 i rfl (by omega) (by decide) dX3_mayRecycle_56 ?_
          refine lv_iconst (v := (-1)) hx hb dX3_mayRecycle_57 (by decide) ?_
          cases hg : go i with
          | none =>
            refine lv_icmp_eq (tgt := 65) hx hb dX3_mayRecycle_58 (by decide) (fun c2 => ?_) (fun c2 => ?_)
            · refine lv_iconst (v := nI 0) hx hb dX3_mayRecycle_65 (by decide) ?_
              exact kr_z F hr hlk hE hW hS (Nat.le_of_ble_eq_true rfl) (Nat.le_of_ble_eq_true rfl) rfl dX3_mayRecycle_66 (⟨rfl, by rw [rc_go hg]; rfl⟩)
            · exact absurd rfl c2
          | some ez =>
            refine lv_icmp_eq (tgt := 65) hx hb dX3_mayRecycle_58 (by decide) (fun c2 => ?_) (fun c2 => ?_)
            · exact absurd c2 (nI_neg (hgb ez hv hg))
            · refine lv_iconst (v := nI 1) hx hb dX3_mayRecycle_61 (by decide) ?_
              refine lv_goto (tgt := 66) hx hb dX3_mayRecycle_62 (by decide) ?_
              exact kr_z F hr hlk hE hW hS (Nat.le_of_ble_eq_true rfl) (Nat.le_of_ble_eq_true rfl) rfl dX3_mayRecycle_66 (⟨rfl, by rw [rc_yes hR hv hg]; rfl⟩)
    · exact absurd c1 (by omega)
  | succ d ih =>
    intro j H locs ls hj hR hW hS hl
    refine lv_iload_n hx hb dX3_mayRecycle_2 rfl (lv_at hl 0 rfl) ?_
    refine lv_aload_n hx hb dX3_mayRecycle_3 rfl (lv_at hl 1 rfl) ?_
    refine kg F hE hW (10, 0) (hM.1 0 (by decide)) rfl hM.2.1 rfl inA_X3 14 (by decide) kw_620 (v := .int (nI cn)) rfl dX3_mayRecycle_4 ?_
    refine nc_ge (tgt := 42) hx hb dX3_mayRecycle_7 (by decide) (by omega) (by omega) (fun c1 => ?_) (fun c1 => ?_)
    · exact absurd c1 (by omega)
    · refine lv_aload_n hx hb dX3_mayRecycle_10 rfl (lv_at hl 1 rfl) ?_
      refine kg F hE hW (10, 0) (hM.1 0 (by decide)) rfl hM.2.1 rfl inA_X3 15 (by decide) kw_621 (v := .ref (ad (10, 11))) rfl dX3_mayRecycle_11 ?_
      refine lv_iload_n hx hb dX3_mayRecycle_14 rfl (lv_at hl 0 rfl) ?_
      refine kl_z F hE hW (10, 11) (hM.1 11 (by decide)) rfl hM.2.2.2.2.2.2.2.2.2.2.2.2.1 j rfl (by omega) (by decide) dX3_mayRecycle_15 ?_
      cases ho : op j with
      | false =>
        refine nz_eq (tgt := 36) hx hb dX3_mayRecycle_16 (by decide) (by decide) (fun c9 => ?_) (fun c9 => ?_)
        · refine lv_iinc (v := nI (j + 1)) (lv' := [(2, .int (nI (j + 1))), (0, .ref (ad (10, 0))), (1, .int (nI i))]) hx hb dX3_mayRecycle_36 hl (k := 0) rfl (ki1 _) (by decide) rfl (fun ls hl => ?_)
          refine lv_goto (tgt := 2) hx hb dX3_mayRecycle_39 (by decide) ?_
          exact ih (j + 1) _ _ _ (by omega) (rc_st0 hR ho) hW hS (lv_sub hl [0, 1, 2] rfl)
        · exact absurd c9 (by decide)
      | true =>
        refine nz_eq (tgt := 36) hx hb dX3_mayRecycle_16 (by decide) (by decide) (fun c9 => ?_) (fun c9 => ?_)
        · exact absurd c9 (by decide)
        · refine lv_aload_n hx hb dX3_mayRecycle_19 rfl (lv_at hl 1 rfl) ?_
          refine kg F hE hW (10, 0) (hM.1 0 (by decide)) rfl hM.2.1 rfl inA_X3 18 (by decide) kw_624 (v := .ref (ad (10, 14))) rfl dX3_mayRecycle_20 ?_
          refine lv_iload_n hx hb dX3_mayRecycle_23 rfl (lv_at hl 0 rfl) ?_
          refine kl_i F hE hW (10, 14) (hM.1 14 (by decide)) rfl hM.2.2.2.2.2.2.2.2.2.2.2.2.2.2.2 j rfl (by omega) (by decide) dX3_mayRecycle_24 ?_
          refine lv_aload_n hx hb dX3_mayRecycle_25 rfl (lv_at hl 1 rfl) ?_
          refine kg F hE hW (10, 0) (hM.1 0 (by decide)) rfl hM.2.1 rfl inA_X3 9 (by decide) kw_615 (v := .ref (ad (10, 9))) rfl dX3_mayRecycle_26 ?_
          refine lv_iload_n hx hb dX3_mayRecycle_29 rfl (lv_at hl 2 rfl) ?_
          refine kl_i F hE hW (10, 9) (hM.1 9 (by decide)) rfl hM.2.2.2.2.2.2.2.2.2.2.1 i rfl (by omega) (by decide) dX3_mayRecycle_30 ?_
          refine lv_icmp_gt (tgt := 36) hx hb dX3_mayRecycle_31 (by decide) (fun c2 => ?_) (fun c2 => ?_)
          · refine lv_iinc (v := nI (j + 1)) (lv' := [(2, .int (nI (j + 1))), (0, .ref (ad (10, 0))), (1, .int (nI i))]) hx hb dX3_mayRecycle_36 hl (k := 0) rfl (ki1 _) (by decide) rfl (fun ls hl => ?_)
            refine lv_goto (tgt := 2) hx hb dX3_mayRecycle_39 (by decide) ?_
            exact ih (j + 1) _ _ _ (by omega) (rc_st1 hgb (hce j (by omega)) hR c2) hW hS (lv_sub hl [0, 1, 2] rfl)
          · refine lv_iconst (v := nI 0) hx hb dX3_mayRecycle_34 (by decide) ?_
            exact kr_z F hr hlk hE hW hS (Nat.le_of_ble_eq_true rfl) (Nat.le_of_ble_eq_true rfl) rfl dX3_mayRecycle_35 (⟨rfl, by rw [rc_no hgb (hce j (by omega)) (by omega) ho c2]; rfl⟩)
def rcL (lv : Nat → Bool) (go : Nat → Option Nat) (cn : Nat) (op : Nat → Bool) (ce : Nat → Nat) (i : Nat) : Nat → Bool := fun n => lv n && !(decide (n < i) && rcB go cn op ce n)
theorem rcL_0 (lv : Nat → Bool) (go : Nat → Option Nat) (cn : Nat) (op : Nat → Bool) (ce : Nat → Nat) : rcL lv go cn op ce 0 = lv := by funext n; unfold rcL; simp
theorem rcL_at (lv : Nat → Bool) (go : Nat → Option Nat) (cn : Nat) (op : Nat → Bool) (ce : Nat → Nat) (i : Nat) : rcL lv go cn op ce i i = lv i := by unfold rcL; simp
theorem rcL_s0 {lv : Nat → Bool} {go : Nat → Option Nat} {cn : Nat} {op : Nat → Bool} {ce : Nat → Nat} {i : Nat} (h : (lv i && rcB go cn op ce i) = false) : rcL lv go cn op ce (i + 1) = rcL lv go cn op ce i := by
  funext n; unfold rcL
  by_cases e : n = i
  · subst e
    cases h1 : lv n with
    | false => rfl
    | true => rw [h1] at h; rw [show rcB go cn op ce n = false from h]; simp
  · have : decide (n < i + 1) = decide (n < i) := decide_eq_decide.2 (by omega)
    rw [this]
theorem rcL_s1 {lv : Nat → Bool} {go : Nat → Option Nat} {cn : Nat} {op : Nat → Bool} {ce : Nat → Nat} {i : Nat} (h : (lv i && rcB go cn op ce i) = true) : va_up (rcL lv go cn op ce i) i false = rcL lv go cn op ce (i + 1) := by
  funext n
  by_cases e : n = i
  · subst e; rw [va_up_self]; unfold rcL
    rw [Bool.and_eq_true] at h
    rw [h.1, h.2]; simp
  · rw [va_up_ne _ _ e]; unfold rcL
    have : decide (n < i + 1) = decide (n < i) := decide_eq_decide.2 (by omega)
    rw [this]
set_option maxRecDepth 100000 in
set_option maxHeartbeats 4000000 in
theorem c_X3_recycle (l : Launch) (G : GG) (A : Nat → Prop) (ad : Lb → Nat) (dm : Lb → Prop) (ct0 : Lb → va_E) (lv : Nat → Bool) (lev : Nat → Nat) (lo : Nat → Nat) (hi : Nat → Nat) (ri : Nat → Option Nat) (sz : Nat → Nat) (ky : Nat → Nat) (vl : Nat → Nat) (go : Nat → Option Nat) (rt : Nat) (ep : Nat) (wq : Nat → Nat) (wn : Nat) (cn : Nat) (op : Nat → Bool) (cl : Nat → Nat) (ca : Nat → Nat) (ce : Nat → Nat) (kc : Nat) (nb : Nat) (th fo : Nat) (hM : MDF G ad dm ct0 lv lev lo hi ri sz ky vl go rt ep wq wn cn op cl ca ce kc nb th fo) (t0 : Nat) (hI : InvF lv lev lo hi ri sz ky vl go rt ep wq wn cn op cl ca ce kc nb 800 t0) :
    CT l yX3_recycle cX3_recycle 3 (some FieldType.int) { frames := 1, cells := 0, slots := 0, locals := 22 } [.ref (ad (10, 0))] G A (ad, dm, ct0) (fun v w' => ∃ ct', w' = (ad, dm, ct') ∧ MD G ad dm ct' (recS (lv, lev, lo, hi, ri, sz, ky, vl, go, rt, ep, wq, wn, cn, op, cl, ca, ce, kc, nb)).1 0 fo ∧ XM ct0 ct' ∧ v = some (.int (nI (recS (lv, lev, lo, hi, ri, sz, ky, vl, go, rt, ep, wq, wn, cn, op, cl, ca, ce, kc, nb)).2))) (fun _ => False) (0) (0) := by
  refine ct_of (by decide) (Nat.le_of_ble_eq_true rfl) ?_
  intro p e s m below meth c ls F hr hlk hnm hex hE hW hl
  have hx := F.1
  have hb := F.2.1
  have hS : va_S A s.heap s.heap [] := va_S.rf
  have hl : lv_has ls 3 [(0, .ref (ad (10, 0)))] := hl
  have hX : XM ct0 ct0 := XM.rf
  have hI0 := hI
  obtain ⟨hP, hQ, hCu, hkc, hsum, ht, hep, hkt⟩ := hI
  have hb9 : nb ≤ 513 := by omega
  have hwn9 : wn ≤ 513 := by omega
  obtain ⟨hfr1, hfr2, hfr3⟩ := fr_spec hP hb9
  refine lv_aload_n hx hb dX3_recycle_0 rfl (lv_at hl 0 rfl) ?_
  refine lv_iconst (v := nI 0) hx hb dX3_recycle_1 (by decide) ?_
  refine mp_th (v := 0) F hE hW hS hM kw_606 dX3_recycle_2 (fun ct H locs hW hM hX0 hS => ?_)
  have hX := hX.tr hX0
  refine lv_iconst (v := nI 0) hx hb dX3_recycle_5 (by decide) ?_
  refine lv_istore_n (lv' := [(1, .int (nI 0)), (0, .ref (ad (10, 0)))]) hx hb dX3_recycle_6 rfl hl (by decide) rfl (fun ls hl => ?_)
  refine lv_iconst (v := nI 0) hx hb dX3_recycle_7 (by decide) ?_
  refine lv_istore_n (lv' := [(2, .int (nI 0)), (1, .int (nI 0)), (0, .ref (ad (10, 0)))]) hx hb dX3_recycle_8 rfl hl (by decide) rfl (fun ls hl => ?_)
  suffices key : ∀ (d : Nat) (i : Nat) (n : Nat) (ct1 : Lb → va_E) (H : Heap) (locs : List Loc) (ls : Array Slot), i + d = 800 → n = cntB i (fun n => lv n && rcB go cn op ce n) → MDF G ad dm ct1 (rcL lv go cn op ce i) lev lo hi ri sz ky vl go rt ep wq wn cn op cl ca ce kc nb 0 fo → XM ct0 ct1 → wd G A (ad, dm, ct1) H → va_S A s.heap H locs → lv_has ls 3 [(2, .int (nI i)), (1, .int (nI n)), (0, .ref (ad (10, 0)))] → W _ l e _ s m _ below meth c H locs 0 0 _ (F0 m 9 ls []) from
    key 800 0 0 _ _ _ ls (Nat.zero_add _) rfl (by rw [rcL_0]; exact hM) hX hW hS hl
  clear hM hX hW hS hl
  intro d
  induction d with
  | zero =>
    intro i n ct H locs ls hi2 hn hM hX hW hS hl
    refine lv_iload_n hx hb dX3_recycle_9 rfl (lv_at hl 0 rfl) ?_
    refine lv_sipush (v := nI 800) hx hb dX3_recycle_10 (by decide) ?_
    refine nc_ge (tgt := 40) hx hb dX3_recycle_13 (by decide) (by omega) (by omega) (fun c1 => ?_) (fun c1 => ?_)
    · refine lv_iload_n hx hb dX3_recycle_40 rfl (lv_at hl 1 rfl) ?_
      have hn9 : n = cntB 800 (fun n => lv n && rcB go cn op ce n) := by rw [hn, show i = 800 by omega]
      have hL : rcL lv go cn op ce i = fun n => lv n && !rcB go cn op ce n := by
        funext n; unfold rcL
        rcases Nat.lt_or_ge n i with h | h
        · simp [h]
        · have hv : lv n = false := by
            cases h2 : lv n with
            | false => rfl
            | true => have := (hP.1 n h2).1; omega
          rw [hv]; rfl
      rw [hL] at hM
      exact kr_i F hr hlk hE hW hS (Nat.le_of_ble_eq_true rfl) (Nat.le_of_ble_eq_true rfl) dX3_recycle_41 (⟨_, rfl, hM, hX, by rw [hn9]; rfl⟩)
    · exact absurd c1 (by omega)
  | succ d ih =>
    intro i n ct H locs ls hi2 hn hM hX hW hS hl
    refine lv_iload_n hx hb dX3_recycle_9 rfl (lv_at hl 0 rfl) ?_
    refine lv_sipush (v := nI 800) hx hb dX3_recycle_10 (by decide) ?_
    refine nc_ge (tgt := 40) hx hb dX3_recycle_13 (by decide) (by omega) (by omega) (fun c1 => ?_) (fun c1 => ?_)
    · exact absurd c1 (by omega)
    · refine lv_aload_n hx hb dX3_recycle_16 rfl (lv_at hl 2 rfl) ?_
      refine lv_iload_n hx hb dX3_recycle_17 rfl (lv_at hl 0 rfl) ?_
      refine kc_V 1 (c_X3_mayRecycle l G A ad dm ct (rcL lv go cn op ce i) lev lo hi ri sz ky vl go rt ep wq wn cn op cl ca ce kc nb 0 fo hM i c1 hCu.1 (fun e h1 h2 => by rw [rcL_at] at h1; have := (hP.2.2.2.2.2.2.1 i e h1 h2).2.2; omega) (fun j hj => by have := (hCu.2 j hj).2.1; omega)) F hE hW hS (10, 0) (hM.1 0 (by decide)) hM.2.1 rfl [.int (nI i)] rfl kw_762 kw_764 kp_27 kw_6 kw_765 (by decide +kernel) rfl ⟨rfl, rfl⟩ ⟨Nat.le_of_ble_eq_true rfl, Nat.le_of_ble_eq_true rfl⟩ hl.1 rfl (Nat.le_of_ble_eq_true rfl) dX3_recycle_18 ⟨Nat.le_of_ble_eq_true rfl, Nat.le_of_ble_eq_true rfl⟩ (fun _ _ _ _ _ h => h.elim) (fun v w' H locs hp hW hS => ?_)
      obtain ⟨rfl, rfl⟩ := hp
      rw [rcL_at]
      cases hv : (lv i && rcB go cn op ce i) with
      | false =>
        refine nz_eq (tgt := 34) hx hb dX3_recycle_21 (by decide) (by decide) (fun c9 => ?_) (fun c9 => ?_)
        · refine lv_iinc (v := nI (i + 1)) (lv' := [(2, .int (nI (i + 1))), (1, .int (nI n)), (0, .ref (ad (10, 0)))]) hx hb dX3_recycle_34 hl (k := 0) rfl (ki1 _) (by decide) rfl (fun ls hl => ?_)
          refine lv_goto (tgt := 9) hx hb dX3_recycle_37 (by decide) ?_
          exact ih (i + 1) n _ _ _ _ (by omega) (by rw [cntB_s0 hv]; exact hn) (by rw [rcL_s0 hv]; exact hM) hX hW hS (lv_sub hl [0, 1, 2] rfl)
        · exact absurd c9 (by decide)
      | true =>
        refine nz_eq (tgt := 34) hx hb dX3_recycle_21 (by decide) (by decide) (fun c9 => ?_) (fun c9 => ?_)
        · exact absurd c9 (by decide)
        · refine lv_aload_n hx hb dX3_recycle_24 rfl (lv_at hl 2 rfl) ?_
          refine kg F hE hW (10, 0) (hM.1 0 (by decide)) rfl hM.2.1 rfl inA_X3 1 (by decide) kw_607 (v := .ref (ad (10, 1))) rfl dX3_recycle_25 ?_
          refine lv_iload_n hx hb dX3_recycle_28 rfl (lv_at hl 0 rfl) ?_
          refine lv_iconst (v := nI 0) hx hb dX3_recycle_29 (by decide) ?_
          refine ms_lv (v := false) F hE hW hS hM i rfl (by omega) dX3_recycle_30 (fun ct H locs hW hM hX0 hS => ?_)
          have hX := hX.tr hX0
          refine lv_iinc (v := nI (n + 1)) (lv' := [(1, .int (nI (n + 1))), (2, .int (nI i)), (0, .ref (ad (10, 0)))]) hx hb dX3_recycle_31 hl (k := 1) rfl (ki1 _) (by decide) rfl (fun ls hl => ?_)
          refine lv_iinc (v := nI (i + 1)) (lv' := [(2, .int (nI (i + 1))), (1, .int (nI (n + 1))), (0, .ref (ad (10, 0)))]) hx hb dX3_recycle_34 hl (k := 1) rfl (ki1 _) (by decide) rfl (fun ls hl => ?_)
          refine lv_goto (tgt := 9) hx hb dX3_recycle_37 (by decide) ?_
          exact ih (i + 1) (n + 1) _ _ _ _ (by omega) (by rw [cntB_s1 hv, hn]) (by rw [← rcL_s1 hv]; exact hM) hX hW hS (lv_sub hl [0, 1, 2] rfl)
