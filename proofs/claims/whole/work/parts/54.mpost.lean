/-! The reference: posting, removing. -/
def shQ (f : Nat → Nat) (k : Nat) : Nat → Nat := fun i => if i < k then f (i + 1) else f i
theorem shQ_0 (f : Nat → Nat) : shQ f 0 = f := by funext i; unfold shQ; rw [if_neg (by omega)]
theorem shQ_at (f : Nat → Nat) (k : Nat) : shQ f k (k + 1) = f (k + 1) := by unfold shQ; rw [if_neg (by omega)]
theorem shQ_step (f : Nat → Nat) (k : Nat) : va_up (shQ f k) k (f (k + 1)) = shQ f (k + 1) := by
  funext i
  by_cases e : i = k
  · subst e; rw [va_up_self]; unfold shQ; rw [if_pos (by omega)]
  · rw [va_up_ne _ _ e]; unfold shQ
    by_cases q : i < k
    · rw [if_pos q, if_pos (by omega)]
    · rw [if_neg q, if_neg (by omega)]
def shD (f : Nat → Nat) (pg j t : Nat) : Nat → Nat := fun i => if 5 * pg + j ≤ i ∧ i < 5 * pg + t then f (i + 1) else f i
theorem shD_0 (f : Nat → Nat) (pg j : Nat) : shD f pg j j = f := by funext i; unfold shD; rw [if_neg (by omega)]
theorem shD_at (f : Nat → Nat) (pg j t : Nat) : shD f pg j t (5 * pg + t + 1) = f (5 * pg + t + 1) := by unfold shD; rw [if_neg (by omega)]
theorem shD_step (f : Nat → Nat) (pg j t : Nat) (h : j ≤ t) : va_up (shD f pg j t) (5 * pg + t) (f (5 * pg + t + 1)) = shD f pg j (t + 1) := by
  funext i
  by_cases e : i = 5 * pg + t
  · subst e; rw [va_up_self]; unfold shD; rw [if_pos (by omega)]
  · rw [va_up_ne _ _ e]; unfold shD
    by_cases q : 5 * pg + j ≤ i ∧ i < 5 * pg + t
    · rw [if_pos q, if_pos (by omega)]
    · rw [if_neg q, if_neg (by omega)]
theorem shD_end (f : Nat → Nat) (pg j n : Nat) (h : 0 < n) : shD f pg j (n - 1) = delA f pg j n := by
  funext i; unfold shD delA
  by_cases q : 5 * pg + j ≤ i ∧ i < 5 * pg + (n - 1)
  · rw [if_pos q, if_pos (by omega)]
  · rw [if_neg q, if_neg (by omega)]
set_option maxRecDepth 100000 in
set_option maxHeartbeats 4000000 in
theorem c_X3_posts (l : Launch) (G : GG) (A : Nat → Prop) (ad : Lb → Nat) (dm : Lb → Prop) (ct0 : Lb → va_E) (lv : Nat → Bool) (lev : Nat → Nat) (lo : Nat → Nat) (hi : Nat → Nat) (ri : Nat → Option Nat) (sz : Nat → Nat) (ky : Nat → Nat) (vl : Nat → Nat) (go : Nat → Option Nat) (rt : Nat) (ep : Nat) (wq : Nat → Nat) (wn : Nat) (cn : Nat) (op : Nat → Bool) (cl : Nat → Nat) (ca : Nat → Nat) (ce : Nat → Nat) (kc : Nat) (nb : Nat) (th fo : Nat) (hM : MDF G ad dm ct0 lv lev lo hi ri sz ky vl go rt ep wq wn cn op cl ca ce kc nb th fo) (t0 : Nat) (hI : InvF lv lev lo hi ri sz ky vl go rt ep wq wn cn op cl ca ce kc nb 800 t0) (hwn : 0 < wn) :
    CT l yX3_posts cX3_posts 3 none { frames := 3, cells := 0, slots := 0, locals := 72 } [.ref (ad (10, 0))] G A (ad, dm, ct0) (fun v w' => ∃ ct' fo', w' = (ad, dm, ct') ∧ MD G ad dm ct' (posS (lv, lev, lo, hi, ri, sz, ky, vl, go, rt, ep, wq, wn, cn, op, cl, ca, ce, kc, nb)) th fo' ∧ XM ct0 ct' ∧ v = none) (fun _ => False) (0) (0) := by
  refine ct_of (by decide) (Nat.le_of_ble_eq_true rfl) ?_
  intro p e s m below meth c ls F hr hlk hnm hex hE hW hl
  have hx := F.1
  have hb := F.2.1
  have hS : va_S A s.heap s.heap [] := va_S.rf
  have hl : lv_has ls 3 [(0, .ref (ad (10, 0)))] := hl
  have hX : XM ct0 ct0 := XM.rf
  obtain ⟨hP, hQ, -, -, hsum, ht, -, -⟩ := hI
  have hb9 : nb ≤ 513 := by omega
  have hwn9 : wn ≤ 513 := by omega
  obtain ⟨hq1, hq2, hq3, -⟩ := hQ 0 hwn
  obtain ⟨g1, g2, g3, g4, g5, g6⟩ := pg_bd hP hb9 hq1.1
  obtain ⟨hfr1, hfr2, hfr3⟩ := fr_spec hP hb9
  obtain ⟨r1, r2, r3, r4, r5, r6⟩ := pg_bd hP hb9 hP.2.2.2.2.2.2.2.1.1.1
  refine lv_aload_n hx hb dX3_posts_0 rfl (lv_at hl 0 rfl) ?_
  refine kg F hE hW (10, 0) (hM.1 0 (by decide)) rfl hM.2.1 rfl inA_X3 12 (by decide) kw_618 (v := .ref (ad (10, 10))) rfl dX3_posts_1 ?_
  refine lv_iconst (v := nI 0) hx hb dX3_posts_4 (by decide) ?_
  refine kl_i F hE hW (10, 10) (hM.1 10 (by decide)) rfl hM.2.2.2.2.2.2.2.2.2.2.2.1 0 rfl (by omega) (by decide) dX3_posts_5 ?_
  refine lv_istore_n (lv' := [(1, .int (nI (wq 0))), (0, .ref (ad (10, 0)))]) hx hb dX3_posts_6 rfl hl (by decide) rfl (fun ls hl => ?_)
  refine lv_aload_n hx hb dX3_posts_7 rfl (lv_at hl 1 rfl) ?_
  refine lv_dup hx hb dX3_posts_8 rfl ?_
  refine kg F hE hW (10, 0) (hM.1 0 (by decide)) rfl hM.2.1 rfl inA_X3 13 (by decide) kw_619 (v := .int (nI wn)) rfl dX3_posts_9 ?_
  refine lv_iconst (v := nI 1) hx hb dX3_posts_12 (by decide) ?_
  refine lv_isub hx hb dX3_posts_13 ?_
  refine ktop (pk_sub (by omega)) ?_
  refine mp_wn (v := wn - 1) F hE hW hS hM kw_619 dX3_posts_14 (fun ct H locs hW hM hX0 hS => ?_)
  have hX := hX.tr hX0
  refine lv_iconst (v := nI 0) hx hb dX3_posts_17 (by decide) ?_
  refine lv_istore_n (lv' := [(2, .int (nI 0)), (1, .int (nI (wq 0))), (0, .ref (ad (10, 0)))]) hx hb dX3_posts_18 rfl hl (by decide) rfl (fun ls hl => ?_)
  suffices key : ∀ (d k9 : Nat) (ct1 : Lb → va_E) (H : Heap) (locs : List Loc) (ls : Array Slot), k9 + d = wn - 1 → MDF G ad dm ct1 lv lev lo hi ri sz ky vl go rt ep (shQ wq k9) (wn - 1) cn op cl ca ce kc nb th fo → XM ct0 ct1 → wd G A (ad, dm, ct1) H → va_S A s.heap H locs → lv_has ls 3 [(2, .int (nI k9)), (1, .int (nI (wq 0))), (0, .ref (ad (10, 0)))] → W _ l e _ s m _ below meth c H locs 0 0 _ (F0 m 19 ls []) from
    key (wn - 1) 0 _ _ _ ls (Nat.zero_add _) (by rw [shQ_0]; exact hM) hX hW hS hl
  clear hM hX hW hS hl
  intro d
  induction d with
  | zero =>
    intro k9 ct H locs ls hk9 hM hX hW hS hl
    refine lv_iload_n hx hb dX3_posts_19 rfl (lv_at hl 0 rfl) ?_
    refine lv_aload_n hx hb dX3_posts_20 rfl (lv_at hl 2 rfl) ?_
    refine kg F hE hW (10, 0) (hM.1 0 (by decide)) rfl hM.2.1 rfl inA_X3 13 (by decide) kw_619 (v := .int (nI (wn - 1))) rfl dX3_posts_21 ?_
    refine nc_ge (tgt := 47) hx hb dX3_posts_24 (by decide) (by omega) (by omega) (fun c1 => ?_) (fun c1 => ?_)
    · obtain rfl : k9 = wn - 1 := by omega
      refine lv_aload_n hx hb dX3_posts_47 rfl (lv_at hl 2 rfl) ?_
      refine kg F hE hW (10, 0) (hM.1 0 (by decide)) rfl hM.2.1 rfl inA_X3 2 (by decide) kw_608 (v := .ref (ad (10, 2))) rfl dX3_posts_48 ?_
      refine lv_iload_n hx hb dX3_posts_51 rfl (lv_at hl 1 rfl) ?_
      refine kl_i F hE hW (10, 2) (hM.1 2 (by decide)) rfl hM.2.2.2.1 (wq 0) rfl (by omega) (by decide) dX3_posts_52 ?_
      refine lv_aload_n hx hb dX3_posts_53 rfl (lv_at hl 2 rfl) ?_
      refine kg F hE hW (10, 0) (hM.1 0 (by decide)) rfl hM.2.1 rfl inA_X3 2 (by decide) kw_608 (v := .ref (ad (10, 2))) rfl dX3_posts_54 ?_
      refine lv_aload_n hx hb dX3_posts_57 rfl (lv_at hl 2 rfl) ?_
      refine kg F hE hW (10, 0) (hM.1 0 (by decide)) rfl hM.2.1 rfl inA_X3 10 (by decide) kw_616 (v := .int (nI rt)) rfl dX3_posts_58 ?_
      refine kl_i F hE hW (10, 2) (hM.1 2 (by decide)) rfl hM.2.2.2.1 rt rfl (by omega) (by decide) dX3_posts_61 ?_
      refine nc_ne (tgt := 122) hx hb dX3_posts_62 (by decide) (by omega) (by omega) (fun c2 => ?_) (fun c2 => ?_)
      · refine lv_aload_n hx hb dX3_posts_122 rfl (lv_at hl 2 rfl) ?_
        refine lv_aload_n hx hb dX3_posts_123 rfl (lv_at hl 2 rfl) ?_
        refine lv_aload_n hx hb dX3_posts_124 rfl (lv_at hl 2 rfl) ?_
        refine kg F hE hW (10, 0) (hM.1 0 (by decide)) rfl hM.2.1 rfl inA_X3 3 (by decide) kw_609 (v := .ref (ad (10, 3))) rfl dX3_posts_125 ?_
        refine lv_iload_n hx hb dX3_posts_128 rfl (lv_at hl 1 rfl) ?_
        refine kl_i F hE hW (10, 3) (hM.1 3 (by decide)) rfl hM.2.2.2.2.1 (wq 0) rfl (by omega) (by decide) dX3_posts_129 ?_
        refine lv_aload_n hx hb dX3_posts_130 rfl (lv_at hl 2 rfl) ?_
        refine kg F hE hW (10, 0) (hM.1 0 (by decide)) rfl hM.2.1 rfl inA_X3 2 (by decide) kw_608 (v := .ref (ad (10, 2))) rfl dX3_posts_131 ?_
        refine lv_iload_n hx hb dX3_posts_134 rfl (lv_at hl 1 rfl) ?_
        refine kl_i F hE hW (10, 2) (hM.1 2 (by decide)) rfl hM.2.2.2.1 (wq 0) rfl (by omega) (by decide) dX3_posts_135 ?_
        refine lv_iconst (v := nI 1) hx hb dX3_posts_136 (by decide) ?_
        refine lv_iadd hx hb dX3_posts_137 ?_
        refine ktop (nI_add _ _) ?_
        refine kc_V 2 (c_X3_down l G A ad dm ct lv lev lo hi ri sz ky vl go rt ep (shQ wq (wn - 1)) (wn - 1) cn op cl ca ce kc nb th fo hM 800 (lo (wq 0)) (lev (wq 0) + 1) hP hb9 (by omega) (by have := (hP.1 _ hq1.1).2.1; omega)) F hE hW hS (10, 0) (hM.1 0 (by decide)) hM.2.1 rfl [.int (nI (lo (wq 0))), .int (nI ((lev (wq 0)) + 1))] rfl kw_686 kw_688 kp_17 kw_6 kw_689 (by decide +kernel) rfl ⟨rfl, rfl⟩ ⟨Nat.le_of_ble_eq_true rfl, Nat.le_of_ble_eq_true rfl⟩ hl.1 rfl (Nat.le_of_ble_eq_true rfl) dX3_posts_138 ⟨Nat.le_of_ble_eq_true rfl, Nat.le_of_ble_eq_true rfl⟩ (fun _ _ _ _ _ h => h.elim) (fun v w' H locs hp hW hS => ?_)
        obtain ⟨ct2, rfl, hM, hX0, rfl⟩ := hp
        have hX := hX.tr hX0
        have hAt := dnF_at hP (by omega) 2000 rt (vp_root (key := lo (wq 0)) (lvl := lev (wq 0) + 1) hP (by have := (hP.1 _ hq1.1).2.1; omega)) (by have := mu_root hP hb9; omega)
        obtain ⟨pz, hpz⟩ : ∃ z, (dnF lev hi ri sz ky vl (lo (wq 0)) (lev (wq 0) + 1) 2000 rt).1 = z := ⟨_, rfl⟩
        rw [hpz] at hAt ⊢
        obtain ⟨u1, u2, u3, u4, u5, u6⟩ := pg_bd hP hb9 hAt.1.1
        have u7 : sz pz ≤ 4 := by have := (hP.1 pz hAt.1.1).2.2.2.2; rw [if_neg (by omega)] at this; exact this
        refine lv_aload_n hx hb dX3_posts_141 rfl (lv_at hl 2 rfl) ?_
        refine kg F hE hW (10, 0) (hM.1 0 (by decide)) rfl hM.2.1 rfl inA_X3 3 (by decide) kw_609 (v := .ref (ad (10, 3))) rfl dX3_posts_142 ?_
        refine lv_iload_n hx hb dX3_posts_145 rfl (lv_at hl 1 rfl) ?_
        refine kl_i F hE hW (10, 3) (hM.1 3 (by decide)) rfl hM.2.2.2.2.1 (wq 0) rfl (by omega) (by decide) dX3_posts_146 ?_
        refine lv_iload_n hx hb dX3_posts_147 rfl (lv_at hl 1 rfl) ?_
        refine kc_V 3 (c_X3_adds l G A ad dm ct2 lv lev lo hi ri sz ky vl go rt ep (shQ wq (wn - 1)) (wn - 1) cn op cl ca ce kc nb th ((dnF lev hi ri sz ky vl (lo (wq 0)) (lev (wq 0) + 1) 2000 rt).2) hM pz (lo (wq 0)) (wq 0) (by omega) u7 (by omega) (fun i hi9 => by have := (u6 i hi9).1; omega) hAt.1.1 (by omega) hfr1 hfr2 (by omega)) F hE hW hS (10, 0) (hM.1 0 (by decide)) hM.2.1 rfl [.int (nI pz), .int (nI (lo (wq 0))), .int (nI (wq 0))] rfl kw_698 kw_700 kp_20 kw_6 kw_701 (by decide +kernel) rfl ⟨rfl, rfl⟩ ⟨Nat.le_of_ble_eq_true rfl, Nat.le_of_ble_eq_true rfl⟩ hl.1 rfl (Nat.le_of_ble_eq_true rfl) dX3_posts_148 ⟨Nat.le_of_ble_eq_true rfl, Nat.le_of_ble_eq_true rfl⟩ (fun _ _ _ _ _ h => h.elim) (fun v w' H locs hp hW hS => ?_)
        obtain ⟨ct2, rfl, hM, hX0, rfl⟩ := hp
        have hX := hX.tr hX0
        exact kr_v F hr hlk hE hW hS (Nat.le_of_ble_eq_true rfl) (Nat.le_of_ble_eq_true rfl) dX3_posts_151 (⟨_, _, rfl, by
            unfold posS
            dsimp only
            rw [if_neg (by omega)]
            unfold popS dn
            dsimp only
            rw [hpz]
            exact hM, hX, rfl⟩)
      · refine lv_aload_n hx hb dX3_posts_65 rfl (lv_at hl 2 rfl) ?_
        refine lv_aload_n hx hb dX3_posts_66 rfl (lv_at hl 2 rfl) ?_
        refine kg F hE hW (10, 0) (hM.1 0 (by decide)) rfl hM.2.1 rfl inA_X3 2 (by decide) kw_608 (v := .ref (ad (10, 2))) rfl dX3_posts_67 ?_
        refine lv_iload_n hx hb dX3_posts_70 rfl (lv_at hl 1 rfl) ?_
        refine kl_i F hE hW (10, 2) (hM.1 2 (by decide)) rfl hM.2.2.2.1 (wq 0) rfl (by omega) (by decide) dX3_posts_71 ?_
        refine lv_iconst (v := nI 1) hx hb dX3_posts_72 (by decide) ?_
        refine lv_iadd hx hb dX3_posts_73 ?_
        refine ktop (nI_add _ _) ?_
        refine lv_iconst (v := nI 0) hx hb dX3_posts_74 (by decide) ?_
        refine lv_sipush (v := nI 200) hx hb dX3_posts_75 (by decide) ?_
        refine lv_iconst (v := (-1)) hx hb dX3_posts_78 (by decide) ?_
        refine kc_V 4 (c_X3_made l G A ad dm ct lv lev lo hi ri sz ky vl go rt ep (shQ wq (wn - 1)) (wn - 1) cn op cl ca ce kc nb th fo hM (lev (wq 0) + 1) 0 200 (-1) none rfl hfr1 hfr2 (by omega)) F hE hW hS (10, 0) (hM.1 0 (by decide)) hM.2.1 rfl [.int (nI ((lev (wq 0)) + 1)), .int (nI 0), .int (nI 200), .int (-1)] rfl kw_602 kw_604 kp_15 kw_6 kw_605 (by decide +kernel) rfl ⟨rfl, rfl⟩ ⟨Nat.le_of_ble_eq_true rfl, Nat.le_of_ble_eq_true rfl⟩ hl.1 rfl (Nat.le_of_ble_eq_true rfl) dX3_posts_79 ⟨Nat.le_of_ble_eq_true rfl, Nat.le_of_ble_eq_true rfl⟩ (fun _ _ _ _ _ h => h.elim) (fun v w' H locs hp hW hS => ?_)
        obtain ⟨ct2, rfl, hM, hX0, rfl⟩ := hp
        have hX := hX.tr hX0
        refine lv_istore_n (lv' := [(2, .int (nI (fr lv))), (1, .int (nI (wq 0))), (0, .ref (ad (10, 0)))]) hx hb dX3_posts_82 rfl hl (by decide) rfl (fun ls hl => ?_)
        refine lv_aload_n hx hb dX3_posts_83 rfl (lv_at hl 2 rfl) ?_
        refine lv_iload_n hx hb dX3_posts_84 rfl (lv_at hl 0 rfl) ?_
        refine lv_iconst (v := nI 0) hx hb dX3_posts_85 (by decide) ?_
        refine lv_iconst (v := nI 0) hx hb dX3_posts_86 (by decide) ?_
        refine lv_aload_n hx hb dX3_posts_87 rfl (lv_at hl 2 rfl) ?_
        refine kg F hE hW (10, 0) (hM.1 0 (by decide)) rfl hM.2.1 rfl inA_X3 10 (by decide) kw_616 (v := .int (nI rt)) rfl dX3_posts_88 ?_
        refine kc_V 4 (c_X3_sets l G A ad dm ct2 (va_up lv (fr lv) true) (va_up lev (fr lv) (lev (wq 0) + 1)) (va_up lo (fr lv) 0) (va_up hi (fr lv) 200) (va_up ri (fr lv) none) (va_up sz (fr lv) 0) ky vl (va_up go (fr lv) none) rt ep (shQ wq (wn - 1)) (wn - 1) cn op cl ca ce kc nb th fo hM (fr lv) 0 0 rt (by omega) (by decide)) F hE hW hS (10, 0) (hM.1 0 (by decide)) hM.2.1 rfl [.int (nI (fr lv)), .int (nI 0), .int (nI 0), .int (nI rt)] rfl kw_702 kw_704 kp_21 kw_6 kw_705 (by decide +kernel) rfl ⟨rfl, rfl⟩ ⟨Nat.le_of_ble_eq_true rfl, Nat.le_of_ble_eq_true rfl⟩ hl.1 rfl (Nat.le_of_ble_eq_true rfl) dX3_posts_91 ⟨Nat.le_of_ble_eq_true rfl, Nat.le_of_ble_eq_true rfl⟩ (fun _ _ _ _ _ h => h.elim) (fun v w' H locs hp hW hS => ?_)
        obtain ⟨ct2, rfl, hM, hX0, rfl⟩ := hp
        have hX := hX.tr hX0
        have hnw : wq 0 ≠ fr lv := by intro h; rw [← h] at hfr1; rw [hq1.1] at hfr1; cases hfr1
        refine lv_aload_n hx hb dX3_posts_94 rfl (lv_at hl 2 rfl) ?_
        refine lv_iload_n hx hb dX3_posts_95 rfl (lv_at hl 0 rfl) ?_
        refine lv_iconst (v := nI 1) hx hb dX3_posts_96 (by decide) ?_
        refine lv_aload_n hx hb dX3_posts_97 rfl (lv_at hl 2 rfl) ?_
        refine kg F hE hW (10, 0) (hM.1 0 (by decide)) rfl hM.2.1 rfl inA_X3 3 (by decide) kw_609 (v := .ref (ad (10, 3))) rfl dX3_posts_98 ?_
        refine lv_iload_n hx hb dX3_posts_101 rfl (lv_at hl 1 rfl) ?_
        refine kl_i F hE hW (10, 3) (hM.1 3 (by decide)) rfl hM.2.2.2.2.1 (wq 0) rfl (by omega) (by decide) dX3_posts_102 ?_
        refine ktop (congrArg nI (va_up_ne _ _ hnw)) ?_
        refine lv_iload_n hx hb dX3_posts_103 rfl (lv_at hl 1 rfl) ?_
        refine kc_V 4 (c_X3_sets l G A ad dm ct2 (va_up lv (fr lv) true) (va_up lev (fr lv) (lev (wq 0) + 1)) (va_up lo (fr lv) 0) (va_up hi (fr lv) 200) (va_up ri (fr lv) none) (va_up sz (fr lv) 0) (va_up ky (5 * fr lv + 0) 0) (va_up vl (5 * fr lv + 0) rt) (va_up go (fr lv) none) rt ep (shQ wq (wn - 1)) (wn - 1) cn op cl ca ce kc nb th fo hM (fr lv) 1 (lo (wq 0)) (wq 0) (by omega) (by decide)) F hE hW hS (10, 0) (hM.1 0 (by decide)) hM.2.1 rfl [.int (nI (fr lv)), .int (nI 1), .int (nI (lo (wq 0))), .int (nI (wq 0))] rfl kw_702 kw_704 kp_21 kw_6 kw_705 (by decide +kernel) rfl ⟨rfl, rfl⟩ ⟨Nat.le_of_ble_eq_true rfl, Nat.le_of_ble_eq_true rfl⟩ hl.1 rfl (Nat.le_of_ble_eq_true rfl) dX3_posts_104 ⟨Nat.le_of_ble_eq_true rfl, Nat.le_of_ble_eq_true rfl⟩ (fun _ _ _ _ _ h => h.elim) (fun v w' H locs hp hW hS => ?_)
        obtain ⟨ct2, rfl, hM, hX0, rfl⟩ := hp
        have hX := hX.tr hX0
        refine lv_aload_n hx hb dX3_posts_107 rfl (lv_at hl 2 rfl) ?_
        refine kg F hE hW (10, 0) (hM.1 0 (by decide)) rfl hM.2.1 rfl inA_X3 6 (by decide) kw_612 (v := .ref (ad (10, 6))) rfl dX3_posts_108 ?_
        refine lv_iload_n hx hb dX3_posts_111 rfl (lv_at hl 0 rfl) ?_
        refine lv_iconst (v := nI 2) hx hb dX3_posts_112 (by decide) ?_
        refine ms_sz (v := 2) F hE hW hS hM (fr lv) rfl (by omega) dX3_posts_113 (fun ct H locs hW hM hX0 hS => ?_)
        have hX := hX.tr hX0
        rw [bx_uu] at hM
        refine lv_aload_n hx hb dX3_posts_114 rfl (lv_at hl 2 rfl) ?_
        refine lv_iload_n hx hb dX3_posts_115 rfl (lv_at hl 0 rfl) ?_
        refine mp_rt (v := fr lv) F hE hW hS hM kw_616 dX3_posts_116 (fun ct H locs hW hM hX0 hS => ?_)
        have hX := hX.tr hX0
        refine lv_goto (tgt := 151) hx hb dX3_posts_119 (by decide) ?_
        exact kr_v F hr hlk hE hW hS (Nat.le_of_ble_eq_true rfl) (Nat.le_of_ble_eq_true rfl) dX3_posts_151 (⟨_, _, rfl, by
            unfold posS
            dsimp only
            rw [if_pos (by omega)]
            unfold groS popS MD
            dsimp only
            exact hM, hX, rfl⟩)
    · exact absurd c1 (by omega)
  | succ d ih =>
    intro k9 ct H locs ls hk9 hM hX hW hS hl
    refine lv_iload_n hx hb dX3_posts_19 rfl (lv_at hl 0 rfl) ?_
    refine lv_aload_n hx hb dX3_posts_20 rfl (lv_at hl 2 rfl) ?_
    refine kg F hE hW (10, 0) (hM.1 0 (by decide)) rfl hM.2.1 rfl inA_X3 13 (by decide) kw_619 (v := .int (nI (wn - 1))) rfl dX3_posts_21 ?_
    refine nc_ge (tgt := 47) hx hb dX3_posts_24 (by decide) (by omega) (by omega) (fun c1 => ?_) (fun c1 => ?_)
    · exact absurd c1 (by omega)
    · refine lv_aload_n hx hb dX3_posts_27 rfl (lv_at hl 2 rfl) ?_
      refine kg F hE hW (10, 0) (hM.1 0 (by decide)) rfl hM.2.1 rfl inA_X3 12 (by decide) kw_618 (v := .ref (ad (10, 10))) rfl dX3_posts_28 ?_
      refine lv_iload_n hx hb dX3_posts_31 rfl (lv_at hl 0 rfl) ?_
      refine lv_aload_n hx hb dX3_posts_32 rfl (lv_at hl 2 rfl) ?_
      refine kg F hE hW (10, 0) (hM.1 0 (by decide)) rfl hM.2.1 rfl inA_X3 12 (by decide) kw_618 (v := .ref (ad (10, 10))) rfl dX3_posts_33 ?_
      refine lv_iload_n hx hb dX3_posts_36 rfl (lv_at hl 0 rfl) ?_
      refine lv_iconst (v := nI 1) hx hb dX3_posts_37 (by decide) ?_
      refine lv_iadd hx hb dX3_posts_38 ?_
      refine ktop (nI_add _ _) ?_
      refine kl_i F hE hW (10, 10) (hM.1 10 (by decide)) rfl hM.2.2.2.2.2.2.2.2.2.2.2.1 (k9 + 1) rfl (by omega) (by decide) dX3_posts_39 ?_
      refine ktop (congrArg nI (shQ_at _ _)) ?_
      refine ms_wq (v := wq (k9 + 1)) F hE hW hS hM k9 rfl (by omega) dX3_posts_40 (fun ct H locs hW hM hX0 hS => ?_)
      have hX := hX.tr hX0
      refine lv_iinc (v := nI (k9 + 1)) (lv' := [(2, .int (nI (k9 + 1))), (1, .int (nI (wq 0))), (0, .ref (ad (10, 0)))]) hx hb dX3_posts_41 hl (k := 0) rfl (ki1 _) (by decide) rfl (fun ls hl => ?_)
      refine lv_goto (tgt := 19) hx hb dX3_posts_44 (by decide) ?_
      exact ih (k9 + 1) _ _ _ _ (by omega) (by rw [← shQ_step]; exact hM) hX hW hS (lv_sub hl [0, 1, 2] rfl)
set_option maxRecDepth 100000 in
set_option maxHeartbeats 4000000 in
theorem c_X3_removes (l : Launch) (G : GG) (A : Nat → Prop) (ad : Lb → Nat) (dm : Lb → Prop) (ct0 : Lb → va_E) (lv : Nat → Bool) (lev : Nat → Nat) (lo : Nat → Nat) (hi : Nat → Nat) (ri : Nat → Option Nat) (sz : Nat → Nat) (ky : Nat → Nat) (vl : Nat → Nat) (go : Nat → Option Nat) (rt : Nat) (ep : Nat) (wq : Nat → Nat) (wn : Nat) (cn : Nat) (op : Nat → Bool) (cl : Nat → Nat) (ca : Nat → Nat) (ce : Nat → Nat) (kc : Nat) (nb : Nat) (th fo : Nat) (hM : MDF G ad dm ct0 lv lev lo hi ri sz ky vl go rt ep wq wn cn op cl ca ce kc nb th fo) (pg j0 : Nat) (hp0 : pg < 800) (hs5 : sz pg ≤ 5) (hj0 : j0 < sz pg) :
    CT l yX3_removes cX3_removes 4 none { frames := 1, cells := 0, slots := 0, locals := 24 } [.ref (ad (10, 0)), .int (nI pg), .int (nI j0)] G A (ad, dm, ct0) (fun v w' => ∃ ct', w' = (ad, dm, ct') ∧ MDF G ad dm ct' lv lev lo hi ri (va_up sz pg (sz pg - 1)) (delA ky pg j0 (sz pg)) (delA vl pg j0 (sz pg)) go rt ep wq wn cn op cl ca ce kc nb th fo ∧ XM ct0 ct' ∧ v = none) (fun _ => False) (0) (0) := by
  refine ct_of (by decide) (Nat.le_of_ble_eq_true rfl) ?_
  intro p e s m below meth c ls F hr hlk hnm hex hE hW hl
  have hx := F.1
  have hb := F.2.1
  have hS : va_S A s.heap s.heap [] := va_S.rf
  have hl : lv_has ls 4 [(0, .ref (ad (10, 0))), (1, .int (nI pg)), (2, .int (nI j0))] := hl
  have hX : XM ct0 ct0 := XM.rf
  refine lv_aload_n hx hb dX3_removes_0 rfl (lv_at hl 0 rfl) ?_
  refine kg F hE hW (10, 0) (hM.1 0 (by decide)) rfl hM.2.1 rfl inA_X3 6 (by decide) kw_612 (v := .ref (ad (10, 6))) rfl dX3_removes_1 ?_
  refine lv_iload_n hx hb dX3_removes_4 rfl (lv_at hl 1 rfl) ?_
  refine lv_dup2_11 hx hb dX3_removes_5 rfl rfl ?_
  refine kl_i F hE hW (10, 6) (hM.1 6 (by decide)) rfl hM.2.2.2.2.2.2.2.1 pg rfl (by omega) (by decide) dX3_removes_6 ?_
  refine lv_iconst (v := nI 1) hx hb dX3_removes_7 (by decide) ?_
  refine lv_isub hx hb dX3_removes_8 ?_
  refine ktop (pk_sub (by omega)) ?_
  refine ms_sz (v := sz pg - 1) F hE hW hS hM pg rfl (by omega) dX3_removes_9 (fun ct H locs hW hM hX0 hS => ?_)
  have hX := hX.tr hX0
  refine lv_iload_n hx hb dX3_removes_10 rfl (lv_at hl 2 rfl) ?_
  refine lv_istore_n (lv' := [(3, .int (nI j0)), (0, .ref (ad (10, 0))), (1, .int (nI pg)), (2, .int (nI j0))]) hx hb dX3_removes_11 rfl hl (by decide) rfl (fun ls hl => ?_)
  suffices key : ∀ (d tz : Nat) (ct1 : Lb → va_E) (H : Heap) (locs : List Loc) (ls : Array Slot), tz + d = sz pg - 1 → j0 ≤ tz → MDF G ad dm ct1 lv lev lo hi ri (va_up sz pg (sz pg - 1)) (shD ky pg j0 tz) (shD vl pg j0 tz) go rt ep wq wn cn op cl ca ce kc nb th fo → XM ct0 ct1 → wd G A (ad, dm, ct1) H → va_S A s.heap H locs → lv_has ls 4 [(3, .int (nI tz)), (0, .ref (ad (10, 0))), (1, .int (nI pg)), (2, .int (nI j0))] → W _ l e _ s m _ below meth c H locs 0 0 _ (F0 m 12 ls []) from
    key (sz pg - 1 - j0) j0 _ _ _ ls (by omega) (Nat.le_refl _) (by rw [shD_0, shD_0]; exact hM) hX hW hS (lv_sub hl [0, 1, 2, 3] rfl)
  clear hM hX hW hS hl
  intro d
  induction d with
  | zero =>
    intro tz ct H locs ls htz hjt hM hX hW hS hl
    refine lv_iload_n hx hb dX3_removes_12 rfl (lv_at hl 0 rfl) ?_
    refine lv_aload_n hx hb dX3_removes_13 rfl (lv_at hl 1 rfl) ?_
    refine kg F hE hW (10, 0) (hM.1 0 (by decide)) rfl hM.2.1 rfl inA_X3 6 (by decide) kw_612 (v := .ref (ad (10, 6))) rfl dX3_removes_14 ?_
    refine lv_iload_n hx hb dX3_removes_17 rfl (lv_at hl 2 rfl) ?_
    refine kl_i F hE hW (10, 6) (hM.1 6 (by decide)) rfl hM.2.2.2.2.2.2.2.1 pg rfl (by omega) (by decide) dX3_removes_18 ?_
    refine W.eq (g2 := F0 m 19 ls [.int (nI (sz pg - 1)), .int (nI tz)]) (by rw [va_up_self]) ?_
    refine nc_ge (tgt := 58) hx hb dX3_removes_19 (by decide) (by omega) (by omega) (fun c1 => ?_) (fun c1 => ?_)
    · exact kr_v F hr hlk hE hW hS (Nat.le_of_ble_eq_true rfl) (Nat.le_of_ble_eq_true rfl) dX3_removes_58 (⟨_, rfl, by rw [show tz = sz pg - 1 by omega, shD_end _ _ _ _ (by omega), shD_end _ _ _ _ (by omega)] at hM; exact hM, hX, rfl⟩)
    · exact absurd c1 (by omega)
  | succ d ih =>
    intro tz ct H locs ls htz hjt hM hX hW hS hl
    refine lv_iload_n hx hb dX3_removes_12 rfl (lv_at hl 0 rfl) ?_
    refine lv_aload_n hx hb dX3_removes_13 rfl (lv_at hl 1 rfl) ?_
    refine kg F hE hW (10, 0) (hM.1 0 (by decide)) rfl hM.2.1 rfl inA_X3 6 (by decide) kw_612 (v := .ref (ad (10, 6))) rfl dX3_removes_14 ?_
    refine lv_iload_n hx hb dX3_removes_17 rfl (lv_at hl 2 rfl) ?_
    refine kl_i F hE hW (10, 6) (hM.1 6 (by decide)) rfl hM.2.2.2.2.2.2.2.1 pg rfl (by omega) (by decide) dX3_removes_18 ?_
    refine W.eq (g2 := F0 m 19 ls [.int (nI (sz pg - 1)), .int (nI tz)]) (by rw [va_up_self]) ?_
    refine nc_ge (tgt := 58) hx hb dX3_removes_19 (by decide) (by omega) (by omega) (fun c1 => ?_) (fun c1 => ?_)
    · exact absurd c1 (by omega)
    · refine lv_aload_n hx hb dX3_removes_22 rfl (lv_at hl 1 rfl) ?_
      refine lv_iload_n hx hb dX3_removes_23 rfl (lv_at hl 2 rfl) ?_
      refine lv_iload_n hx hb dX3_removes_24 rfl (lv_at hl 0 rfl) ?_
      refine lv_aload_n hx hb dX3_removes_25 rfl (lv_at hl 1 rfl) ?_
      refine kg F hE hW (10, 0) (hM.1 0 (by decide)) rfl hM.2.1 rfl inA_X3 7 (by decide) kw_613 (v := .ref (ad (10, 7))) rfl dX3_removes_26 ?_
      refine lv_iconst (v := nI 5) hx hb dX3_removes_29 (by decide) ?_
      refine lv_iload_n hx hb dX3_removes_30 rfl (lv_at hl 2 rfl) ?_
      refine lv_imul hx hb dX3_removes_31 ?_
      refine ktop (pk_mul _ _) ?_
      refine lv_iload_n hx hb dX3_removes_32 rfl (lv_at hl 0 rfl) ?_
      refine lv_iadd hx hb dX3_removes_33 ?_
      refine ktop (nI_add _ _) ?_
      refine lv_iconst (v := nI 1) hx hb dX3_removes_34 (by decide) ?_
      refine lv_iadd hx hb dX3_removes_35 ?_
      refine ktop (nI_add _ _) ?_
      refine kl_i F hE hW (10, 7) (hM.1 7 (by decide)) rfl hM.2.2.2.2.2.2.2.2.1 (((5 * pg) + tz) + 1) rfl (by omega) (by decide) dX3_removes_36 ?_
      refine ktop (congrArg nI (shD_at _ _ _ _)) ?_
      refine lv_aload_n hx hb dX3_removes_37 rfl (lv_at hl 1 rfl) ?_
      refine kg F hE hW (10, 0) (hM.1 0 (by decide)) rfl hM.2.1 rfl inA_X3 8 (by decide) kw_614 (v := .ref (ad (10, 8))) rfl dX3_removes_38 ?_
      refine lv_iconst (v := nI 5) hx hb dX3_removes_41 (by decide) ?_
      refine lv_iload_n hx hb dX3_removes_42 rfl (lv_at hl 2 rfl) ?_
      refine lv_imul hx hb dX3_removes_43 ?_
      refine ktop (pk_mul _ _) ?_
      refine lv_iload_n hx hb dX3_removes_44 rfl (lv_at hl 0 rfl) ?_
      refine lv_iadd hx hb dX3_removes_45 ?_
      refine ktop (nI_add _ _) ?_
      refine lv_iconst (v := nI 1) hx hb dX3_removes_46 (by decide) ?_
      refine lv_iadd hx hb dX3_removes_47 ?_
      refine ktop (nI_add _ _) ?_
      refine kl_i F hE hW (10, 8) (hM.1 8 (by decide)) rfl hM.2.2.2.2.2.2.2.2.2.1 (((5 * pg) + tz) + 1) rfl (by omega) (by decide) dX3_removes_48 ?_
      refine ktop (congrArg nI (shD_at _ _ _ _)) ?_
      refine kc_V 4 (c_X3_sets l G A ad dm ct lv lev lo hi ri (va_up sz pg (sz pg - 1)) (shD ky pg j0 tz) (shD vl pg j0 tz) go rt ep wq wn cn op cl ca ce kc nb th fo hM pg tz (ky (5 * pg + tz + 1)) (vl (5 * pg + tz + 1)) hp0 (by omega)) F hE hW hS (10, 0) (hM.1 0 (by decide)) hM.2.1 rfl [.int (nI pg), .int (nI tz), .int (nI (ky (5 * pg + tz + 1))), .int (nI (vl (5 * pg + tz + 1)))] rfl kw_702 kw_704 kp_21 kw_6 kw_705 (by decide +kernel) rfl ⟨rfl, rfl⟩ ⟨Nat.le_of_ble_eq_true rfl, Nat.le_of_ble_eq_true rfl⟩ hl.1 rfl (Nat.le_of_ble_eq_true rfl) dX3_removes_49 ⟨Nat.le_of_ble_eq_true rfl, Nat.le_of_ble_eq_true rfl⟩ (fun _ _ _ _ _ h => h.elim) (fun v w' H locs hp hW hS => ?_)
      obtain ⟨ct2, rfl, hM, hX0, rfl⟩ := hp
      have hX := hX.tr hX0
      refine lv_iinc (v := nI (tz + 1)) (lv' := [(3, .int (nI (tz + 1))), (0, .ref (ad (10, 0))), (1, .int (nI pg)), (2, .int (nI j0))]) hx hb dX3_removes_52 hl (k := 0) rfl (ki1 _) (by decide) rfl (fun ls hl => ?_)
      refine lv_goto (tgt := 12) hx hb dX3_removes_55 (by decide) ?_
      exact ih (tz + 1) _ _ _ _ (by omega) (by omega) (by rw [← shD_step _ _ _ _ hjt, ← shD_step _ _ _ _ hjt]; exact hM) hX hW hS hl
