/-! A page's methods that write. -/
def Ins {α : Type} (q sz : Nat) (x : α) (f f' : Nat → α) : Prop := (∀ k, k < q → f' k = f k) ∧ f' q = x ∧ ∀ k, q ≤ k → k < sz → f' (k + 1) = f k
def Shf {α : Type} (t sz : Nat) (f f' : Nat → α) : Prop := (∀ k, k < t → f' k = f k) ∧ ∀ k, t ≤ k → k < sz → f' (k + 1) = f k
theorem Shf.start {α : Type} {sz : Nat} {f : Nat → α} : Shf sz sz f f := ⟨fun _ _ => rfl, fun k h1 h2 => by omega⟩
theorem Shf.step {α : Type} {t sz : Nat} {f f' : Nat → α} (h : Shf (t + 1) sz f f') : Shf t sz f (va_up f' (t + 1) (f' t)) := by
  refine ⟨fun k hk => ?_, fun k h1 h2 => ?_⟩
  · rw [va_up_ne _ _ (by omega)]; exact h.1 k (by omega)
  · rcases Nat.lt_or_ge k (t + 1) with q | q
    · have : k = t := by omega
      subst this
      rw [va_up_self]; exact h.1 k (by omega)
    · rw [va_up_ne _ _ (by omega)]; exact h.2 k q h2
theorem Shf.ins {α : Type} {q sz : Nat} {f f' : Nat → α} (h : Shf q sz f f') (x : α) : Ins q sz x f (va_up f' q x) :=
  ⟨fun k hk => by rw [va_up_ne _ _ (by omega)]; exact h.1 k hk, va_up_self _ _ _, fun k h1 h2 => by rw [va_up_ne _ _ (by omega)]; exact h.2 k h1 h2⟩
def Del {α : Type} (j sz : Nat) (f f' : Nat → α) : Prop := (∀ k, k < j → f' k = f k) ∧ ∀ k, j ≤ k → k + 1 < sz → f' k = f (k + 1)
def Dlp {α : Type} (t j : Nat) (f f' : Nat → α) : Prop := (∀ k, k < j → f' k = f k) ∧ (∀ k, j ≤ k → k < t → f' k = f (k + 1)) ∧ ∀ k, t ≤ k → f' k = f k
theorem Dlp.start {α : Type} {j : Nat} {f : Nat → α} : Dlp j j f f := ⟨fun _ _ => rfl, fun k h1 h2 => by omega, fun _ _ => rfl⟩
theorem Dlp.step {α : Type} {t j : Nat} {f f' : Nat → α} (hj : j ≤ t) (h : Dlp t j f f') : Dlp (t + 1) j f (va_up f' t (f' (t + 1))) := by
  refine ⟨fun k hk => ?_, fun k h1 h2 => ?_, fun k hk => ?_⟩
  · rw [va_up_ne _ _ (by omega)]; exact h.1 k (by omega)
  · rcases Nat.lt_or_ge k t with q | q
    · rw [va_up_ne _ _ (by omega)]; exact h.2.1 k h1 q
    · have : k = t := by omega
      subst this
      rw [va_up_self]; exact h.2.2 _ (by omega)
  · rw [va_up_ne _ _ (by omega)]; exact h.2.2 k (by omega)
theorem Dlp.del {α : Type} {t j sz : Nat} {f f' : Nat → α} (ht : sz ≤ t + 1) (h : Dlp t j f f') : Del j sz f f' := ⟨h.1, fun k h1 h2 => h.2.1 k h1 (by omega)⟩
set_option maxRecDepth 100000 in
set_option maxHeartbeats 4000000 in
theorem c_X1_copy (l : Launch) (G : GG) (A : Nat → Prop) (ad : Lb → Nat) (dm : Lb → Prop) (ct : Lb → va_E) (n le lo sz hi : Nat) (ri : Option Nat) (de ta : Nat) (kf vf : Nat → Int32) (cf : Nat → Option Nat) (hP : PG G ad dm ct n le lo sz hi ri de ta kf vf cf) (hsz : sz ≤ 5) (i j : Nat) (hi5 : i < 5) (hj5 : j < 5) (hC : isPg ad dm ct (cf i)) :
    CT l yX1_copy cX1_copy 3 none { frames := 0, cells := 0, slots := 0, locals := 0 } [.ref (ad (1, n)), .int (nI i), .int (nI j)] G A (ad, dm, ct) (fun v w' => ∃ ct', w' = (ad, dm, ct') ∧ v = none ∧ PG G ad dm ct' n le lo sz hi ri de ta (va_up kf j (kf i)) (va_up vf j (vf i)) (va_up cf j (cf i)) ∧ XP n ct ct') (fun _ => False) (0) (0) := by
  refine ct_of (by decide) (Nat.le_of_ble_eq_true rfl) ?_
  intro p e s m below meth c ls F hr hlk hnm hex hE hW hl
  have hx := F.1
  have hb := F.2.1
  have hS : va_S A s.heap s.heap [] := va_S.rf
  have hl : lv_has ls 3 [(0, .ref (ad (1, n))), (1, .int (nI i)), (2, .int (nI j))] := hl
  have hX : XP n ct ct := XP.rf
  refine lv_iload_n hx hb dX1_copy_0 rfl (lv_at hl 1 rfl) ?_
  refine nz_lt (tgt := 18) hx hb dX1_copy_1 (by decide) (by omega) ?_
  refine lv_iload_n hx hb dX1_copy_4 rfl (lv_at hl 1 rfl) ?_
  refine lv_iconst (v := nI 5) hx hb dX1_copy_5 (by decide) ?_
  refine nc_ge (tgt := 18) hx hb dX1_copy_6 (by decide) (by omega) (by omega) (fun c1 => ?_) (fun c1 => ?_)
  · exact absurd c1 (by omega)
  · refine lv_iload_n hx hb dX1_copy_9 rfl (lv_at hl 2 rfl) ?_
    refine nz_lt (tgt := 18) hx hb dX1_copy_10 (by decide) (by omega) ?_
    refine lv_iload_n hx hb dX1_copy_13 rfl (lv_at hl 2 rfl) ?_
    refine lv_iconst (v := nI 5) hx hb dX1_copy_14 (by decide) ?_
    refine nc_lt (tgt := 19) hx hb dX1_copy_15 (by decide) (by omega) (by omega) (fun c2 => ?_) (fun c2 => ?_)
    · refine lv_aload_n hx hb dX1_copy_19 rfl (lv_at hl 0 rfl) ?_
      refine kg F hE hW (1, n) hP.1.1 rfl hP.2.1 rfl inA_X1 3 (by decide) kw_69 (v := .ref (ad (2, n))) rfl dX1_copy_20 ?_
      refine lv_iload_n hx hb dX1_copy_23 rfl (lv_at hl 2 rfl) ?_
      refine lv_aload_n hx hb dX1_copy_24 rfl (lv_at hl 0 rfl) ?_
      refine kg F hE hW (1, n) hP.1.1 rfl hP.2.1 rfl inA_X1 3 (by decide) kw_69 (v := .ref (ad (2, n))) rfl dX1_copy_25 ?_
      refine lv_iload_n hx hb dX1_copy_28 rfl (lv_at hl 1 rfl) ?_
      refine kl_i F hE hW (2, n) hP.1.2.1 rfl hP.2.2.1 i rfl (by omega) (by decide) dX1_copy_29 ?_
      refine pg_key F hE hW hS hP j rfl (by omega) dX1_copy_30 (fun ct H locs hW hP hX0 hS => ?_)
      have hX := XP.tr hX hX0
      have hC := isPg.keep hC hP hX0
      refine lv_aload_n hx hb dX1_copy_31 rfl (lv_at hl 0 rfl) ?_
      refine kg F hE hW (1, n) hP.1.1 rfl hP.2.1 rfl inA_X1 4 (by decide) kw_70 (v := .ref (ad (3, n))) rfl dX1_copy_32 ?_
      refine lv_iload_n hx hb dX1_copy_35 rfl (lv_at hl 2 rfl) ?_
      refine lv_aload_n hx hb dX1_copy_36 rfl (lv_at hl 0 rfl) ?_
      refine kg F hE hW (1, n) hP.1.1 rfl hP.2.1 rfl inA_X1 4 (by decide) kw_70 (v := .ref (ad (3, n))) rfl dX1_copy_37 ?_
      refine lv_iload_n hx hb dX1_copy_40 rfl (lv_at hl 1 rfl) ?_
      refine kl_i F hE hW (3, n) hP.1.2.2.1 rfl hP.2.2.2.1 i rfl (by omega) (by decide) dX1_copy_41 ?_
      refine pg_val F hE hW hS hP j rfl (by omega) dX1_copy_42 (fun ct H locs hW hP hX0 hS => ?_)
      have hX := XP.tr hX hX0
      have hC := isPg.keep hC hP hX0
      refine lv_aload_n hx hb dX1_copy_43 rfl (lv_at hl 0 rfl) ?_
      refine kg F hE hW (1, n) hP.1.1 rfl hP.2.1 rfl inA_X1 5 (by decide) kw_71 (v := .ref (ad (4, n))) rfl dX1_copy_44 ?_
      refine lv_iload_n hx hb dX1_copy_47 rfl (lv_at hl 2 rfl) ?_
      refine lv_aload_n hx hb dX1_copy_48 rfl (lv_at hl 0 rfl) ?_
      refine kg F hE hW (1, n) hP.1.1 rfl hP.2.1 rfl inA_X1 5 (by decide) kw_71 (v := .ref (ad (4, n))) rfl dX1_copy_49 ?_
      refine lv_iload_n hx hb dX1_copy_52 rfl (lv_at hl 1 rfl) ?_
      refine kl_a 2 F hE hW (4, n) hP.1.2.2.2 rfl rfl hP.2.2.2.2 i rfl (by omega) (by decide) (v := va_rf (cf i)) rfl dX1_copy_53 ?_
      refine pg_child (r := cf i) rfl hC F hE hW hS hP j rfl (by omega) dX1_copy_54 (fun ct H locs hW hP hX0 hS => ?_)
      have hX := XP.tr hX hX0
      exact kr_v F hr hlk hE hW hS (Nat.le_of_ble_eq_true rfl) (Nat.le_of_ble_eq_true rfl) dX1_copy_55 (⟨_, rfl, rfl, hP, hX⟩)
    · exact absurd c2 (by omega)
set_option maxRecDepth 100000 in
set_option maxHeartbeats 4000000 in
theorem c_X1_insertN (l : Launch) (G : GG) (A : Nat → Prop) (ad : Lb → Nat) (dm : Lb → Prop) (ct : Lb → va_E) (n le lo sz hi : Nat) (ri : Option Nat) (de ta : Nat) (kf vf : Nat → Int32) (cf : Nat → Option Nat) (hP : PG G ad dm ct n le lo sz hi ri de ta kf vf cf) (hsz : sz ≤ 4) (x y : Int32) (hrp : isPg ad dm ct none) (hC : ∀ k, k < sz → isPg ad dm ct (cf k)) :
    CT l yX1_insert cX1_insert 6 none { frames := 1, cells := 0, slots := 0, locals := 22 } [.ref (ad (1, n)), .int x, .int y, .null] G A (ad, dm, ct) (fun v w' => ∃ ct', w' = (ad, dm, ct') ∧ v = none ∧ ∃ q, q ≤ sz ∧ (∀ k, k < q → kf k < x) ∧ (q < sz → ¬ kf q < x) ∧ ∃ kf' vf' cf', PG G ad dm ct' n le lo (sz + 1) hi ri de ta kf' vf' cf' ∧ XP n ct ct' ∧ Ins q sz x kf kf' ∧ Ins q sz y vf vf' ∧ Ins q sz none cf cf') (fun _ => False) (0) (0) := by
  refine ct_of (by decide) (Nat.le_of_ble_eq_true rfl) ?_
  intro p e s m below meth c ls F hr hlk hnm hex hE hW hl
  have hx := F.1
  have hb := F.2.1
  have hS : va_S A s.heap s.heap [] := va_S.rf
  have hl : lv_has ls 6 [(0, .ref (ad (1, n))), (1, .int x), (2, .int y), (3, .null)] := hl
  refine lv_aload_n hx hb dX1_insert_0 rfl (lv_at hl 0 rfl) ?_
  refine kg F hE hW (1, n) hP.1.1 rfl hP.2.1 rfl inA_X1 6 (by decide) kw_72 (v := .int (nI sz)) rfl dX1_insert_1 ?_
  refine nz_lt (tgt := 15) hx hb dX1_insert_4 (by decide) (by omega) ?_
  refine lv_aload_n hx hb dX1_insert_7 rfl (lv_at hl 0 rfl) ?_
  refine kg F hE hW (1, n) hP.1.1 rfl hP.2.1 rfl inA_X1 6 (by decide) kw_72 (v := .int (nI sz)) rfl dX1_insert_8 ?_
  refine lv_iconst (v := nI 5) hx hb dX1_insert_11 (by decide) ?_
  refine nc_lt (tgt := 16) hx hb dX1_insert_12 (by decide) (by omega) (by omega) (fun c1 => ?_) (fun c1 => ?_)
  · refine lv_aload_n hx hb dX1_insert_16 rfl (lv_at hl 0 rfl) ?_
    refine lv_iload_n hx hb dX1_insert_17 rfl (lv_at hl 1 rfl) ?_
    refine kc_V 1 (c_X1_countLess l G A ad dm ct n le lo sz hi ri de ta kf vf cf hP (by omega) x) F hE hW hS (1, n) hP.1.1 hP.2.1 rfl [.int x] rfl kw_171 kw_172 kw_173 kw_5 kw_174 (by decide +kernel) rfl ⟨rfl, rfl⟩ ⟨Nat.le_of_ble_eq_true rfl, Nat.le_of_ble_eq_true rfl⟩ hl.1 rfl (Nat.le_of_ble_eq_true rfl) dX1_insert_18 ⟨Nat.le_of_ble_eq_true rfl, Nat.le_of_ble_eq_true rfl⟩ (fun _ _ _ _ _ h => h.elim) (fun v w' H locs hp hW hS => ?_)
    obtain ⟨rfl, q, hq, rfl, h1, h2⟩ := hp
    refine lv_istore (lv' := [(4, .int (nI q)), (0, .ref (ad (1, n))), (1, .int x), (2, .int y), (3, .null)]) hx hb dX1_insert_21 hl (by decide) rfl (fun ls hl => ?_)
    refine lv_aload_n hx hb dX1_insert_23 rfl (lv_at hl 1 rfl) ?_
    refine kg F hE hW (1, n) hP.1.1 rfl hP.2.1 rfl inA_X1 6 (by decide) kw_72 (v := .int (nI sz)) rfl dX1_insert_24 ?_
    refine lv_istore (lv' := [(5, .int (nI sz)), (4, .int (nI q)), (0, .ref (ad (1, n))), (1, .int x), (2, .int y), (3, .null)]) hx hb dX1_insert_27 hl (by decide) rfl (fun ls hl => ?_)
    suffices key : ∀ (d t : Nat) (ct1 : Lb → va_E) (H : Heap) (locs : List Loc) (ls : Array Slot) (kf1 vf1 : Nat → Int32) (cf1 : Nat → Option Nat), t ≤ sz → t = q + d → PG G ad dm ct1 n le lo sz hi ri de ta kf1 vf1 cf1 → XP n ct ct1 → Shf t sz kf kf1 → Shf t sz vf vf1 → Shf t sz cf cf1 → isPg ad dm ct1 none → (∀ k, k < t → isPg ad dm ct1 (cf1 k)) → wd G A (ad, dm, ct1) H → va_S A s.heap H locs → lv_has ls 6 [(5, .int (nI t)), (4, .int (nI q)), (0, .ref (ad (1, n))), (1, .int x), (2, .int y), (3, .null)] → W p l e _ s m _ below meth c H locs 0 0 _ (F0 m 29 ls []) from
      key (sz - q) sz ct _ _ ls kf vf cf (Nat.le_refl _) (by omega) hP XP.rf Shf.start Shf.start Shf.start hrp hC hW hS hl
    clear hP hrp hC hW hS hl
    intro d
    induction d with
    | zero =>
      intro t ct H locs ls kf1 vf1 cf1 ht htd hP hX hk hv hc hrp hC hW hS hl
      obtain rfl : q = t := htd.symm
      refine lv_iload hx hb dX1_insert_29 (lv_at hl 0 rfl) ?_
      refine lv_iload hx hb dX1_insert_31 (lv_at hl 1 rfl) ?_
      refine nc_le (tgt := 52) hx hb dX1_insert_33 (by decide) (by omega) (by omega) (fun c3 => ?_) (fun c3 => ?_)
      · refine lv_aload_n hx hb dX1_insert_52 rfl (lv_at hl 2 rfl) ?_
        refine kg F hE hW (1, n) hP.1.1 rfl hP.2.1 rfl inA_X1 3 (by decide) kw_69 (v := .ref (ad (2, n))) rfl dX1_insert_53 ?_
        refine lv_iload hx hb dX1_insert_56 (lv_at hl 1 rfl) ?_
        refine lv_iload_n hx hb dX1_insert_58 rfl (lv_at hl 3 rfl) ?_
        refine pg_key F hE hW hS hP q rfl (by omega) dX1_insert_59 (fun ct H locs hW hP hX0 hS => ?_)
        have hX := XP.tr hX hX0
        have hrp := isPg.keep hrp hP hX0
        refine lv_aload_n hx hb dX1_insert_60 rfl (lv_at hl 2 rfl) ?_
        refine kg F hE hW (1, n) hP.1.1 rfl hP.2.1 rfl inA_X1 4 (by decide) kw_70 (v := .ref (ad (3, n))) rfl dX1_insert_61 ?_
        refine lv_iload hx hb dX1_insert_64 (lv_at hl 1 rfl) ?_
        refine lv_iload_n hx hb dX1_insert_66 rfl (lv_at hl 4 rfl) ?_
        refine pg_val F hE hW hS hP q rfl (by omega) dX1_insert_67 (fun ct H locs hW hP hX0 hS => ?_)
        have hX := XP.tr hX hX0
        have hrp := isPg.keep hrp hP hX0
        refine lv_aload_n hx hb dX1_insert_68 rfl (lv_at hl 2 rfl) ?_
        refine kg F hE hW (1, n) hP.1.1 rfl hP.2.1 rfl inA_X1 5 (by decide) kw_71 (v := .ref (ad (4, n))) rfl dX1_insert_69 ?_
        refine lv_iload hx hb dX1_insert_72 (lv_at hl 1 rfl) ?_
        refine lv_aload_nN hx hb dX1_insert_74 rfl (lv_at hl 5 rfl) ?_
        refine pg_child (r := none) rfl hrp F hE hW hS hP q rfl (by omega) dX1_insert_75 (fun ct H locs hW hP hX0 hS => ?_)
        have hX := XP.tr hX hX0
        refine lv_aload_n hx hb dX1_insert_76 rfl (lv_at hl 2 rfl) ?_
        refine lv_dup hx hb dX1_insert_77 rfl ?_
        refine kg F hE hW (1, n) hP.1.1 rfl hP.2.1 rfl inA_X1 6 (by decide) kw_72 (v := .int (nI sz)) rfl dX1_insert_78 ?_
        refine lv_iconst (v := nI 1) hx hb dX1_insert_81 (by decide) ?_
        refine lv_iadd hx hb dX1_insert_82 ?_
        refine ktop (nI_add _ _) ?_
        refine pg_size F hE hW hS hP kw_72 dX1_insert_83 (fun ct H locs hW hP hX0 hS => ?_)
        have hX := XP.tr hX hX0
        exact kr_v F hr hlk hE hW hS (Nat.le_of_ble_eq_true rfl) (Nat.le_of_ble_eq_true rfl) dX1_insert_86 (⟨_, rfl, rfl, q, hq, h1, h2, _, _, _, hP, hX, hk.ins _, hv.ins _, hc.ins _⟩)
      · exact absurd c3 (by omega)
    | succ d ih =>
      intro t ct H locs ls kf1 vf1 cf1 ht htd hP hX hk hv hc hrp hC hW hS hl
      subst htd
      refine lv_iload hx hb dX1_insert_29 (lv_at hl 0 rfl) ?_
      refine lv_iload hx hb dX1_insert_31 (lv_at hl 1 rfl) ?_
      refine nc_le (tgt := 52) hx hb dX1_insert_33 (by decide) (by omega) (by omega) (fun c3 => ?_) (fun c3 => ?_)
      · exact absurd c3 (by omega)
      · refine lv_aload_n hx hb dX1_insert_36 rfl (lv_at hl 2 rfl) ?_
        refine lv_iload hx hb dX1_insert_37 (lv_at hl 0 rfl) ?_
        refine lv_iconst (v := nI 1) hx hb dX1_insert_39 (by decide) ?_
        refine lv_isub hx hb dX1_insert_40 ?_
        refine ktop (nI_pred (q + d)) ?_
        refine lv_iload hx hb dX1_insert_41 (lv_at hl 0 rfl) ?_
        refine kc_V 2 (c_X1_copy l G A ad dm ct n le lo sz hi ri de ta kf1 vf1 cf1 hP (by omega) (q + d) (q + (d + 1)) (by omega) (by omega) (hC _ (by omega))) F hE hW hS (1, n) hP.1.1 hP.2.1 rfl [.int (nI (q + d)), .int (nI (q + (d + 1)))] rfl kw_175 kw_177 kp_4 kw_5 kw_178 (by decide +kernel) rfl ⟨rfl, rfl⟩ ⟨Nat.le_of_ble_eq_true rfl, Nat.le_of_ble_eq_true rfl⟩ hl.1 rfl (Nat.le_of_ble_eq_true rfl) dX1_insert_43 ⟨Nat.le_of_ble_eq_true rfl, Nat.le_of_ble_eq_true rfl⟩ (fun _ _ _ _ _ h => h.elim) (fun v w' H locs hp hW hS => ?_)
        obtain ⟨ct', rfl, rfl, hP', hX'⟩ := hp
        refine lv_iinc (v := nI (q + d)) (lv' := [(5, .int (nI (q + d))), (4, .int (nI q)), (0, .ref (ad (1, n))), (1, .int x), (2, .int y), (3, .null)]) hx hb dX1_insert_46 hl (k := 0) rfl (kim1 (q + d)) (by decide) rfl (fun ls hl => ?_)
        refine lv_goto (tgt := 29) hx hb dX1_insert_49 (by decide) ?_
        exact ih (q + d) ct' _ _ _ _ _ _ (by omega) rfl hP' (XP.tr hX hX') hk.step hv.step hc.step (isPg.keep hrp hP' hX') (fun k hk2 => by rw [va_up_ne _ _ (by omega)]; exact isPg.keep (hC k (by omega)) hP' hX') hW hS hl
  · exact absurd c1 (by omega)
set_option maxRecDepth 100000 in
set_option maxHeartbeats 4000000 in
theorem c_X1_insertR (l : Launch) (G : GG) (A : Nat → Prop) (ad : Lb → Nat) (dm : Lb → Prop) (ct : Lb → va_E) (n le lo sz hi : Nat) (ri : Option Nat) (de ta : Nat) (kf vf : Nat → Int32) (cf : Nat → Option Nat) (hP : PG G ad dm ct n le lo sz hi ri de ta kf vf cf) (hsz : sz ≤ 4) (x y : Int32) (r0 : Nat) (hrp : isPg ad dm ct (some r0)) (hC : ∀ k, k < sz → isPg ad dm ct (cf k)) :
    CT l yX1_insert cX1_insert 6 none { frames := 1, cells := 0, slots := 0, locals := 22 } [.ref (ad (1, n)), .int x, .int y, .ref r0] G A (ad, dm, ct) (fun v w' => ∃ ct', w' = (ad, dm, ct') ∧ v = none ∧ ∃ q, q ≤ sz ∧ (∀ k, k < q → kf k < x) ∧ (q < sz → ¬ kf q < x) ∧ ∃ kf' vf' cf', PG G ad dm ct' n le lo (sz + 1) hi ri de ta kf' vf' cf' ∧ XP n ct ct' ∧ Ins q sz x kf kf' ∧ Ins q sz y vf vf' ∧ Ins q sz (some r0) cf cf') (fun _ => False) (0) (0) := by
  refine ct_of (by decide) (Nat.le_of_ble_eq_true rfl) ?_
  intro p e s m below meth c ls F hr hlk hnm hex hE hW hl
  have hx := F.1
  have hb := F.2.1
  have hS : va_S A s.heap s.heap [] := va_S.rf
  have hl : lv_has ls 6 [(0, .ref (ad (1, n))), (1, .int x), (2, .int y), (3, .ref r0)] := hl
  refine lv_aload_n hx hb dX1_insert_0 rfl (lv_at hl 0 rfl) ?_
  refine kg F hE hW (1, n) hP.1.1 rfl hP.2.1 rfl inA_X1 6 (by decide) kw_72 (v := .int (nI sz)) rfl dX1_insert_1 ?_
  refine nz_lt (tgt := 15) hx hb dX1_insert_4 (by decide) (by omega) ?_
  refine lv_aload_n hx hb dX1_insert_7 rfl (lv_at hl 0 rfl) ?_
  refine kg F hE hW (1, n) hP.1.1 rfl hP.2.1 rfl inA_X1 6 (by decide) kw_72 (v := .int (nI sz)) rfl dX1_insert_8 ?_
  refine lv_iconst (v := nI 5) hx hb dX1_insert_11 (by decide) ?_
  refine nc_lt (tgt := 16) hx hb dX1_insert_12 (by decide) (by omega) (by omega) (fun c1 => ?_) (fun c1 => ?_)
  · refine lv_aload_n hx hb dX1_insert_16 rfl (lv_at hl 0 rfl) ?_
    refine lv_iload_n hx hb dX1_insert_17 rfl (lv_at hl 1 rfl) ?_
    refine kc_V 1 (c_X1_countLess l G A ad dm ct n le lo sz hi ri de ta kf vf cf hP (by omega) x) F hE hW hS (1, n) hP.1.1 hP.2.1 rfl [.int x] rfl kw_171 kw_172 kw_173 kw_5 kw_174 (by decide +kernel) rfl ⟨rfl, rfl⟩ ⟨Nat.le_of_ble_eq_true rfl, Nat.le_of_ble_eq_true rfl⟩ hl.1 rfl (Nat.le_of_ble_eq_true rfl) dX1_insert_18 ⟨Nat.le_of_ble_eq_true rfl, Nat.le_of_ble_eq_true rfl⟩ (fun _ _ _ _ _ h => h.elim) (fun v w' H locs hp hW hS => ?_)
    obtain ⟨rfl, q, hq, rfl, h1, h2⟩ := hp
    refine lv_istore (lv' := [(4, .int (nI q)), (0, .ref (ad (1, n))), (1, .int x), (2, .int y), (3, .ref r0)]) hx hb dX1_insert_21 hl (by decide) rfl (fun ls hl => ?_)
    refine lv_aload_n hx hb dX1_insert_23 rfl (lv_at hl 1 rfl) ?_
    refine kg F hE hW (1, n) hP.1.1 rfl hP.2.1 rfl inA_X1 6 (by decide) kw_72 (v := .int (nI sz)) rfl dX1_insert_24 ?_
    refine lv_istore (lv' := [(5, .int (nI sz)), (4, .int (nI q)), (0, .ref (ad (1, n))), (1, .int x), (2, .int y), (3, .ref r0)]) hx hb dX1_insert_27 hl (by decide) rfl (fun ls hl => ?_)
    suffices key : ∀ (d t : Nat) (ct1 : Lb → va_E) (H : Heap) (locs : List Loc) (ls : Array Slot) (kf1 vf1 : Nat → Int32) (cf1 : Nat → Option Nat), t ≤ sz → t = q + d → PG G ad dm ct1 n le lo sz hi ri de ta kf1 vf1 cf1 → XP n ct ct1 → Shf t sz kf kf1 → Shf t sz vf vf1 → Shf t sz cf cf1 → isPg ad dm ct1 (some r0) → (∀ k, k < t → isPg ad dm ct1 (cf1 k)) → wd G A (ad, dm, ct1) H → va_S A s.heap H locs → lv_has ls 6 [(5, .int (nI t)), (4, .int (nI q)), (0, .ref (ad (1, n))), (1, .int x), (2, .int y), (3, .ref r0)] → W p l e _ s m _ below meth c H locs 0 0 _ (F0 m 29 ls []) from
      key (sz - q) sz ct _ _ ls kf vf cf (Nat.le_refl _) (by omega) hP XP.rf Shf.start Shf.start Shf.start hrp hC hW hS hl
    clear hP hrp hC hW hS hl
    intro d
    induction d with
    | zero =>
      intro t ct H locs ls kf1 vf1 cf1 ht htd hP hX hk hv hc hrp hC hW hS hl
      obtain rfl : q = t := htd.symm
      refine lv_iload hx hb dX1_insert_29 (lv_at hl 0 rfl) ?_
      refine lv_iload hx hb dX1_insert_31 (lv_at hl 1 rfl) ?_
      refine nc_le (tgt := 52) hx hb dX1_insert_33 (by decide) (by omega) (by omega) (fun c3 => ?_) (fun c3 => ?_)
      · refine lv_aload_n hx hb dX1_insert_52 rfl (lv_at hl 2 rfl) ?_
        refine kg F hE hW (1, n) hP.1.1 rfl hP.2.1 rfl inA_X1 3 (by decide) kw_69 (v := .ref (ad (2, n))) rfl dX1_insert_53 ?_
        refine lv_iload hx hb dX1_insert_56 (lv_at hl 1 rfl) ?_
        refine lv_iload_n hx hb dX1_insert_58 rfl (lv_at hl 3 rfl) ?_
        refine pg_key F hE hW hS hP q rfl (by omega) dX1_insert_59 (fun ct H locs hW hP hX0 hS => ?_)
        have hX := XP.tr hX hX0
        have hrp := isPg.keep hrp hP hX0
        refine lv_aload_n hx hb dX1_insert_60 rfl (lv_at hl 2 rfl) ?_
        refine kg F hE hW (1, n) hP.1.1 rfl hP.2.1 rfl inA_X1 4 (by decide) kw_70 (v := .ref (ad (3, n))) rfl dX1_insert_61 ?_
        refine lv_iload hx hb dX1_insert_64 (lv_at hl 1 rfl) ?_
        refine lv_iload_n hx hb dX1_insert_66 rfl (lv_at hl 4 rfl) ?_
        refine pg_val F hE hW hS hP q rfl (by omega) dX1_insert_67 (fun ct H locs hW hP hX0 hS => ?_)
        have hX := XP.tr hX hX0
        have hrp := isPg.keep hrp hP hX0
        refine lv_aload_n hx hb dX1_insert_68 rfl (lv_at hl 2 rfl) ?_
        refine kg F hE hW (1, n) hP.1.1 rfl hP.2.1 rfl inA_X1 5 (by decide) kw_71 (v := .ref (ad (4, n))) rfl dX1_insert_69 ?_
        refine lv_iload hx hb dX1_insert_72 (lv_at hl 1 rfl) ?_
        refine lv_aload_n hx hb dX1_insert_74 rfl (lv_at hl 5 rfl) ?_
        refine pg_child (r := (some r0)) rfl hrp F hE hW hS hP q rfl (by omega) dX1_insert_75 (fun ct H locs hW hP hX0 hS => ?_)
        have hX := XP.tr hX hX0
        refine lv_aload_n hx hb dX1_insert_76 rfl (lv_at hl 2 rfl) ?_
        refine lv_dup hx hb dX1_insert_77 rfl ?_
        refine kg F hE hW (1, n) hP.1.1 rfl hP.2.1 rfl inA_X1 6 (by decide) kw_72 (v := .int (nI sz)) rfl dX1_insert_78 ?_
        refine lv_iconst (v := nI 1) hx hb dX1_insert_81 (by decide) ?_
        refine lv_iadd hx hb dX1_insert_82 ?_
        refine ktop (nI_add _ _) ?_
        refine pg_size F hE hW hS hP kw_72 dX1_insert_83 (fun ct H locs hW hP hX0 hS => ?_)
        have hX := XP.tr hX hX0
        exact kr_v F hr hlk hE hW hS (Nat.le_of_ble_eq_true rfl) (Nat.le_of_ble_eq_true rfl) dX1_insert_86 (⟨_, rfl, rfl, q, hq, h1, h2, _, _, _, hP, hX, hk.ins _, hv.ins _, hc.ins _⟩)
      · exact absurd c3 (by omega)
    | succ d ih =>
      intro t ct H locs ls kf1 vf1 cf1 ht htd hP hX hk hv hc hrp hC hW hS hl
      subst htd
      refine lv_iload hx hb dX1_insert_29 (lv_at hl 0 rfl) ?_
      refine lv_iload hx hb dX1_insert_31 (lv_at hl 1 rfl) ?_
      refine nc_le (tgt := 52) hx hb dX1_insert_33 (by decide) (by omega) (by omega) (fun c3 => ?_) (fun c3 => ?_)
      · exact absurd c3 (by omega)
      · refine lv_aload_n hx hb dX1_insert_36 rfl (lv_at hl 2 rfl) ?_
        refine lv_iload hx hb dX1_insert_37 (lv_at hl 0 rfl) ?_
        refine lv_iconst (v := nI 1) hx hb dX1_insert_39 (by decide) ?_
        refine lv_isub hx hb dX1_insert_40 ?_
        refine ktop (nI_pred (q + d)) ?_
        refine lv_iload hx hb dX1_insert_41 (lv_at hl 0 rfl) ?_
        refine kc_V 2 (c_X1_copy l G A ad dm ct n le lo sz hi ri de ta kf1 vf1 cf1 hP (by omega) (q + d) (q + (d + 1)) (by omega) (by omega) (hC _ (by omega))) F hE hW hS (1, n) hP.1.1 hP.2.1 rfl [.int (nI (q + d)), .int (nI (q + (d + 1)))] rfl kw_175 kw_177 kp_4 kw_5 kw_178 (by decide +kernel) rfl ⟨rfl, rfl⟩ ⟨Nat.le_of_ble_eq_true rfl, Nat.le_of_ble_eq_true rfl⟩ hl.1 rfl (Nat.le_of_ble_eq_true rfl) dX1_insert_43 ⟨Nat.le_of_ble_eq_true rfl, Nat.le_of_ble_eq_true rfl⟩ (fun _ _ _ _ _ h => h.elim) (fun v w' H locs hp hW hS => ?_)
        obtain ⟨ct', rfl, rfl, hP', hX'⟩ := hp
        refine lv_iinc (v := nI (q + d)) (lv' := [(5, .int (nI (q + d))), (4, .int (nI q)), (0, .ref (ad (1, n))), (1, .int x), (2, .int y), (3, .ref r0)]) hx hb dX1_insert_46 hl (k := 0) rfl (kim1 (q + d)) (by decide) rfl (fun ls hl => ?_)
        refine lv_goto (tgt := 29) hx hb dX1_insert_49 (by decide) ?_
        exact ih (q + d) ct' _ _ _ _ _ _ (by omega) rfl hP' (XP.tr hX hX') hk.step hv.step hc.step (isPg.keep hrp hP' hX') (fun k hk2 => by rw [va_up_ne _ _ (by omega)]; exact isPg.keep (hC k (by omega)) hP' hX') hW hS hl
  · exact absurd c1 (by omega)
theorem c_X1_insert (l : Launch) (G : GG) (A : Nat → Prop) (ad : Lb → Nat) (dm : Lb → Prop) (ct : Lb → va_E) (n le lo sz hi : Nat) (ri : Option Nat) (de ta : Nat) (kf vf : Nat → Int32) (cf : Nat → Option Nat) (hP : PG G ad dm ct n le lo sz hi ri de ta kf vf cf) (hsz : sz ≤ 4) (x y : Int32) (r : Option Nat) (vr : Value) (hvr : va_rf r = vr) (hrp : isPg ad dm ct r) (hC : ∀ k, k < sz → isPg ad dm ct (cf k)) :
    CT l yX1_insert cX1_insert 6 none { frames := 1, cells := 0, slots := 0, locals := 22 } [.ref (ad (1, n)), .int x, .int y, vr] G A (ad, dm, ct) (fun v w' => ∃ ct', w' = (ad, dm, ct') ∧ v = none ∧ ∃ q, q ≤ sz ∧ (∀ k, k < q → kf k < x) ∧ (q < sz → ¬ kf q < x) ∧ ∃ kf' vf' cf', PG G ad dm ct' n le lo (sz + 1) hi ri de ta kf' vf' cf' ∧ XP n ct ct' ∧ Ins q sz x kf kf' ∧ Ins q sz y vf vf' ∧ Ins q sz r cf cf') (fun _ => False) 0 0 := by
  subst hvr
  cases r with
  | none => exact c_X1_insertN l G A ad dm ct n le lo sz hi ri de ta kf vf cf hP hsz x y hrp hC
  | some r0 => exact c_X1_insertR l G A ad dm ct n le lo sz hi ri de ta kf vf cf hP hsz x y r0 hrp hC
set_option maxRecDepth 100000 in
set_option maxHeartbeats 4000000 in
theorem c_X1_changeValue (l : Launch) (G : GG) (A : Nat → Prop) (ad : Lb → Nat) (dm : Lb → Prop) (ct : Lb → va_E) (n le lo sz hi : Nat) (ri : Option Nat) (de ta : Nat) (kf vf : Nat → Int32) (cf : Nat → Option Nat) (hP : PG G ad dm ct n le lo sz hi ri de ta kf vf cf) (hsz : sz ≤ 5) (j : Nat) (hj : j < sz) (y : Int32) :
    CT l yX1_changeValue cX1_changeValue 4 (some FieldType.int) { frames := 1, cells := 0, slots := 0, locals := 21 } [.ref (ad (1, n)), .int (nI j), .int y] G A (ad, dm, ct) (fun v w' => ∃ ct', w' = (ad, dm, ct') ∧ v = some (.int (vf j)) ∧ PG G ad dm ct' n le lo sz hi ri de ta kf (va_up vf j y) cf ∧ XP n ct ct') (fun _ => False) (0) (0) := by
  refine ct_of (by decide) (Nat.le_of_ble_eq_true rfl) ?_
  intro p e s m below meth c ls F hr hlk hnm hex hE hW hl
  have hx := F.1
  have hb := F.2.1
  have hS : va_S A s.heap s.heap [] := va_S.rf
  have hl : lv_has ls 4 [(0, .ref (ad (1, n))), (1, .int (nI j)), (2, .int y)] := hl
  have hX : XP n ct ct := XP.rf
  refine lv_aload_n hx hb dX1_changeValue_0 rfl (lv_at hl 0 rfl) ?_
  refine lv_iload_n hx hb dX1_changeValue_1 rfl (lv_at hl 1 rfl) ?_
  refine kc_V 1 (c_X1_has l G A ad dm ct n le lo sz hi ri de ta kf vf cf hP hsz (nI j)) F hE hW hS (1, n) hP.1.1 hP.2.1 rfl [.int (nI j)] rfl kw_191 kw_192 kw_193 kw_5 kw_194 (by decide +kernel) rfl ⟨rfl, rfl⟩ ⟨Nat.le_of_ble_eq_true rfl, Nat.le_of_ble_eq_true rfl⟩ hl.1 rfl (Nat.le_of_ble_eq_true rfl) dX1_changeValue_2 ⟨Nat.le_of_ble_eq_true rfl, Nat.le_of_ble_eq_true rfl⟩ (fun _ _ _ _ _ h => h.elim) (fun v w' H locs hp hW hS => ?_)
  obtain ⟨rfl, ⟨rfl, j2, hj2, hjj⟩ | ⟨rfl, hno⟩⟩ := hp
  · refine nz_ne (tgt := 10) hx hb dX1_changeValue_5 (by decide) (by omega) (fun c1 => ?_) (fun c1 => ?_)
    · refine lv_aload_n hx hb dX1_changeValue_10 rfl (lv_at hl 0 rfl) ?_
      refine kg F hE hW (1, n) hP.1.1 rfl hP.2.1 rfl inA_X1 4 (by decide) kw_70 (v := .ref (ad (3, n))) rfl dX1_changeValue_11 ?_
      refine lv_iload_n hx hb dX1_changeValue_14 rfl (lv_at hl 1 rfl) ?_
      refine kl_i F hE hW (3, n) hP.1.2.2.1 rfl hP.2.2.2.1 j rfl (by omega) (by decide) dX1_changeValue_15 ?_
      refine lv_istore_n (lv' := [(3, .int (vf j)), (0, .ref (ad (1, n))), (1, .int (nI j)), (2, .int y)]) hx hb dX1_changeValue_16 rfl hl (by decide) rfl (fun ls hl => ?_)
      refine lv_aload_n hx hb dX1_changeValue_17 rfl (lv_at hl 1 rfl) ?_
      refine kg F hE hW (1, n) hP.1.1 rfl hP.2.1 rfl inA_X1 4 (by decide) kw_70 (v := .ref (ad (3, n))) rfl dX1_changeValue_18 ?_
      refine lv_iload_n hx hb dX1_changeValue_21 rfl (lv_at hl 2 rfl) ?_
      refine lv_iload_n hx hb dX1_changeValue_22 rfl (lv_at hl 3 rfl) ?_
      refine pg_val F hE hW hS hP j rfl (by omega) dX1_changeValue_23 (fun ct H locs hW hP hX0 hS => ?_)
      have hX := XP.tr hX hX0
      refine lv_iload_n hx hb dX1_changeValue_24 rfl (lv_at hl 0 rfl) ?_
      exact kr_i F hr hlk hE hW hS (Nat.le_of_ble_eq_true rfl) (Nat.le_of_ble_eq_true rfl) dX1_changeValue_25 (⟨_, rfl, rfl, hP, hX⟩)
    · exact absurd c1 (by decide)
  · exact absurd rfl (hno j hj)
set_option maxRecDepth 100000 in
set_option maxHeartbeats 4000000 in
theorem c_X1_removeFrom (l : Launch) (G : GG) (A : Nat → Prop) (ad : Lb → Nat) (dm : Lb → Prop) (ct : Lb → va_E) (n le lo sz hi : Nat) (ri : Option Nat) (de ta : Nat) (kf vf : Nat → Int32) (cf : Nat → Option Nat) (hP : PG G ad dm ct n le lo sz hi ri de ta kf vf cf) (hsz : sz ≤ 5) (j : Nat) (hj : j < sz) (hC : ∀ k, k < sz → isPg ad dm ct (cf k)) :
    CT l yX1_removeFrom cX1_removeFrom 3 none { frames := 1, cells := 0, slots := 0, locals := 22 } [.ref (ad (1, n)), .int (nI j)] G A (ad, dm, ct) (fun v w' => ∃ ct', w' = (ad, dm, ct') ∧ v = none ∧ ∃ kf' vf' cf', PG G ad dm ct' n le lo (sz - 1) hi ri de ta kf' vf' cf' ∧ XP n ct ct' ∧ Del j sz kf kf' ∧ Del j sz vf vf' ∧ Del j sz cf cf') (fun _ => False) (0) (0) := by
  refine ct_of (by decide) (Nat.le_of_ble_eq_true rfl) ?_
  intro p e s m below meth c ls F hr hlk hnm hex hE hW hl
  have hx := F.1
  have hb := F.2.1
  have hS : va_S A s.heap s.heap [] := va_S.rf
  have hl : lv_has ls 3 [(0, .ref (ad (1, n))), (1, .int (nI j))] := hl
  refine lv_aload_n hx hb dX1_removeFrom_0 rfl (lv_at hl 0 rfl) ?_
  refine lv_iload_n hx hb dX1_removeFrom_1 rfl (lv_at hl 1 rfl) ?_
  refine kc_V 1 (c_X1_has l G A ad dm ct n le lo sz hi ri de ta kf vf cf hP hsz (nI j)) F hE hW hS (1, n) hP.1.1 hP.2.1 rfl [.int (nI j)] rfl kw_191 kw_192 kw_193 kw_5 kw_194 (by decide +kernel) rfl ⟨rfl, rfl⟩ ⟨Nat.le_of_ble_eq_true rfl, Nat.le_of_ble_eq_true rfl⟩ hl.1 rfl (Nat.le_of_ble_eq_true rfl) dX1_removeFrom_2 ⟨Nat.le_of_ble_eq_true rfl, Nat.le_of_ble_eq_true rfl⟩ (fun _ _ _ _ _ h => h.elim) (fun v w' H locs hp hW hS => ?_)
  obtain ⟨rfl, ⟨rfl, j2, hj2, hjj⟩ | ⟨rfl, hno⟩⟩ := hp
  · refine nz_ne (tgt := 9) hx hb dX1_removeFrom_5 (by decide) (by omega) (fun c1 => ?_) (fun c1 => ?_)
    · refine lv_iload_n hx hb dX1_removeFrom_9 rfl (lv_at hl 1 rfl) ?_
      refine lv_istore_n (lv' := [(2, .int (nI j)), (0, .ref (ad (1, n))), (1, .int (nI j))]) hx hb dX1_removeFrom_10 rfl hl (by decide) rfl (fun ls hl => ?_)
      suffices key : ∀ (d t : Nat) (ct1 : Lb → va_E) (H : Heap) (locs : List Loc) (ls : Array Slot) (kf1 vf1 : Nat → Int32) (cf1 : Nat → Option Nat), t + 1 + d = sz → j ≤ t → PG G ad dm ct1 n le lo sz hi ri de ta kf1 vf1 cf1 → XP n ct ct1 → Dlp t j kf kf1 → Dlp t j vf vf1 → Dlp t j cf cf1 → (∀ k, k < sz → isPg ad dm ct1 (cf1 k)) → wd G A (ad, dm, ct1) H → va_S A s.heap H locs → lv_has ls 3 [(2, .int (nI t)), (0, .ref (ad (1, n))), (1, .int (nI j))] → W p l e _ s m _ below meth c H locs 0 0 _ (F0 m 11 ls []) from
        key (sz - 1 - j) j ct _ _ ls kf vf cf (by omega) (Nat.le_refl _) hP XP.rf Dlp.start Dlp.start Dlp.start hC hW hS hl
      clear hP hC hW hS hl
      intro d
      induction d with
      | zero =>
        intro t ct H locs ls kf1 vf1 cf1 ht htj hP hX hk hv hc hC hW hS hl
        refine lv_iload_n hx hb dX1_removeFrom_11 rfl (lv_at hl 0 rfl) ?_
        refine lv_iconst (v := nI 1) hx hb dX1_removeFrom_12 (by decide) ?_
        refine lv_iadd hx hb dX1_removeFrom_13 ?_
        refine ktop (nI_add _ _) ?_
        refine lv_aload_n hx hb dX1_removeFrom_14 rfl (lv_at hl 1 rfl) ?_
        refine kg F hE hW (1, n) hP.1.1 rfl hP.2.1 rfl inA_X1 6 (by decide) kw_72 (v := .int (nI sz)) rfl dX1_removeFrom_15 ?_
        refine nc_ge (tgt := 35) hx hb dX1_removeFrom_18 (by decide) (by omega) (by omega) (fun c3 => ?_) (fun c3 => ?_)
        · refine lv_aload_n hx hb dX1_removeFrom_35 rfl (lv_at hl 1 rfl) ?_
          refine lv_dup hx hb dX1_removeFrom_36 rfl ?_
          refine kg F hE hW (1, n) hP.1.1 rfl hP.2.1 rfl inA_X1 6 (by decide) kw_72 (v := .int (nI sz)) rfl dX1_removeFrom_37 ?_
          refine lv_iconst (v := nI 1) hx hb dX1_removeFrom_40 (by decide) ?_
          refine lv_isub hx hb dX1_removeFrom_41 ?_
          refine ktop (pk_sub (by omega)) ?_
          refine pg_size F hE hW hS hP kw_72 dX1_removeFrom_42 (fun ct H locs hW hP hX0 hS => ?_)
          have hX := XP.tr hX hX0
          exact kr_v F hr hlk hE hW hS (Nat.le_of_ble_eq_true rfl) (Nat.le_of_ble_eq_true rfl) dX1_removeFrom_45 (⟨_, rfl, rfl, _, _, _, hP, hX, hk.del (by omega), hv.del (by omega), hc.del (by omega)⟩)
        · exact absurd c3 (by omega)
      | succ d ih =>
        intro t ct H locs ls kf1 vf1 cf1 ht htj hP hX hk hv hc hC hW hS hl
        refine lv_iload_n hx hb dX1_removeFrom_11 rfl (lv_at hl 0 rfl) ?_
        refine lv_iconst (v := nI 1) hx hb dX1_removeFrom_12 (by decide) ?_
        refine lv_iadd hx hb dX1_removeFrom_13 ?_
        refine ktop (nI_add _ _) ?_
        refine lv_aload_n hx hb dX1_removeFrom_14 rfl (lv_at hl 1 rfl) ?_
        refine kg F hE hW (1, n) hP.1.1 rfl hP.2.1 rfl inA_X1 6 (by decide) kw_72 (v := .int (nI sz)) rfl dX1_removeFrom_15 ?_
        refine nc_ge (tgt := 35) hx hb dX1_removeFrom_18 (by decide) (by omega) (by omega) (fun c3 => ?_) (fun c3 => ?_)
        · exact absurd c3 (by omega)
        · refine lv_aload_n hx hb dX1_removeFrom_21 rfl (lv_at hl 1 rfl) ?_
          refine lv_iload_n hx hb dX1_removeFrom_22 rfl (lv_at hl 0 rfl) ?_
          refine lv_iconst (v := nI 1) hx hb dX1_removeFrom_23 (by decide) ?_
          refine lv_iadd hx hb dX1_removeFrom_24 ?_
          refine ktop (nI_add _ _) ?_
          refine lv_iload_n hx hb dX1_removeFrom_25 rfl (lv_at hl 0 rfl) ?_
          refine kc_V 2 (c_X1_copy l G A ad dm ct n le lo sz hi ri de ta kf1 vf1 cf1 hP hsz (t + 1) t (by omega) (by omega) (hC _ (by omega))) F hE hW hS (1, n) hP.1.1 hP.2.1 rfl [.int (nI (t + 1)), .int (nI t)] rfl kw_175 kw_177 kp_4 kw_5 kw_178 (by decide +kernel) rfl ⟨rfl, rfl⟩ ⟨Nat.le_of_ble_eq_true rfl, Nat.le_of_ble_eq_true rfl⟩ hl.1 rfl (Nat.le_of_ble_eq_true rfl) dX1_removeFrom_26 ⟨Nat.le_of_ble_eq_true rfl, Nat.le_of_ble_eq_true rfl⟩ (fun _ _ _ _ _ h => h.elim) (fun v w' H locs hp hW hS => ?_)
          obtain ⟨ct', rfl, rfl, hP', hX'⟩ := hp
          refine lv_iinc (v := nI (t + 1)) (lv' := [(2, .int (nI (t + 1))), (0, .ref (ad (1, n))), (1, .int (nI j))]) hx hb dX1_removeFrom_29 hl (k := 0) rfl (ki1 _) (by decide) rfl (fun ls hl => ?_)
          refine lv_goto (tgt := 11) hx hb dX1_removeFrom_32 (by decide) ?_
          exact ih (t + 1) ct' _ _ _ _ _ _ (by omega) (by omega) hP' (XP.tr hX hX') (hk.step htj) (hv.step htj) (hc.step htj) (fun k hk2 => by
            by_cases hkt : k = t
            · subst hkt; rw [va_up_self]; exact isPg.keep (hC _ (by omega)) hP' hX'
            · rw [va_up_ne _ _ hkt]; exact isPg.keep (hC k hk2) hP' hX') hW hS hl
    · exact absurd c1 (by decide)
  · exact absurd rfl (hno j hj)
