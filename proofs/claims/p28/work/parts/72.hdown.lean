/-! The class: going down, looking, counting. -/
section OW
variable {G : GG} {ad : Lb → Nat} {dm : Lb → Prop} {ct : Lb → va_E} {lv : Nat → Bool} {lev lo hi : Nat → Nat} {ri : Nat → Option Nat} {sz ky vl : Nat → Nat} {go : Nat → Option Nat} {rt ep : Nat} {wq : Nat → Nat} {wn cn : Nat} {op : Nat → Bool} {cl ca ce : Nat → Nat} {kc nb : Nat} {oo p q key lvl : Nat} {kf vf : Nat → Int32} {cf : Nat → Option Nat} {v : Option Value}
theorem kfn (hC : PC ad lev sz ky vl p kf vf cf) {k : Nat} (hk : k < sz p) : kf k = nI (ky (5 * p + k)) := (hC k hk).1
/-- the place that the class counts out, as a number -/
theorem q_cnt (hP : PgI lv lev lo hi ri sz ky vl go rt ep nb oo) (hv : lv p = true) (hC : PC ad lev sz ky vl p kf vf cf) {x : Nat} (hx : x < 1000) (hq : q ≤ sz p) (h1 : ∀ k, k < q → kf k < nI x) (h2 : q < sz p → ¬ kf q < nI x) : cnt (sz p) (pk ky p) x = q := by
  obtain ⟨p1, p2, p3, -⟩ := hP
  have a1 := p1 p hv
  have b1 : ∀ k, k < sz p → ky (5 * p + k) < 2 ^ 31 := fun k hk => by have := p2 p hv k hk; omega
  refine cnt_eq _ _ _ _ hq (fun k hk => ?_) (fun k hk hk2 => ?_)
  · have := h1 k hk
    rw [kfn hC (by omega)] at this
    exact (nI_ltI (b1 k (by omega)) (by omega)).mp this
  · have h3 := h2 (by omega)
    rw [kfn hC (by omega)] at h3
    have h4 : x ≤ ky (5 * p + q) := Nat.not_lt.mp fun h => h3 ((nI_ltI (b1 q (by omega)) (by omega)).mpr h)
    show x ≤ ky (5 * p + k)
    rcases Nat.lt_or_ge q k with h5 | h5
    · have := (p2 p hv k hk2).2.2.2 q h5; omega
    · have : k = q := by omega
      rw [this]; exact h4
/-- onward: the next page on the way -/
theorem ow_nx (hP : PgI lv lev lo hi ri sz ky vl go rt ep nb oo) (hk : key < 200) (hv : VP lv lev lo go key lvl p) (hC : PC ad lev sz ky vl p kf vf cf)
    (h : (hi p ≤ key ∧ v = some (va_rf (rA ad ri p))) ∨ (key < hi p ∧ lev p ≤ lvl ∧ v = some .null) ∨ (key < hi p ∧ lvl < lev p ∧ ∃ q, q ≤ sz p ∧ (∀ k, k < q → kf k < nI (key + 1)) ∧ (q < sz p → ¬ kf q < nI (key + 1)) ∧ ((∃ j, q = j + 1 ∧ v = some (va_rf (cf j))) ∨ (q = 0 ∧ v = some .null)))) :
    v = some (va_rf ((nxt lev hi ri sz ky vl key lvl p).map fun r => ad (1, r))) := by
  rcases h with ⟨h1, rfl⟩ | ⟨h1, h2, rfl⟩ | ⟨h1, h2, q, h3, h4, h5, h6⟩
  · unfold nxt; rw [if_pos h1]; rfl
  · unfold nxt; rw [if_neg (by omega), if_neg (by omega)]; rfl
  · have hc := q_cnt hP hv.1.1 hC (by omega) h3 h4 h5
    rcases nxt_vp hP hk hv with ⟨hn, g2, g3⟩ | ⟨r, hn, hr, hm, ⟨g1, -⟩ | ⟨g1, g2, g3, g4, g5⟩⟩
    · omega
    · omega
    · rcases h6 with ⟨j, rfl, rfl⟩ | ⟨rfl, rfl⟩
      · rw [hn, (hC j (by omega)).2.2 (by omega), g5, hc]; rfl
      · omega
/-- a key's place -/
theorem pl_fnd (hP : PgI lv lev lo hi ri sz ky vl go rt ep nb oo) (hv : lv p = true) (hC : PC ad lev sz ky vl p kf vf cf) (hk : key < 200)
    (h : ∃ q, q ≤ sz p ∧ (∀ k, k < q → kf k < nI key) ∧ (q < sz p → ¬ kf q < nI key) ∧ ((q < sz p ∧ kf q = nI key ∧ v = some (.int (nI q))) ∨ ((q < sz p → kf q ≠ nI key) ∧ v = some (.int (-1))))) :
    (∃ j, j < sz p ∧ fnd sz ky p key = some j ∧ v = some (.int (nI j))) ∨ (fnd sz ky p key = none ∧ (∀ k, k < sz p → ky (5 * p + k) ≠ key) ∧ v = some (.int (-1))) := by
  obtain ⟨q, h1, h2, h3, h4⟩ := h
  have hc := q_cnt hP hv hC (by omega) h1 h2 h3
  have p2 := hP.2.1 p hv
  have p1 := hP.1 p hv
  rcases h4 with ⟨h5, h6, rfl⟩ | ⟨h5, rfl⟩
  · rw [kfn hC h5] at h6
    have h7 := nI_inj (by have := p2 q h5; omega) (by omega) h6
    have hc2 : cnt (sz p) (pk ky p) (key + 1) = q + 1 := cnt_eq _ _ _ _ h5 (fun k hk => by
      show ky (5 * p + k) < key + 1
      rcases Nat.lt_or_ge k q with e | e
      · have := (p2 q h5).2.2.2 k e; omega
      · rw [show k = q by omega]; omega) (fun k e1 e2 => by
      have := (p2 k e2).2.2.2 q (by omega)
      show key + 1 ≤ ky (5 * p + k); omega)
    exact Or.inl ⟨q, h5, by unfold fnd; rw [hc2, if_pos ⟨by omega, h7⟩]; rfl, rfl⟩
  · have hno : ∀ k, k < sz p → ky (5 * p + k) ≠ key := by
      intro k hk2 e
      rcases Nat.lt_trichotomy k q with e1 | e1 | e1
      · have := h2 k e1
        rw [kfn hC hk2, e] at this
        exact absurd ((nI_ltI (by omega) (by omega)).mp this) (Nat.lt_irrefl _)
      · subst e1; exact h5 hk2 (by rw [kfn hC hk2, e])
      · have e2 := (p2 k hk2).2.2.2 q e1
        have := h3 (by omega)
        rw [kfn hC (by omega)] at this
        exact this ((nI_ltI (by omega) (by omega)).mpr (by omega))
    refine Or.inr ⟨?_, hno, rfl⟩
    cases hf : fnd sz ky p key with
    | none => rfl
    | some j => obtain ⟨a, b⟩ := fnd_some hf; exact absurd b (hno j a)
end OW
set_option maxRecDepth 100000 in
set_option maxHeartbeats 4000000 in
theorem c_X2_goDown (l : Launch) (G : GG) (A : Nat → Prop) (ad : Lb → Nat) (dm : Lb → Prop) (ct : Lb → va_E) (lv : Nat → Bool) (lev : Nat → Nat) (lo : Nat → Nat) (hi : Nat → Nat) (ri : Nat → Option Nat) (sz : Nat → Nat) (ky : Nat → Nat) (vl : Nat → Nat) (go : Nat → Option Nat) (rt : Nat) (ep : Nat) (wq : Nat → Nat) (wn : Nat) (cn : Nat) (op : Nat → Bool) (cl : Nat → Nat) (ca : Nat → Nat) (ce : Nat → Nat) (kc : Nat) (nb : Nat) (hH : HKF G ad dm ct lv lev lo hi ri sz ky vl go rt ep wq wn cn op cl ca ce kc nb) (oo key lvl : Nat) (hP : PgI lv lev lo hi ri sz ky vl go rt ep nb oo) (hb9 : nb ≤ 513) (hk : key < 200) (hlv : lvl ≤ lev rt) :
    CT l yX2_goDown cX2_goDown 6 (some (FieldType.object "Highkey$Page")) { frames := 3, cells := 0, slots := 0, locals := 64 } [.ref (ad (0, 0)), .int (nI key), .int (nI lvl)] G A (ad, dm, ct) (fun v w' => (ad, dm, ct) = w' ∧ v = some (.ref (ad (1, (dnF lev hi ri sz ky vl key lvl 2000 rt).1)))) (fun _ => False) (0) (0) := by
  refine ct_of (by decide) (Nat.le_of_ble_eq_true rfl) ?_
  intro p e s m below meth c ls F hr hlk hnm hex hE hW hl
  have hx := F.1
  have hb := F.2.1
  have hS : va_S A s.heap s.heap [] := va_S.rf
  have hl : lv_has ls 6 [(0, .ref (ad (0, 0))), (1, .int (nI key)), (2, .int (nI lvl))] := hl
  refine lv_aload_n hx hb dX2_goDown_0 rfl (lv_at hl 0 rfl) ?_
  refine kg F hE hW (0, 0) hH.1.1 rfl hH.2.1 rfl inA_X2 4 (by decide) kw_109 (v := .ref (ad (1, rt))) rfl dX2_goDown_1 ?_
  refine lv_astore_n (lv' := [(3, .ref (ad (1, rt))), (0, .ref (ad (0, 0))), (1, .int (nI key)), (2, .int (nI lvl))]) hx hb dX2_goDown_4 rfl hl (by decide) rfl (fun ls hl => ?_)
  refine lv_iconst (v := nI 0) hx hb dX2_goDown_5 (by decide) ?_
  refine lv_istore (lv' := [(4, .int (nI 0)), (3, .ref (ad (1, rt))), (0, .ref (ad (0, 0))), (1, .int (nI key)), (2, .int (nI lvl))]) hx hb dX2_goDown_6 hl (by decide) rfl (fun ls hl => ?_)
  have hv0 := vp_root (key := key) (lvl := lvl) hP hlv
  have hm0 := mu_root hP hb9
  generalize hRR : dnF lev hi ri sz ky vl key lvl 2000 rt = RR
  suffices key9 : ∀ (d : Nat) (i : Nat) (pg : Nat) (H : Heap) (locs : List Loc) (ls : Array Slot), VP lv lev lo go key lvl pg → mu lev lo pg < d → mu lev lo pg + i < 1000 → (dnF lev hi ri sz ky vl key lvl d pg).1 = RR.1 → wd G A (ad, dm, ct) H → va_S A s.heap H locs → lv_has ls 6 [(4, .int (nI i)), (3, .ref (ad (1, pg))), (0, .ref (ad (0, 0))), (1, .int (nI key)), (2, .int (nI lvl))] → W _ l e _ s m _ below meth c H locs 0 0 _ (F0 m 8 ls []) from
    key9 2000 0 rt _ _ ls hv0 (by omega) (by omega) (by rw [hRR]) hW hS hl
  clear hW hS hl
  intro d
  induction d with
  | zero => intro i pg H locs ls hv hm; omega
  | succ d ih =>
    intro i pg H locs ls hv hm hmi hr1 hW hS hl
    obtain ⟨g1, g2, g3, g4, g5, g6⟩ := pg_bd hP hb9 hv.1.1
    obtain ⟨kf1, vf1, cf1, ta1, hPp1, hCp1, hTp1⟩ := hH.2.2.2.2.2.2.1 pg hv.1.1
    have hl9 := hv.2.2
    unfold dnF at hr1
    refine lv_iload hx hb dX2_goDown_8 (lv_at hl 0 rfl) ?_
    refine lv_sipush (v := nI 1024) hx hb dX2_goDown_10 (by decide) ?_
    refine nc_ge (tgt := 40) hx hb dX2_goDown_13 (by decide) (by omega) (by omega) (fun c1 => ?_) (fun c1 => ?_)
    · exact absurd c1 (by omega)
    · refine lv_aload_n hx hb dX2_goDown_16 rfl (lv_at hl 1 rfl) ?_
      refine lv_iload_n hx hb dX2_goDown_17 rfl (lv_at hl 3 rfl) ?_
      refine lv_iload_n hx hb dX2_goDown_18 rfl (lv_at hl 4 rfl) ?_
      refine kc_V 2 (c_X1_onward l G A ad dm ct pg (lev pg) (lo pg) (sz pg) (hi pg) (rA ad ri pg) (dI go pg) ta1 kf1 vf1 cf1 hPp1 g5 key lvl (by omega) (by omega) (by omega) (by omega)) F hE hW hS (1, pg) hPp1.1.1 hPp1.2.1 rfl [.int (nI key), .int (nI lvl)] rfl kw_183 kw_184 kw_185 kw_5 kw_186 (by decide +kernel) rfl ⟨rfl, rfl⟩ ⟨Nat.le_of_ble_eq_true rfl, Nat.le_of_ble_eq_true rfl⟩ hl.1 rfl (Nat.le_of_ble_eq_true rfl) dX2_goDown_19 ⟨Nat.le_of_ble_eq_true rfl, Nat.le_of_ble_eq_true rfl⟩ (fun _ _ _ _ _ h => h.elim) (fun v w' H locs hp hW hS => ?_)
      obtain ⟨rfl, hp⟩ := hp
      have hp := ow_nx hP hk hv hCp1 hp
      rcases nxt_vp hP hk hv with ⟨hn, h2, h3⟩ | ⟨rz, hn, hrz, hmz, hcase⟩
      · rw [hn] at hp hr1
        obtain rfl := hp
        dsimp only at hr1
        refine lv_astoreN (lv' := [(5, .null), (4, .int (nI i)), (3, .ref (ad (1, pg))), (0, .ref (ad (0, 0))), (1, .int (nI key)), (2, .int (nI lvl))]) hx hb dX2_goDown_22 hl (by decide) rfl (fun ls hl => ?_)
        refine lv_aloadN hx hb dX2_goDown_24 (lv_at hl 0 rfl) ?_
        refine lv_ifnonnullN hx hb dX2_goDown_26 ?_
        refine lv_aload_n hx hb dX2_goDown_29 rfl (lv_at hl 2 rfl) ?_
        exact kr_a F hr hlk hE hW hS (Nat.le_of_ble_eq_true rfl) (Nat.le_of_ble_eq_true rfl) (Or.inl ⟨_, rfl⟩) (Or.inr ⟨_, rfl⟩) dX2_goDown_30 (⟨rfl, by rw [← hr1]⟩)
      · rw [hn] at hp hr1
        obtain rfl := hp
        dsimp only at hr1
        refine lv_astore (lv' := [(5, .ref (ad (1, rz))), (4, .int (nI i)), (3, .ref (ad (1, pg))), (0, .ref (ad (0, 0))), (1, .int (nI key)), (2, .int (nI lvl))]) hx hb dX2_goDown_22 hl (by decide) rfl (fun ls hl => ?_)
        refine lv_aload hx hb dX2_goDown_24 (lv_at hl 0 rfl) ?_
        refine lv_ifnonnull (tgt := 31) hx hb dX2_goDown_26 (by decide) ?_
        refine lv_aload hx hb dX2_goDown_31 (lv_at hl 0 rfl) ?_
        refine lv_astore_n (lv' := [(3, .ref (ad (1, rz))), (5, .ref (ad (1, rz))), (4, .int (nI i)), (0, .ref (ad (0, 0))), (1, .int (nI key)), (2, .int (nI lvl))]) hx hb dX2_goDown_33 rfl hl (by decide) rfl (fun ls hl => ?_)
        refine lv_iinc (v := nI (i + 1)) (lv' := [(4, .int (nI (i + 1))), (3, .ref (ad (1, rz))), (5, .ref (ad (1, rz))), (0, .ref (ad (0, 0))), (1, .int (nI key)), (2, .int (nI lvl))]) hx hb dX2_goDown_34 hl (k := 2) rfl (ki1 _) (by decide) rfl (fun ls hl => ?_)
        refine lv_goto (tgt := 8) hx hb dX2_goDown_37 (by decide) ?_
        exact ih (i + 1) rz _ _ _ hrz (by omega) (by omega) hr1 hW hS (lv_sub hl [0, 1, 3, 4, 5] rfl)
set_option maxRecDepth 100000 in
set_option maxHeartbeats 4000000 in
theorem c_X2_lowestFreeNumber (l : Launch) (G : GG) (A : Nat → Prop) (ad : Lb → Nat) (dm : Lb → Prop) (ct : Lb → va_E) (lv : Nat → Bool) (lev : Nat → Nat) (lo : Nat → Nat) (hi : Nat → Nat) (ri : Nat → Option Nat) (sz : Nat → Nat) (ky : Nat → Nat) (vl : Nat → Nat) (go : Nat → Option Nat) (rt : Nat) (ep : Nat) (wq : Nat → Nat) (wn : Nat) (cn : Nat) (op : Nat → Bool) (cl : Nat → Nat) (ca : Nat → Nat) (ce : Nat → Nat) (kc : Nat) (nb : Nat) (hH : HKF G ad dm ct lv lev lo hi ri sz ky vl go rt ep wq wn cn op cl ca ce kc nb) (hlv : lv (fr lv) = false) (hlt : ∀ j, j < fr lv → lv j = true) (hf8 : fr lv < 800) :
    CT l yX2_lowestFreeNumber cX2_lowestFreeNumber 2 (some FieldType.int) { frames := 0, cells := 0, slots := 0, locals := 0 } [.ref (ad (0, 0))] G A (ad, dm, ct) (fun v w' => (ad, dm, ct) = w' ∧ v = some (.int (nI (fr lv)))) (fun _ => False) (0) (0) := by
  refine ct_of (by decide) (Nat.le_of_ble_eq_true rfl) ?_
  intro p e s m below meth c ls F hr hlk hnm hex hE hW hl
  have hx := F.1
  have hb := F.2.1
  have hS : va_S A s.heap s.heap [] := va_S.rf
  have hl : lv_has ls 2 [(0, .ref (ad (0, 0)))] := hl
  refine lv_iconst (v := nI 0) hx hb dX2_lowestFreeNumber_0 (by decide) ?_
  refine lv_istore_n (lv' := [(1, .int (nI 0)), (0, .ref (ad (0, 0)))]) hx hb dX2_lowestFreeNumber_1 rfl hl (by decide) rfl (fun ls hl => ?_)
  suffices key9 : ∀ (d : Nat) (i : Nat) (H : Heap) (locs : List Loc) (ls : Array Slot), i + d = fr lv → wd G A (ad, dm, ct) H → va_S A s.heap H locs → lv_has ls 2 [(1, .int (nI i)), (0, .ref (ad (0, 0)))] → W _ l e _ s m _ below meth c H locs 0 0 _ (F0 m 2 ls []) from
    key9 (fr lv) 0 _ _ ls (Nat.zero_add _) hW hS hl
  clear hW hS hl
  intro d
  induction d with
  | zero =>
    intro i H locs ls hi9 hW hS hl
    obtain rfl : i = fr lv := by omega
    refine lv_iload_n hx hb dX2_lowestFreeNumber_2 rfl (lv_at hl 0 rfl) ?_
    refine lv_aload_n hx hb dX2_lowestFreeNumber_3 rfl (lv_at hl 1 rfl) ?_
    refine kg F hE hW (0, 0) hH.1.1 rfl hH.2.1 rfl inA_X2 0 (by decide) kw_105 (v := .ref (ad (0, 1))) rfl dX2_lowestFreeNumber_4 ?_
    refine kal 2 F hE hW (0, 1) hH.1.2.1 rfl rfl hH.2.2.1 dX2_lowestFreeNumber_7 ?_
    refine nc_ge (tgt := 28) hx hb dX2_lowestFreeNumber_8 (by decide) (by omega) (by omega) (fun c1 => ?_) (fun c1 => ?_)
    · exact absurd c1 (by omega)
    · refine lv_aload_n hx hb dX2_lowestFreeNumber_11 rfl (lv_at hl 1 rfl) ?_
      refine kg F hE hW (0, 0) hH.1.1 rfl hH.2.1 rfl inA_X2 0 (by decide) kw_105 (v := .ref (ad (0, 1))) rfl dX2_lowestFreeNumber_12 ?_
      refine lv_iload_n hx hb dX2_lowestFreeNumber_15 rfl (lv_at hl 0 rfl) ?_
      refine kl_a 2 F hE hW (0, 1) hH.1.2.1 rfl rfl hH.2.2.1 (fr lv) rfl (by omega) (by decide) (v := .null) (by rw [pfA_f hlv]; rfl) dX2_lowestFreeNumber_16 ?_
      refine lv_ifnonnullN hx hb dX2_lowestFreeNumber_17 ?_
      refine lv_iload_n hx hb dX2_lowestFreeNumber_20 rfl (lv_at hl 0 rfl) ?_
      exact kr_i F hr hlk hE hW hS (Nat.le_of_ble_eq_true rfl) (Nat.le_of_ble_eq_true rfl) dX2_lowestFreeNumber_21 (⟨rfl, rfl⟩)
  | succ d ih =>
    intro i H locs ls hi9 hW hS hl
    refine lv_iload_n hx hb dX2_lowestFreeNumber_2 rfl (lv_at hl 0 rfl) ?_
    refine lv_aload_n hx hb dX2_lowestFreeNumber_3 rfl (lv_at hl 1 rfl) ?_
    refine kg F hE hW (0, 0) hH.1.1 rfl hH.2.1 rfl inA_X2 0 (by decide) kw_105 (v := .ref (ad (0, 1))) rfl dX2_lowestFreeNumber_4 ?_
    refine kal 2 F hE hW (0, 1) hH.1.2.1 rfl rfl hH.2.2.1 dX2_lowestFreeNumber_7 ?_
    refine nc_ge (tgt := 28) hx hb dX2_lowestFreeNumber_8 (by decide) (by omega) (by omega) (fun c1 => ?_) (fun c1 => ?_)
    · exact absurd c1 (by omega)
    · refine lv_aload_n hx hb dX2_lowestFreeNumber_11 rfl (lv_at hl 1 rfl) ?_
      refine kg F hE hW (0, 0) hH.1.1 rfl hH.2.1 rfl inA_X2 0 (by decide) kw_105 (v := .ref (ad (0, 1))) rfl dX2_lowestFreeNumber_12 ?_
      refine lv_iload_n hx hb dX2_lowestFreeNumber_15 rfl (lv_at hl 0 rfl) ?_
      refine kl_a 2 F hE hW (0, 1) hH.1.2.1 rfl rfl hH.2.2.1 i rfl (by omega) (by decide) (v := .ref (ad (1, i))) (by rw [pfA_t (hlt i (by omega))]; rfl) dX2_lowestFreeNumber_16 ?_
      refine lv_ifnonnull (tgt := 22) hx hb dX2_lowestFreeNumber_17 (by decide) ?_
      refine lv_iinc (v := nI (i + 1)) (lv' := [(1, .int (nI (i + 1))), (0, .ref (ad (0, 0)))]) hx hb dX2_lowestFreeNumber_22 hl (k := 0) rfl (ki1 _) (by decide) rfl (fun ls hl => ?_)
      refine lv_goto (tgt := 2) hx hb dX2_lowestFreeNumber_25 (by decide) ?_
      exact ih (i + 1) _ _ _ (by omega) hW hS hl
set_option maxRecDepth 100000 in
set_option maxHeartbeats 4000000 in
theorem c_X2_links (l : Launch) (G : GG) (A : Nat → Prop) (ad : Lb → Nat) (dm : Lb → Prop) (ct : Lb → va_E) (lv : Nat → Bool) (lev : Nat → Nat) (lo : Nat → Nat) (hi : Nat → Nat) (ri : Nat → Option Nat) (sz : Nat → Nat) (ky : Nat → Nat) (vl : Nat → Nat) (go : Nat → Option Nat) (rt : Nat) (ep : Nat) (wq : Nat → Nat) (wn : Nat) (cn : Nat) (op : Nat → Bool) (cl : Nat → Nat) (ca : Nat → Nat) (ce : Nat → Nat) (kc : Nat) (nb : Nat) (hst : l.stackTraces = false) (hH : HKF G ad dm ct lv lev lo hi ri sz ky vl go rt ep wq wn cn op cl ca ce kc nb) (t0 : Nat) (hI : InvF lv lev lo hi ri sz ky vl go rt ep wq wn cn op cl ca ce kc nb 800 t0) (x : Int32) :
    CT l yX2_links cX2_links 6 (some FieldType.int) { frames := 7, cells := 1, slots := 6, locals := 120 } [.ref (ad (0, 0)), .int x] G A (ad, dm, ct) (fun v w' => (ad, dm, ct) = w' ∧ ∃ key, key < 200 ∧ x = nI key ∧ v = some (.int (nI (dnF lev hi ri sz ky vl key 0 2000 rt).2))) (fun E => E = "java/lang/IllegalArgumentException" ∧ ∀ k, k < 200 → x ≠ nI k) (1) (6) := by
  refine ct_of (by decide) (Nat.le_of_ble_eq_true rfl) ?_
  intro p e s m below meth c ls F hr hlk hnm hex hE hW hl
  have hx := F.1
  have hb := F.2.1
  have hS : va_S A s.heap s.heap [] := va_S.rf
  have hl : lv_has ls 6 [(0, .ref (ad (0, 0))), (1, .int x)] := hl
  have hI0 := hI
  obtain ⟨hP, hQ, hCu, hkc, hsum, ht, hep, hkt⟩ := hI
  have hb9 : nb ≤ 513 := by omega
  have hwn9 : wn ≤ 513 := by omega
  obtain ⟨hfr1, hfr2, hfr3⟩ := fr_spec hP hb9
  refine lv_iload_n hx hb dX2_links_0 rfl (lv_at hl 1 rfl) ?_
  refine kc_S 1 (c_X2_checkKey l G A ad dm ct hst x) F hE hW hS kw_289 kw_290 kw_1 kw_291 (by decide +kernel) rfl ⟨rfl, rfl⟩ ⟨Nat.le_of_ble_eq_true rfl, Nat.le_of_ble_eq_true rfl⟩ hl.1 rfl (Nat.le_of_ble_eq_true rfl) dX2_links_1 ⟨Nat.le_of_ble_eq_true rfl, Nat.le_of_ble_eq_true rfl⟩ (fun E q9 ce H locs hpx hW hS hce hcv hcl => kr_x hex hlk hW hS hce hcv hcl (Nat.le_of_ble_eq_true rfl) (Nat.le_of_ble_eq_true rfl) (hpx)) (fun v w' H locs hp hW hS => ?_)
  obtain ⟨rfl, rfl, key, hk, rfl⟩ := hp
  obtain ⟨kf1, vf1, cf1, ta1, hPp1, hCp1, hTp1⟩ := hH.2.2.2.2.2.2.1 rt hP.2.2.2.2.2.2.2.1.1.1
  refine lv_iconst (v := nI 0) hx hb dX2_links_4 (by decide) ?_
  refine lv_istore_n (lv' := [(2, .int (nI 0)), (0, .ref (ad (0, 0))), (1, .int (nI key))]) hx hb dX2_links_5 rfl hl (by decide) rfl (fun ls hl => ?_)
  refine lv_aload_n hx hb dX2_links_6 rfl (lv_at hl 1 rfl) ?_
  refine kg F hE hW (0, 0) hH.1.1 rfl hH.2.1 rfl inA_X2 4 (by decide) kw_109 (v := .ref (ad (1, rt))) rfl dX2_links_7 ?_
  refine lv_astore_n (lv' := [(3, .ref (ad (1, rt))), (2, .int (nI 0)), (0, .ref (ad (0, 0))), (1, .int (nI key))]) hx hb dX2_links_10 rfl hl (by decide) rfl (fun ls hl => ?_)
  refine lv_iconst (v := nI 0) hx hb dX2_links_11 (by decide) ?_
  refine lv_istore (lv' := [(4, .int (nI 0)), (3, .ref (ad (1, rt))), (2, .int (nI 0)), (0, .ref (ad (0, 0))), (1, .int (nI key))]) hx hb dX2_links_12 hl (by decide) rfl (fun ls hl => ?_)
  have hv0 := vp_root (key := key) (lvl := 0) hP (Nat.zero_le _)
  have hm0 := mu_root hP hb9
  generalize hRR : dnF lev hi ri sz ky vl key 0 2000 rt = RR
  suffices key9 : ∀ (d : Nat) (i : Nat) (pg : Nat) (f0 : Nat) (H : Heap) (locs : List Loc) (ls : Array Slot), VP lv lev lo go key 0 pg → mu lev lo pg < d → mu lev lo pg + i < 1000 → (dnF lev hi ri sz ky vl key 0 d pg).1 = RR.1 → f0 + (dnF lev hi ri sz ky vl key 0 d pg).2 = RR.2 → f0 ≤ i → wd G A (ad, dm, ct) H → va_S A s.heap H locs → lv_has ls 6 [(4, .int (nI i)), (3, .ref (ad (1, pg))), (2, .int (nI f0)), (0, .ref (ad (0, 0))), (1, .int (nI key))] → W _ l e _ s m _ below meth c H locs (0 + 1) (0 + 6) _ (F0 m 14 ls []) from
    key9 2000 0 rt 0 _ _ ls hv0 (by omega) (by omega) (by rw [hRR]) (by rw [hRR]; exact Nat.zero_add _) (Nat.le_refl _) hW hS hl
  clear hW hS hl
  intro d
  induction d with
  | zero => intro i pg f0 H locs ls hv hm; omega
  | succ d ih =>
    intro i pg f0 H locs ls hv hm hmi hr1 hr2 hf9 hW hS hl
    obtain ⟨g1, g2, g3, g4, g5, g6⟩ := pg_bd hP hb9 hv.1.1
    obtain ⟨kf2, vf2, cf2, ta2, hPp2, hCp2, hTp2⟩ := hH.2.2.2.2.2.2.1 pg hv.1.1
    have hl9 := hv.2.2
    unfold dnF at hr1 hr2
    refine lv_iload hx hb dX2_links_14 (lv_at hl 0 rfl) ?_
    refine lv_sipush (v := nI 1024) hx hb dX2_links_16 (by decide) ?_
    refine nc_ge (tgt := 61) hx hb dX2_links_19 (by decide) (by omega) (by omega) (fun c1 => ?_) (fun c1 => ?_)
    · exact absurd c1 (by omega)
    · refine lv_aload_n hx hb dX2_links_22 rfl (lv_at hl 1 rfl) ?_
      refine lv_iload_n hx hb dX2_links_23 rfl (lv_at hl 4 rfl) ?_
      refine lv_iconst (v := nI 0) hx hb dX2_links_24 (by decide) ?_
      refine kc_V 2 (c_X1_onward l G A ad dm ct pg (lev pg) (lo pg) (sz pg) (hi pg) (rA ad ri pg) (dI go pg) ta2 kf2 vf2 cf2 hPp2 g5 key 0 (by omega) (by omega) (by omega) (by omega)) F hE hW hS (1, pg) hPp2.1.1 hPp2.2.1 rfl [.int (nI key), .int (nI 0)] rfl kw_183 kw_184 kw_185 kw_5 kw_186 (by decide +kernel) rfl ⟨rfl, rfl⟩ ⟨Nat.le_of_ble_eq_true rfl, Nat.le_of_ble_eq_true rfl⟩ hl.1 rfl (Nat.le_of_ble_eq_true rfl) dX2_links_25 ⟨Nat.le_of_ble_eq_true rfl, Nat.le_of_ble_eq_true rfl⟩ (fun _ _ _ _ _ h => h.elim) (fun v w' H locs hp hW hS => ?_)
      obtain ⟨rfl, hp⟩ := hp
      have hp := ow_nx hP hk hv hCp2 hp
      rcases nxt_vp hP hk hv with ⟨hn, h2, h3⟩ | ⟨rz, hn, hrz, hmz, hcase⟩
      · rw [hn] at hp hr1 hr2
        obtain rfl := hp
        dsimp only at hr1 hr2
        refine lv_astoreN (lv' := [(5, .null), (4, .int (nI i)), (3, .ref (ad (1, pg))), (2, .int (nI f0)), (0, .ref (ad (0, 0))), (1, .int (nI key))]) hx hb dX2_links_28 hl (by decide) rfl (fun ls hl => ?_)
        refine lv_aloadN hx hb dX2_links_30 (lv_at hl 0 rfl) ?_
        refine lv_ifnonnullN hx hb dX2_links_32 ?_
        refine lv_iload_n hx hb dX2_links_35 rfl (lv_at hl 3 rfl) ?_
        exact kr_i F hr hlk hE hW hS (Nat.le_of_ble_eq_true rfl) (Nat.le_of_ble_eq_true rfl) dX2_links_36 (⟨rfl, key, hk, rfl, by rw [hRR, ← hr2]; rfl⟩)
      · rw [hn] at hp hr1 hr2
        obtain rfl := hp
        dsimp only at hr1 hr2
        obtain ⟨kf3, vf3, cf3, ta3, hPp3, hCp3, hTp3⟩ := hH.2.2.2.2.2.2.1 rz hrz.1.1
        obtain ⟨w1, w2, w3, w4, w5, w6⟩ := pg_bd hP hb9 hrz.1.1
        refine lv_astore (lv' := [(5, .ref (ad (1, rz))), (4, .int (nI i)), (3, .ref (ad (1, pg))), (2, .int (nI f0)), (0, .ref (ad (0, 0))), (1, .int (nI key))]) hx hb dX2_links_28 hl (by decide) rfl (fun ls hl => ?_)
        refine lv_aload hx hb dX2_links_30 (lv_at hl 0 rfl) ?_
        refine lv_ifnonnull (tgt := 37) hx hb dX2_links_32 (by decide) ?_
        refine lv_aload hx hb dX2_links_37 (lv_at hl 0 rfl) ?_
        refine kg F hE hW (1, rz) hPp3.1.1 rfl hPp3.2.1 rfl inA_X1 1 (by decide) kw_66 (v := .int (nI (lev rz))) rfl dX2_links_39 ?_
        refine lv_aload_n hx hb dX2_links_42 rfl (lv_at hl 2 rfl) ?_
        refine kg F hE hW (1, pg) hPp2.1.1 rfl hPp2.2.1 rfl inA_X1 1 (by decide) kw_66 (v := .int (nI (lev pg))) rfl dX2_links_43 ?_
        refine nc_ne (tgt := 52) hx hb dX2_links_46 (by decide) (by omega) (by omega) (fun c3 => ?_) (fun c3 => ?_)
        · rw [if_neg (by rcases hcase with ⟨k1, k2, k3⟩ | ⟨k1, -⟩; exact absurd k3 c3; omega)] at hr2
          refine lv_aload hx hb dX2_links_52 (lv_at hl 0 rfl) ?_
          refine lv_astore_n (lv' := [(3, .ref (ad (1, rz))), (5, .ref (ad (1, rz))), (4, .int (nI i)), (2, .int (nI f0)), (0, .ref (ad (0, 0))), (1, .int (nI key))]) hx hb dX2_links_54 rfl hl (by decide) rfl (fun ls hl => ?_)
          refine lv_iinc (v := nI (i + 1)) (lv' := [(4, .int (nI (i + 1))), (3, .ref (ad (1, rz))), (5, .ref (ad (1, rz))), (2, .int (nI f0)), (0, .ref (ad (0, 0))), (1, .int (nI key))]) hx hb dX2_links_55 hl (k := 2) rfl (ki1 _) (by decide) rfl (fun ls hl => ?_)
          refine lv_goto (tgt := 14) hx hb dX2_links_58 (by decide) ?_
          exact ih (i + 1) rz f0 _ _ _ hrz (by omega) (by omega) hr1 (by omega) (by omega) hW hS (lv_sub hl [0, 1, 3, 4, 5] rfl)
        · rw [if_pos (by rcases hcase with ⟨k1, k2, k3⟩ | ⟨k1, k2, k3, -⟩; exact k1; omega)] at hr2
          refine lv_iinc (v := nI (f0 + 1)) (lv' := [(2, .int (nI (f0 + 1))), (5, .ref (ad (1, rz))), (4, .int (nI i)), (3, .ref (ad (1, pg))), (0, .ref (ad (0, 0))), (1, .int (nI key))]) hx hb dX2_links_49 hl (k := 3) rfl (ki1 _) (by decide) rfl (fun ls hl => ?_)
          refine lv_aload hx hb dX2_links_52 (lv_at hl 1 rfl) ?_
          refine lv_astore_n (lv' := [(3, .ref (ad (1, rz))), (2, .int (nI (f0 + 1))), (5, .ref (ad (1, rz))), (4, .int (nI i)), (0, .ref (ad (0, 0))), (1, .int (nI key))]) hx hb dX2_links_54 rfl hl (by decide) rfl (fun ls hl => ?_)
          refine lv_iinc (v := nI (i + 1)) (lv' := [(4, .int (nI (i + 1))), (3, .ref (ad (1, rz))), (2, .int (nI (f0 + 1))), (5, .ref (ad (1, rz))), (0, .ref (ad (0, 0))), (1, .int (nI key))]) hx hb dX2_links_55 hl (k := 3) rfl (ki1 _) (by decide) rfl (fun ls hl => ?_)
          refine lv_goto (tgt := 14) hx hb dX2_links_58 (by decide) ?_
          exact ih (i + 1) rz (f0 + 1) _ _ _ hrz (by omega) (by omega) hr1 (by omega) (by omega) hW hS (lv_sub hl [0, 1, 2, 4, 5] rfl)
set_option maxRecDepth 100000 in
set_option maxHeartbeats 4000000 in
theorem c_X2_get (l : Launch) (G : GG) (A : Nat → Prop) (ad : Lb → Nat) (dm : Lb → Prop) (ct : Lb → va_E) (lv : Nat → Bool) (lev : Nat → Nat) (lo : Nat → Nat) (hi : Nat → Nat) (ri : Nat → Option Nat) (sz : Nat → Nat) (ky : Nat → Nat) (vl : Nat → Nat) (go : Nat → Option Nat) (rt : Nat) (ep : Nat) (wq : Nat → Nat) (wn : Nat) (cn : Nat) (op : Nat → Bool) (cl : Nat → Nat) (ca : Nat → Nat) (ce : Nat → Nat) (kc : Nat) (nb : Nat) (hst : l.stackTraces = false) (hH : HKF G ad dm ct lv lev lo hi ri sz ky vl go rt ep wq wn cn op cl ca ce kc nb) (t0 : Nat) (hI : InvF lv lev lo hi ri sz ky vl go rt ep wq wn cn op cl ca ce kc nb 800 t0) (x : Int32) :
    CT l yX2_get cX2_get 3 (some FieldType.int) { frames := 7, cells := 1, slots := 6, locals := 120 } [.ref (ad (0, 0)), .int x] G A (ad, dm, ct) (fun v w' => (ad, dm, ct) = w' ∧ ∃ key, key < 200 ∧ x = nI key ∧ v = some (.int (oI (getS (lv, lev, lo, hi, ri, sz, ky, vl, go, rt, ep, wq, wn, cn, op, cl, ca, ce, kc, nb) key)))) (fun E => E = "java/lang/IllegalArgumentException" ∧ ∀ k, k < 200 → x ≠ nI k) (1) (6) := by
  refine ct_of (by decide) (Nat.le_of_ble_eq_true rfl) ?_
  intro p e s m below meth c ls F hr hlk hnm hex hE hW hl
  have hx := F.1
  have hb := F.2.1
  have hS : va_S A s.heap s.heap [] := va_S.rf
  have hl : lv_has ls 3 [(0, .ref (ad (0, 0))), (1, .int x)] := hl
  have hI0 := hI
  obtain ⟨hP, hQ, hCu, hkc, hsum, ht, hep, hkt⟩ := hI
  have hb9 : nb ≤ 513 := by omega
  have hwn9 : wn ≤ 513 := by omega
  obtain ⟨hfr1, hfr2, hfr3⟩ := fr_spec hP hb9
  refine lv_iload_n hx hb dX2_get_0 rfl (lv_at hl 1 rfl) ?_
  refine kc_S 1 (c_X2_checkKey l G A ad dm ct hst x) F hE hW hS kw_289 kw_290 kw_1 kw_291 (by decide +kernel) rfl ⟨rfl, rfl⟩ ⟨Nat.le_of_ble_eq_true rfl, Nat.le_of_ble_eq_true rfl⟩ hl.1 rfl (Nat.le_of_ble_eq_true rfl) dX2_get_1 ⟨Nat.le_of_ble_eq_true rfl, Nat.le_of_ble_eq_true rfl⟩ (fun E q9 ce H locs hpx hW hS hce hcv hcl => kr_x hex hlk hW hS hce hcv hcl (Nat.le_of_ble_eq_true rfl) (Nat.le_of_ble_eq_true rfl) (hpx)) (fun v w' H locs hp hW hS => ?_)
  obtain ⟨rfl, rfl, key, hk, rfl⟩ := hp
  have hAt := dnF_at hP hk 2000 rt (vp_root (key := key) (lvl := 0) hP (Nat.zero_le _)) (by have := mu_root hP hb9; omega)
  obtain ⟨pz, hpz⟩ : ∃ z, (dnF lev hi ri sz ky vl key 0 2000 rt).1 = z := ⟨_, rfl⟩
  rw [hpz] at hAt
  obtain ⟨u1, u2, u3, u4, u5, u6⟩ := pg_bd hP hb9 hAt.1.1
  refine lv_aload_n hx hb dX2_get_4 rfl (lv_at hl 0 rfl) ?_
  refine lv_iload_n hx hb dX2_get_5 rfl (lv_at hl 1 rfl) ?_
  refine lv_iconst (v := nI 0) hx hb dX2_get_6 (by decide) ?_
  refine kc_V 2 (c_X2_goDown l G A ad dm ct lv lev lo hi ri sz ky vl go rt ep wq wn cn op cl ca ce kc nb hH 800 key 0 hP hb9 hk (Nat.zero_le _)) F hE hW hS (0, 0) hH.1.1 hH.2.1 rfl [.int (nI key), .int (nI 0)] rfl kw_179 kw_181 kp_5 kw_1 kw_182 (by decide +kernel) rfl ⟨rfl, rfl⟩ ⟨Nat.le_of_ble_eq_true rfl, Nat.le_of_ble_eq_true rfl⟩ hl.1 rfl (Nat.le_of_ble_eq_true rfl) dX2_get_7 ⟨Nat.le_of_ble_eq_true rfl, Nat.le_of_ble_eq_true rfl⟩ (fun _ _ _ _ _ h => h.elim) (fun v w' H locs hp hW hS => ?_)
  rw [hpz] at hp
  obtain ⟨rfl, rfl⟩ := hp
  obtain ⟨kf1, vf1, cf1, ta1, hPp1, hCp1, hTp1⟩ := hH.2.2.2.2.2.2.1 pz hAt.1.1
  refine lv_astore_n (lv' := [(2, .ref (ad (1, pz))), (0, .ref (ad (0, 0))), (1, .int (nI key))]) hx hb dX2_get_10 rfl hl (by decide) rfl (fun ls hl => ?_)
  refine lv_aload_n hx hb dX2_get_11 rfl (lv_at hl 0 rfl) ?_
  refine lv_aload_n hx hb dX2_get_12 rfl (lv_at hl 0 rfl) ?_
  refine lv_iload_n hx hb dX2_get_13 rfl (lv_at hl 2 rfl) ?_
  refine kc_V 1 (c_X1_placeOf l G A ad dm ct pz (lev pz) (lo pz) (sz pz) (hi pz) (rA ad ri pz) (dI go pz) ta1 kf1 vf1 cf1 hPp1 u5 (nI key)) F hE hW hS (1, pz) hPp1.1.1 hPp1.2.1 rfl [.int (nI key)] rfl kw_364 kw_365 kw_366 kw_5 kw_367 (by decide +kernel) rfl ⟨rfl, rfl⟩ ⟨Nat.le_of_ble_eq_true rfl, Nat.le_of_ble_eq_true rfl⟩ hl.1 rfl (Nat.le_of_ble_eq_true rfl) dX2_get_14 ⟨Nat.le_of_ble_eq_true rfl, Nat.le_of_ble_eq_true rfl⟩ (fun _ _ _ _ _ h => h.elim) (fun v w' H locs hp hW hS => ?_)
  obtain ⟨rfl, hp⟩ := hp
  rcases pl_fnd hP hAt.1.1 hCp1 hk hp with ⟨j, hj, hfn, rfl⟩ | ⟨hfn, -, rfl⟩
  · refine kc_V 1 (c_X1_valueIn l G A ad dm ct pz (lev pz) (lo pz) (sz pz) (hi pz) (rA ad ri pz) (dI go pz) ta1 kf1 vf1 cf1 hPp1 u5 (nI j)) F hE hW hS (1, pz) hPp1.1.1 hPp1.2.1 rfl [.int (nI j)] rfl kw_376 kw_377 kw_378 kw_5 kw_379 (by decide +kernel) rfl ⟨rfl, rfl⟩ ⟨Nat.le_of_ble_eq_true rfl, Nat.le_of_ble_eq_true rfl⟩ hl.1 rfl (Nat.le_of_ble_eq_true rfl) dX2_get_17 ⟨Nat.le_of_ble_eq_true rfl, Nat.le_of_ble_eq_true rfl⟩ (fun _ _ _ _ _ h => h.elim) (fun v w' H locs hp hW hS => ?_)
    obtain ⟨rfl, ⟨i9, hi9, he9, rfl⟩ | ⟨rfl, hno⟩⟩ := hp
    · obtain rfl : j = i9 := nI_inj (by omega) (by omega) he9
      exact kr_i F hr hlk hE hW hS (Nat.le_of_ble_eq_true rfl) (Nat.le_of_ble_eq_true rfl) dX2_get_20 (⟨rfl, key, hk, rfl, by unfold getS; dsimp only; rw [hpz, hfn, ((hCp1 j hj).2.1 hAt.2.1).1]; rfl⟩)
    · exact absurd rfl (hno j hj)
  · refine kc_V 1 (c_X1_valueIn l G A ad dm ct pz (lev pz) (lo pz) (sz pz) (hi pz) (rA ad ri pz) (dI go pz) ta1 kf1 vf1 cf1 hPp1 u5 (-1)) F hE hW hS (1, pz) hPp1.1.1 hPp1.2.1 rfl [.int (-1)] rfl kw_376 kw_377 kw_378 kw_5 kw_379 (by decide +kernel) rfl ⟨rfl, rfl⟩ ⟨Nat.le_of_ble_eq_true rfl, Nat.le_of_ble_eq_true rfl⟩ hl.1 rfl (Nat.le_of_ble_eq_true rfl) dX2_get_17 ⟨Nat.le_of_ble_eq_true rfl, Nat.le_of_ble_eq_true rfl⟩ (fun _ _ _ _ _ h => h.elim) (fun v w' H locs hp hW hS => ?_)
    obtain ⟨rfl, ⟨i9, hi9, he9, rfl⟩ | ⟨rfl, hno⟩⟩ := hp
    · exact absurd he9.symm (nI_neg (by omega))
    · exact kr_i F hr hlk hE hW hS (Nat.le_of_ble_eq_true rfl) (Nat.le_of_ble_eq_true rfl) dX2_get_20 (⟨rfl, key, hk, rfl, by unfold getS; dsimp only; rw [hpz, hfn]; rfl⟩)
set_option maxRecDepth 100000 in
set_option maxHeartbeats 4000000 in
theorem c_X2_getByLeaves (l : Launch) (G : GG) (A : Nat → Prop) (ad : Lb → Nat) (dm : Lb → Prop) (ct : Lb → va_E) (lv : Nat → Bool) (lev : Nat → Nat) (lo : Nat → Nat) (hi : Nat → Nat) (ri : Nat → Option Nat) (sz : Nat → Nat) (ky : Nat → Nat) (vl : Nat → Nat) (go : Nat → Option Nat) (rt : Nat) (ep : Nat) (wq : Nat → Nat) (wn : Nat) (cn : Nat) (op : Nat → Bool) (cl : Nat → Nat) (ca : Nat → Nat) (ce : Nat → Nat) (kc : Nat) (nb : Nat) (hst : l.stackTraces = false) (hH : HKF G ad dm ct lv lev lo hi ri sz ky vl go rt ep wq wn cn op cl ca ce kc nb) (t0 : Nat) (hI : InvF lv lev lo hi ri sz ky vl go rt ep wq wn cn op cl ca ce kc nb 800 t0) (x : Int32) :
    CT l yX2_getByLeaves cX2_getByLeaves 4 (some FieldType.int) { frames := 7, cells := 1, slots := 6, locals := 120 } [.ref (ad (0, 0)), .int x] G A (ad, dm, ct) (fun v w' => (ad, dm, ct) = w' ∧ ∃ key, key < 200 ∧ x = nI key ∧ v = some (.int (oI (getS (lv, lev, lo, hi, ri, sz, ky, vl, go, rt, ep, wq, wn, cn, op, cl, ca, ce, kc, nb) key)))) (fun E => E = "java/lang/IllegalArgumentException" ∧ ∀ k, k < 200 → x ≠ nI k) (1) (6) := by
  refine ct_of (by decide) (Nat.le_of_ble_eq_true rfl) ?_
  intro p e s m below meth c ls F hr hlk hnm hex hE hW hl
  have hx := F.1
  have hb := F.2.1
  have hS : va_S A s.heap s.heap [] := va_S.rf
  have hl : lv_has ls 4 [(0, .ref (ad (0, 0))), (1, .int x)] := hl
  have hI0 := hI
  obtain ⟨hP, hQ, hCu, hkc, hsum, ht, hep, hkt⟩ := hI
  have hb9 : nb ≤ 513 := by omega
  have hwn9 : wn ≤ 513 := by omega
  obtain ⟨hfr1, hfr2, hfr3⟩ := fr_spec hP hb9
  refine lv_iload_n hx hb dX2_getByLeaves_0 rfl (lv_at hl 1 rfl) ?_
  refine kc_S 1 (c_X2_checkKey l G A ad dm ct hst x) F hE hW hS kw_289 kw_290 kw_1 kw_291 (by decide +kernel) rfl ⟨rfl, rfl⟩ ⟨Nat.le_of_ble_eq_true rfl, Nat.le_of_ble_eq_true rfl⟩ hl.1 rfl (Nat.le_of_ble_eq_true rfl) dX2_getByLeaves_1 ⟨Nat.le_of_ble_eq_true rfl, Nat.le_of_ble_eq_true rfl⟩ (fun E q9 ce H locs hpx hW hS hce hcv hcl => kr_x hex hlk hW hS hce hcv hcl (Nat.le_of_ble_eq_true rfl) (Nat.le_of_ble_eq_true rfl) (hpx)) (fun v w' H locs hp hW hS => ?_)
  obtain ⟨rfl, rfl, key, hk, rfl⟩ := hp
  have hAt := dnF_at hP hk 2000 rt (vp_root (key := key) (lvl := 0) hP (Nat.zero_le _)) (by have := mu_root hP hb9; omega)
  obtain ⟨pz, hpz⟩ : ∃ z, (dnF lev hi ri sz ky vl key 0 2000 rt).1 = z := ⟨_, rfl⟩
  rw [hpz] at hAt
  obtain ⟨u1, u2, u3, u4, u5, u6⟩ := pg_bd hP hb9 hAt.1.1
  obtain ⟨kf1, vf1, cf1, ta1, hPp1, hCp1, hTp1⟩ := hH.2.2.2.2.2.2.1 0 hP.2.2.2.2.2.2.2.2.1.1.1
  refine lv_aload_n hx hb dX2_getByLeaves_4 rfl (lv_at hl 0 rfl) ?_
  refine kg F hE hW (0, 0) hH.1.1 rfl hH.2.1 rfl inA_X2 3 (by decide) kw_108 (v := .ref (ad (1, 0))) rfl dX2_getByLeaves_5 ?_
  refine lv_astore_n (lv' := [(2, .ref (ad (1, 0))), (0, .ref (ad (0, 0))), (1, .int (nI key))]) hx hb dX2_getByLeaves_8 rfl hl (by decide) rfl (fun ls hl => ?_)
  suffices key9 : ∀ (d : Nat) (pg : Nat) (H : Heap) (locs : List Loc) (ls : Array Slot), Al lv go pg ∧ lev pg = 0 ∧ (lo pg ≤ lo pz ∨ fnd sz ky pz key = none) → 200 - lo pg < d → wd G A (ad, dm, ct) H → va_S A s.heap H locs → lv_has ls 4 [(2, .ref (ad (1, pg))), (0, .ref (ad (0, 0))), (1, .int (nI key))] → W _ l e _ s m _ below meth c H locs (0 + 1) (0 + 6) _ (F0 m 9 ls []) from
    key9 201 0 _ _ ls ⟨hP.2.2.2.2.2.2.2.2.1.1, hP.2.2.2.2.2.2.2.2.1.2.1, Or.inl (by rw [hP.2.2.2.2.2.2.2.2.1.2.2]; exact Nat.zero_le _)⟩ (by omega) hW hS hl
  clear hW hS hl
  intro d
  induction d with
  | zero => intro pg H locs ls hv hm; omega
  | succ d ih =>
    intro pg H locs ls hv hm hW hS hl
    obtain ⟨g1, g2, g3, g4, g5, g6⟩ := pg_bd hP hb9 hv.1.1
    obtain ⟨kf2, vf2, cf2, ta2, hPp2, hCp2, hTp2⟩ := hH.2.2.2.2.2.2.1 pg hv.1.1
    refine lv_aload_n hx hb dX2_getByLeaves_9 rfl (lv_at hl 0 rfl) ?_
    refine lv_ifnull hx hb dX2_getByLeaves_10 ?_
    refine lv_aload_n hx hb dX2_getByLeaves_13 rfl (lv_at hl 0 rfl) ?_
    refine lv_iload_n hx hb dX2_getByLeaves_14 rfl (lv_at hl 2 rfl) ?_
    refine kc_V 1 (c_X1_placeOf l G A ad dm ct pg (lev pg) (lo pg) (sz pg) (hi pg) (rA ad ri pg) (dI go pg) ta2 kf2 vf2 cf2 hPp2 g5 (nI key)) F hE hW hS (1, pg) hPp2.1.1 hPp2.2.1 rfl [.int (nI key)] rfl kw_364 kw_365 kw_366 kw_5 kw_367 (by decide +kernel) rfl ⟨rfl, rfl⟩ ⟨Nat.le_of_ble_eq_true rfl, Nat.le_of_ble_eq_true rfl⟩ hl.1 rfl (Nat.le_of_ble_eq_true rfl) dX2_getByLeaves_15 ⟨Nat.le_of_ble_eq_true rfl, Nat.le_of_ble_eq_true rfl⟩ (fun _ _ _ _ _ h => h.elim) (fun v w' H locs hp hW hS => ?_)
    obtain ⟨rfl, hp⟩ := hp
    rcases pl_fnd hP hv.1.1 hCp2 hk hp with ⟨j, hj, hfn, rfl⟩ | ⟨hfn, hno, rfl⟩
    · have hpp : pg = pz := by
        by_cases e : pg = pz
        · exact e
        · have h1 := (hP.2.1 pg hv.1.1 j hj)
          have h2 := (fnd_some hfn).2
          have h3 := hP.2.2.2.2.1 pg pz hv.1 hAt.1 (hv.2.1.trans hAt.2.1.symm) e
          omega
      refine lv_istore_n (lv' := [(3, .int (nI j)), (2, .ref (ad (1, pg))), (0, .ref (ad (0, 0))), (1, .int (nI key))]) hx hb dX2_getByLeaves_18 rfl hl (by decide) rfl (fun ls hl => ?_)
      refine lv_iload_n hx hb dX2_getByLeaves_19 rfl (lv_at hl 0 rfl) ?_
      refine lv_iconst (v := (-1)) hx hb dX2_getByLeaves_20 (by decide) ?_
      refine lv_icmp_eq (tgt := 30) hx hb dX2_getByLeaves_21 (by decide) (fun c2 => ?_) (fun c2 => ?_)
      · exact absurd c2 (nI_neg (by omega))
      · refine lv_aload_n hx hb dX2_getByLeaves_24 rfl (lv_at hl 1 rfl) ?_
        refine lv_iload_n hx hb dX2_getByLeaves_25 rfl (lv_at hl 0 rfl) ?_
        refine kc_V 1 (c_X1_valueIn l G A ad dm ct pg (lev pg) (lo pg) (sz pg) (hi pg) (rA ad ri pg) (dI go pg) ta2 kf2 vf2 cf2 hPp2 g5 (nI j)) F hE hW hS (1, pg) hPp2.1.1 hPp2.2.1 rfl [.int (nI j)] rfl kw_376 kw_377 kw_378 kw_5 kw_379 (by decide +kernel) rfl ⟨rfl, rfl⟩ ⟨Nat.le_of_ble_eq_true rfl, Nat.le_of_ble_eq_true rfl⟩ hl.1 rfl (Nat.le_of_ble_eq_true rfl) dX2_getByLeaves_26 ⟨Nat.le_of_ble_eq_true rfl, Nat.le_of_ble_eq_true rfl⟩ (fun _ _ _ _ _ h => h.elim) (fun v w' H locs hp hW hS => ?_)
        obtain ⟨rfl, ⟨i9, hi9, he9, rfl⟩ | ⟨rfl, hno⟩⟩ := hp
        · obtain rfl : j = i9 := nI_inj (by omega) (by omega) he9
          exact kr_i F hr hlk hE hW hS (Nat.le_of_ble_eq_true rfl) (Nat.le_of_ble_eq_true rfl) dX2_getByLeaves_29 (⟨rfl, key, hk, rfl, by rw [hpp] at hfn; unfold getS; dsimp only; rw [hpz, hfn, ((hCp2 j hj).2.1 hv.2.1).1, hpp]; rfl⟩)
        · exact absurd rfl (hno j hj)
    · refine lv_istore_n (lv' := [(3, .int (-1)), (2, .ref (ad (1, pg))), (0, .ref (ad (0, 0))), (1, .int (nI key))]) hx hb dX2_getByLeaves_18 rfl hl (by decide) rfl (fun ls hl => ?_)
      refine lv_iload_n hx hb dX2_getByLeaves_19 rfl (lv_at hl 0 rfl) ?_
      refine lv_iconst (v := (-1)) hx hb dX2_getByLeaves_20 (by decide) ?_
      refine lv_icmp_eq (tgt := 30) hx hb dX2_getByLeaves_21 (by decide) (fun c2 => ?_) (fun c2 => ?_)
      · refine lv_aload_n hx hb dX2_getByLeaves_30 rfl (lv_at hl 1 rfl) ?_
        cases hr9 : ri pg with
        | none =>
          have hz9 := hP.2.2.1 pg hv.1.1 hr9
          have hg9 : getS (lv, lev, lo, hi, ri, sz, ky, vl, go, rt, ep, wq, wn, cn, op, cl, ca, ce, kc, nb) key = none := by
            unfold getS; dsimp only; rw [hpz]
            by_cases e : pg = pz
            · rw [← e, hfn]; rfl
            · rcases hv.2.2 with h | h
              · have := hP.2.2.2.2.1 pg pz hv.1 hAt.1 (hv.2.1.trans hAt.2.1.symm) e; omega
              · rw [h]; rfl
          refine kg F hE hW (1, pg) hPp2.1.1 rfl hPp2.2.1 rfl inA_X1 8 (by decide) kw_77 (v := .null) (by show some (va_rf (rA ad ri pg)) = _; unfold rA; rw [hr9]; rfl) dX2_getByLeaves_31 ?_
          refine lv_astore_nN (lv' := [(2, .null), (3, .int (-1)), (0, .ref (ad (0, 0))), (1, .int (nI key))]) hx hb dX2_getByLeaves_34 rfl hl (by decide) rfl (fun ls hl => ?_)
          refine lv_goto (tgt := 9) hx hb dX2_getByLeaves_35 (by decide) ?_
          refine lv_aload_nN hx hb dX2_getByLeaves_9 rfl (lv_at hl 0 rfl) ?_
          refine lv_ifnullN (tgt := 38) hx hb dX2_getByLeaves_10 (by decide) ?_
          refine lv_iconst (v := (-1)) hx hb dX2_getByLeaves_38 (by decide) ?_
          exact kr_i F hr hlk hE hW hS (Nat.le_of_ble_eq_true rfl) (Nat.le_of_ble_eq_true rfl) dX2_getByLeaves_39 (⟨rfl, key, hk, rfl, by rw [hg9]; rfl⟩)
        | some rz =>
          refine kg F hE hW (1, pg) hPp2.1.1 rfl hPp2.2.1 rfl inA_X1 8 (by decide) kw_77 (v := .ref (ad (1, rz))) (by show some (va_rf (rA ad ri pg)) = _; unfold rA; rw [hr9]; rfl) dX2_getByLeaves_31 ?_
          refine lv_astore_n (lv' := [(2, .ref (ad (1, rz))), (3, .int (-1)), (0, .ref (ad (0, 0))), (1, .int (nI key))]) hx hb dX2_getByLeaves_34 rfl hl (by decide) rfl (fun ls hl => ?_)
          refine lv_goto (tgt := 9) hx hb dX2_getByLeaves_35 (by decide) ?_
          obtain ⟨b1, b2, b3, b4, b5⟩ := hP.2.2.2.1 pg rz hv.1.1 hr9
          refine ih rz _ _ _ ⟨⟨b1, b4 hv.1.2⟩, by omega, ?_⟩ (by omega) hW hS (lv_sub hl [0, 2, 3] rfl)
          by_cases e : pg = pz
          · exact Or.inr (by rw [← e]; exact hfn)
          · rcases hv.2.2 with h | h
            · have := hP.2.2.2.2.1 pg pz hv.1 hAt.1 (hv.2.1.trans hAt.2.1.symm) e; exact Or.inl (by omega)
            · exact Or.inr h
      · exact absurd rfl c2
set_option maxRecDepth 100000 in
set_option maxHeartbeats 4000000 in
theorem c_X2_pages (l : Launch) (G : GG) (A : Nat → Prop) (ad : Lb → Nat) (dm : Lb → Prop) (ct : Lb → va_E) (lv : Nat → Bool) (lev : Nat → Nat) (lo : Nat → Nat) (hi : Nat → Nat) (ri : Nat → Option Nat) (sz : Nat → Nat) (ky : Nat → Nat) (vl : Nat → Nat) (go : Nat → Option Nat) (rt : Nat) (ep : Nat) (wq : Nat → Nat) (wn : Nat) (cn : Nat) (op : Nat → Bool) (cl : Nat → Nat) (ca : Nat → Nat) (ce : Nat → Nat) (kc : Nat) (nb : Nat) (hH : HKF G ad dm ct lv lev lo hi ri sz ky vl go rt ep wq wn cn op cl ca ce kc nb) (t0 : Nat) (hI : InvF lv lev lo hi ri sz ky vl go rt ep wq wn cn op cl ca ce kc nb 800 t0)  :
    CT l yX2_pages cX2_pages 6 (some FieldType.int) { frames := 0, cells := 0, slots := 0, locals := 0 } [.ref (ad (0, 0))] G A (ad, dm, ct) (fun v w' => (ad, dm, ct) = w' ∧ v = some (.int (nI (cntB 800 (lv))))) (fun _ => False) (0) (0) := by
  refine ct_of (by decide) (Nat.le_of_ble_eq_true rfl) ?_
  intro p e s m below meth c ls F hr hlk hnm hex hE hW hl
  have hx := F.1
  have hb := F.2.1
  have hS : va_S A s.heap s.heap [] := va_S.rf
  have hl : lv_has ls 6 [(0, .ref (ad (0, 0)))] := hl
  have hI0 := hI
  obtain ⟨hP, hQ, hCu, hkc, hsum, ht, hep, hkt⟩ := hI
  have hb9 : nb ≤ 513 := by omega
  have hwn9 : wn ≤ 513 := by omega
  obtain ⟨hfr1, hfr2, hfr3⟩ := fr_spec hP hb9
  have hz8 : ∀ j, lv j = true → j < 800 := fun j hj => by have := (hP.1 j hj).1; omega
  have hCN : cntB 1024 (lv) = cntB 800 (lv) := cntB_more (n := 800) 224 (fun k hk => by cases h : lv k with
    | false => simp [h]
    | true => have := hz8 k h; omega)
  generalize hCC : cntB 800 (lv) = CC at hCN ⊢
  have hc9 : CC ≤ 800 := by rw [← hCC]; exact cntB_le _ _
  refine lv_iconst (v := nI 0) hx hb dX2_pages_0 (by decide) ?_
  refine lv_istore_n (lv' := [(1, .int (nI 0)), (0, .ref (ad (0, 0)))]) hx hb dX2_pages_1 rfl hl (by decide) rfl (fun ls hl => ?_)
  refine lv_aload_n hx hb dX2_pages_2 rfl (lv_at hl 1 rfl) ?_
  refine kg F hE hW (0, 0) hH.1.1 rfl hH.2.1 rfl inA_X2 0 (by decide) kw_105 (v := .ref (ad (0, 1))) rfl dX2_pages_3 ?_
  refine lv_astore_n (lv' := [(2, .ref (ad (0, 1))), (1, .int (nI 0)), (0, .ref (ad (0, 0)))]) hx hb dX2_pages_6 rfl hl (by decide) rfl (fun ls hl => ?_)
  refine lv_aload_n hx hb dX2_pages_7 rfl (lv_at hl 0 rfl) ?_
  refine kal 2 F hE hW (0, 1) hH.1.2.1 rfl rfl hH.2.2.1 dX2_pages_8 ?_
  refine lv_istore_n (lv' := [(3, .int (nI 1024)), (2, .ref (ad (0, 1))), (1, .int (nI 0)), (0, .ref (ad (0, 0)))]) hx hb dX2_pages_9 rfl hl (by decide) rfl (fun ls hl => ?_)
  refine lv_iconst (v := nI 0) hx hb dX2_pages_10 (by decide) ?_
  refine lv_istore (lv' := [(4, .int (nI 0)), (3, .int (nI 1024)), (2, .ref (ad (0, 1))), (1, .int (nI 0)), (0, .ref (ad (0, 0)))]) hx hb dX2_pages_11 hl (by decide) rfl (fun ls hl => ?_)
  suffices key9 : ∀ (d : Nat) (i : Nat) (f0 : Nat) (H : Heap) (locs : List Loc) (ls : Array Slot), i + d = 1024 → f0 = cntB i (lv) → wd G A (ad, dm, ct) H → va_S A s.heap H locs → lv_has ls 6 [(4, .int (nI i)), (3, .int (nI 1024)), (2, .ref (ad (0, 1))), (1, .int (nI f0)), (0, .ref (ad (0, 0)))] → W _ l e _ s m _ below meth c H locs 0 0 _ (F0 m 13 ls []) from
    key9 1024 0 0 _ _ ls (by decide) rfl hW hS hl
  clear hW hS hl
  intro d
  induction d with
  | zero =>
    intro i f0 H locs ls hi9 hf9 hW hS hl
    refine lv_iload hx hb dX2_pages_13 (lv_at hl 0 rfl) ?_
    refine lv_iload_n hx hb dX2_pages_15 rfl (lv_at hl 1 rfl) ?_
    refine nc_ge (tgt := 39) hx hb dX2_pages_16 (by decide) (by omega) (by omega) (fun c1 => ?_) (fun c1 => ?_)
    · refine lv_iload_n hx hb dX2_pages_39 rfl (lv_at hl 3 rfl) ?_
      exact kr_i F hr hlk hE hW hS (Nat.le_of_ble_eq_true rfl) (Nat.le_of_ble_eq_true rfl) dX2_pages_40 (⟨rfl, by rw [hf9, show i = 1024 by omega, hCN]⟩)
    · exact absurd c1 (by omega)
  | succ d ih =>
    intro i f0 H locs ls hi9 hf9 hW hS hl
    refine lv_iload hx hb dX2_pages_13 (lv_at hl 0 rfl) ?_
    refine lv_iload_n hx hb dX2_pages_15 rfl (lv_at hl 1 rfl) ?_
    refine nc_ge (tgt := 39) hx hb dX2_pages_16 (by decide) (by omega) (by omega) (fun c1 => ?_) (fun c1 => ?_)
    · exact absurd c1 (by omega)
    · refine lv_aload_n hx hb dX2_pages_19 rfl (lv_at hl 2 rfl) ?_
      refine lv_iload hx hb dX2_pages_20 (lv_at hl 0 rfl) ?_
      cases hv9 : lv i with
      | false =>
        refine kl_a 2 F hE hW (0, 1) hH.1.2.1 rfl rfl hH.2.2.1 i rfl (by omega) (by decide) (v := .null) (by rw [pfA_f hv9]; rfl) dX2_pages_22 ?_
        refine lv_astoreN (lv' := [(5, .null), (4, .int (nI i)), (3, .int (nI 1024)), (2, .ref (ad (0, 1))), (1, .int (nI f0)), (0, .ref (ad (0, 0)))]) hx hb dX2_pages_23 hl (by decide) rfl (fun ls hl => ?_)
        refine lv_aloadN hx hb dX2_pages_25 (lv_at hl 0 rfl) ?_
        refine lv_ifnullN (tgt := 33) hx hb dX2_pages_27 (by decide) ?_
        refine lv_iinc (v := nI (i + 1)) (lv' := [(4, .int (nI (i + 1))), (5, .null), (3, .int (nI 1024)), (2, .ref (ad (0, 1))), (1, .int (nI f0)), (0, .ref (ad (0, 0)))]) hx hb dX2_pages_33 hl (k := 1) rfl (ki1 _) (by decide) rfl (fun ls hl => ?_)
        refine lv_goto (tgt := 13) hx hb dX2_pages_36 (by decide) ?_
        exact ih (i + 1) f0 _ _ _ (by omega) (by rw [hf9, cntB_s0 (by simp [hv9])]) hW hS (lv_sub hl [0, 2, 3, 4, 5] rfl)
      | true =>
        refine kl_a 2 F hE hW (0, 1) hH.1.2.1 rfl rfl hH.2.2.1 i rfl (by omega) (by decide) (v := .ref (ad (1, i))) (by rw [pfA_t hv9]; rfl) dX2_pages_22 ?_
        refine lv_astore (lv' := [(5, .ref (ad (1, i))), (4, .int (nI i)), (3, .int (nI 1024)), (2, .ref (ad (0, 1))), (1, .int (nI f0)), (0, .ref (ad (0, 0)))]) hx hb dX2_pages_23 hl (by decide) rfl (fun ls hl => ?_)
        refine lv_aload hx hb dX2_pages_25 (lv_at hl 0 rfl) ?_
        refine lv_ifnull hx hb dX2_pages_27 ?_
        refine lv_iinc (v := nI (f0 + 1)) (lv' := [(1, .int (nI (f0 + 1))), (5, .ref (ad (1, i))), (4, .int (nI i)), (3, .int (nI 1024)), (2, .ref (ad (0, 1))), (0, .ref (ad (0, 0)))]) hx hb dX2_pages_30 hl (k := 4) rfl (ki1 _) (by decide) rfl (fun ls hl => ?_)
        refine lv_iinc (v := nI (i + 1)) (lv' := [(4, .int (nI (i + 1))), (1, .int (nI (f0 + 1))), (5, .ref (ad (1, i))), (3, .int (nI 1024)), (2, .ref (ad (0, 1))), (0, .ref (ad (0, 0)))]) hx hb dX2_pages_33 hl (k := 2) rfl (ki1 _) (by decide) rfl (fun ls hl => ?_)
        refine lv_goto (tgt := 13) hx hb dX2_pages_36 (by decide) ?_
        exact ih (i + 1) (f0 + 1) _ _ _ (by omega) (by rw [hf9, cntB_s1 hv9]) hW hS (lv_sub hl [0, 3, 4, 1, 5] rfl)
set_option maxRecDepth 100000 in
set_option maxHeartbeats 4000000 in
theorem c_X2_dead (l : Launch) (G : GG) (A : Nat → Prop) (ad : Lb → Nat) (dm : Lb → Prop) (ct : Lb → va_E) (lv : Nat → Bool) (lev : Nat → Nat) (lo : Nat → Nat) (hi : Nat → Nat) (ri : Nat → Option Nat) (sz : Nat → Nat) (ky : Nat → Nat) (vl : Nat → Nat) (go : Nat → Option Nat) (rt : Nat) (ep : Nat) (wq : Nat → Nat) (wn : Nat) (cn : Nat) (op : Nat → Bool) (cl : Nat → Nat) (ca : Nat → Nat) (ce : Nat → Nat) (kc : Nat) (nb : Nat) (hH : HKF G ad dm ct lv lev lo hi ri sz ky vl go rt ep wq wn cn op cl ca ce kc nb) (t0 : Nat) (hI : InvF lv lev lo hi ri sz ky vl go rt ep wq wn cn op cl ca ce kc nb 800 t0)  :
    CT l yX2_dead cX2_dead 6 (some FieldType.int) { frames := 0, cells := 0, slots := 0, locals := 0 } [.ref (ad (0, 0))] G A (ad, dm, ct) (fun v w' => (ad, dm, ct) = w' ∧ v = some (.int (nI (cntB 800 (fun n => lv n && (go n).isSome))))) (fun _ => False) (0) (0) := by
  refine ct_of (by decide) (Nat.le_of_ble_eq_true rfl) ?_
  intro p e s m below meth c ls F hr hlk hnm hex hE hW hl
  have hx := F.1
  have hb := F.2.1
  have hS : va_S A s.heap s.heap [] := va_S.rf
  have hl : lv_has ls 6 [(0, .ref (ad (0, 0)))] := hl
  have hI0 := hI
  obtain ⟨hP, hQ, hCu, hkc, hsum, ht, hep, hkt⟩ := hI
  have hb9 : nb ≤ 513 := by omega
  have hwn9 : wn ≤ 513 := by omega
  obtain ⟨hfr1, hfr2, hfr3⟩ := fr_spec hP hb9
  have hz8 : ∀ j, lv j = true → j < 800 := fun j hj => by have := (hP.1 j hj).1; omega
  have hCN : cntB 1024 (fun n => lv n && (go n).isSome) = cntB 800 (fun n => lv n && (go n).isSome) := cntB_more (n := 800) 224 (fun k hk => by cases h : lv k with
    | false => simp [h]
    | true => have := hz8 k h; omega)
  generalize hCC : cntB 800 (fun n => lv n && (go n).isSome) = CC at hCN ⊢
  have hc9 : CC ≤ 800 := by rw [← hCC]; exact cntB_le _ _
  refine lv_iconst (v := nI 0) hx hb dX2_dead_0 (by decide) ?_
  refine lv_istore_n (lv' := [(1, .int (nI 0)), (0, .ref (ad (0, 0)))]) hx hb dX2_dead_1 rfl hl (by decide) rfl (fun ls hl => ?_)
  refine lv_aload_n hx hb dX2_dead_2 rfl (lv_at hl 1 rfl) ?_
  refine kg F hE hW (0, 0) hH.1.1 rfl hH.2.1 rfl inA_X2 0 (by decide) kw_105 (v := .ref (ad (0, 1))) rfl dX2_dead_3 ?_
  refine lv_astore_n (lv' := [(2, .ref (ad (0, 1))), (1, .int (nI 0)), (0, .ref (ad (0, 0)))]) hx hb dX2_dead_6 rfl hl (by decide) rfl (fun ls hl => ?_)
  refine lv_aload_n hx hb dX2_dead_7 rfl (lv_at hl 0 rfl) ?_
  refine kal 2 F hE hW (0, 1) hH.1.2.1 rfl rfl hH.2.2.1 dX2_dead_8 ?_
  refine lv_istore_n (lv' := [(3, .int (nI 1024)), (2, .ref (ad (0, 1))), (1, .int (nI 0)), (0, .ref (ad (0, 0)))]) hx hb dX2_dead_9 rfl hl (by decide) rfl (fun ls hl => ?_)
  refine lv_iconst (v := nI 0) hx hb dX2_dead_10 (by decide) ?_
  refine lv_istore (lv' := [(4, .int (nI 0)), (3, .int (nI 1024)), (2, .ref (ad (0, 1))), (1, .int (nI 0)), (0, .ref (ad (0, 0)))]) hx hb dX2_dead_11 hl (by decide) rfl (fun ls hl => ?_)
  suffices key9 : ∀ (d : Nat) (i : Nat) (f0 : Nat) (H : Heap) (locs : List Loc) (ls : Array Slot), i + d = 1024 → f0 = cntB i (fun n => lv n && (go n).isSome) → wd G A (ad, dm, ct) H → va_S A s.heap H locs → lv_has ls 6 [(4, .int (nI i)), (3, .int (nI 1024)), (2, .ref (ad (0, 1))), (1, .int (nI f0)), (0, .ref (ad (0, 0)))] → W _ l e _ s m _ below meth c H locs 0 0 _ (F0 m 13 ls []) from
    key9 1024 0 0 _ _ ls (by decide) rfl hW hS hl
  clear hW hS hl
  intro d
  induction d with
  | zero =>
    intro i f0 H locs ls hi9 hf9 hW hS hl
    refine lv_iload hx hb dX2_dead_13 (lv_at hl 0 rfl) ?_
    refine lv_iload_n hx hb dX2_dead_15 rfl (lv_at hl 1 rfl) ?_
    refine nc_ge (tgt := 47) hx hb dX2_dead_16 (by decide) (by omega) (by omega) (fun c1 => ?_) (fun c1 => ?_)
    · refine lv_iload_n hx hb dX2_dead_47 rfl (lv_at hl 3 rfl) ?_
      exact kr_i F hr hlk hE hW hS (Nat.le_of_ble_eq_true rfl) (Nat.le_of_ble_eq_true rfl) dX2_dead_48 (⟨rfl, by rw [hf9, show i = 1024 by omega, hCN]⟩)
    · exact absurd c1 (by omega)
  | succ d ih =>
    intro i f0 H locs ls hi9 hf9 hW hS hl
    refine lv_iload hx hb dX2_dead_13 (lv_at hl 0 rfl) ?_
    refine lv_iload_n hx hb dX2_dead_15 rfl (lv_at hl 1 rfl) ?_
    refine nc_ge (tgt := 47) hx hb dX2_dead_16 (by decide) (by omega) (by omega) (fun c1 => ?_) (fun c1 => ?_)
    · exact absurd c1 (by omega)
    · refine lv_aload_n hx hb dX2_dead_19 rfl (lv_at hl 2 rfl) ?_
      refine lv_iload hx hb dX2_dead_20 (lv_at hl 0 rfl) ?_
      cases hv9 : lv i with
      | false =>
        refine kl_a 2 F hE hW (0, 1) hH.1.2.1 rfl rfl hH.2.2.1 i rfl (by omega) (by decide) (v := .null) (by rw [pfA_f hv9]; rfl) dX2_dead_22 ?_
        refine lv_astoreN (lv' := [(5, .null), (4, .int (nI i)), (3, .int (nI 1024)), (2, .ref (ad (0, 1))), (1, .int (nI f0)), (0, .ref (ad (0, 0)))]) hx hb dX2_dead_23 hl (by decide) rfl (fun ls hl => ?_)
        refine lv_aloadN hx hb dX2_dead_25 (lv_at hl 0 rfl) ?_
        refine lv_ifnullN (tgt := 41) hx hb dX2_dead_27 (by decide) ?_
        refine lv_iinc (v := nI (i + 1)) (lv' := [(4, .int (nI (i + 1))), (5, .null), (3, .int (nI 1024)), (2, .ref (ad (0, 1))), (1, .int (nI f0)), (0, .ref (ad (0, 0)))]) hx hb dX2_dead_41 hl (k := 1) rfl (ki1 _) (by decide) rfl (fun ls hl => ?_)
        refine lv_goto (tgt := 13) hx hb dX2_dead_44 (by decide) ?_
        exact ih (i + 1) f0 _ _ _ (by omega) (by rw [hf9, cntB_s0 (by simp [hv9])]) hW hS (lv_sub hl [0, 2, 3, 4, 5] rfl)
      | true =>
        refine kl_a 2 F hE hW (0, 1) hH.1.2.1 rfl rfl hH.2.2.1 i rfl (by omega) (by decide) (v := .ref (ad (1, i))) (by rw [pfA_t hv9]; rfl) dX2_dead_22 ?_
        obtain ⟨kf1, vf1, cf1, ta1, hPp1, hCp1, hTp1⟩ := hH.2.2.2.2.2.2.1 i hv9
        refine lv_astore (lv' := [(5, .ref (ad (1, i))), (4, .int (nI i)), (3, .int (nI 1024)), (2, .ref (ad (0, 1))), (1, .int (nI f0)), (0, .ref (ad (0, 0)))]) hx hb dX2_dead_23 hl (by decide) rfl (fun ls hl => ?_)
        refine lv_aload hx hb dX2_dead_25 (lv_at hl 0 rfl) ?_
        refine lv_ifnull hx hb dX2_dead_27 ?_
        refine lv_aload hx hb dX2_dead_30 (lv_at hl 0 rfl) ?_
        cases hg9 : go i with
        | none =>
          refine kg F hE hW (1, i) hPp1.1.1 rfl hPp1.2.1 rfl inA_X1 9 (by decide) kw_79 (v := .int (nI 0)) (by show some (Value.int (nI (dI go i))) = _; unfold dI; rw [hg9]; rfl) dX2_dead_32 ?_
          refine nz_eq (tgt := 41) hx hb dX2_dead_35 (by decide) (by decide) (fun c9 => ?_) (fun c9 => ?_)
          · refine lv_iinc (v := nI (i + 1)) (lv' := [(4, .int (nI (i + 1))), (5, .ref (ad (1, i))), (3, .int (nI 1024)), (2, .ref (ad (0, 1))), (1, .int (nI f0)), (0, .ref (ad (0, 0)))]) hx hb dX2_dead_41 hl (k := 1) rfl (ki1 _) (by decide) rfl (fun ls hl => ?_)
            refine lv_goto (tgt := 13) hx hb dX2_dead_44 (by decide) ?_
            exact ih (i + 1) f0 _ _ _ (by omega) (by rw [hf9, cntB_s0 (by simp [hg9])]) hW hS (lv_sub hl [0, 2, 3, 4, 5] rfl)
          · exact absurd c9 (by decide)
        | some e9 =>
          refine kg F hE hW (1, i) hPp1.1.1 rfl hPp1.2.1 rfl inA_X1 9 (by decide) kw_79 (v := .int (nI 1)) (by show some (Value.int (nI (dI go i))) = _; unfold dI; rw [hg9]; rfl) dX2_dead_32 ?_
          refine nz_eq (tgt := 41) hx hb dX2_dead_35 (by decide) (by decide) (fun c9 => ?_) (fun c9 => ?_)
          · exact absurd c9 (by decide)
          · refine lv_iinc (v := nI (f0 + 1)) (lv' := [(1, .int (nI (f0 + 1))), (5, .ref (ad (1, i))), (4, .int (nI i)), (3, .int (nI 1024)), (2, .ref (ad (0, 1))), (0, .ref (ad (0, 0)))]) hx hb dX2_dead_38 hl (k := 4) rfl (ki1 _) (by decide) rfl (fun ls hl => ?_)
            refine lv_iinc (v := nI (i + 1)) (lv' := [(4, .int (nI (i + 1))), (1, .int (nI (f0 + 1))), (5, .ref (ad (1, i))), (3, .int (nI 1024)), (2, .ref (ad (0, 1))), (0, .ref (ad (0, 0)))]) hx hb dX2_dead_41 hl (k := 2) rfl (ki1 _) (by decide) rfl (fun ls hl => ?_)
            refine lv_goto (tgt := 13) hx hb dX2_dead_44 (by decide) ?_
            exact ih (i + 1) (f0 + 1) _ _ _ (by omega) (by rw [hf9, cntB_s1 (by simp [hv9, hg9])]) hW hS (lv_sub hl [0, 3, 4, 1, 5] rfl)
set_option maxRecDepth 100000 in
set_option maxHeartbeats 4000000 in
theorem c_X2_waiting (l : Launch) (G : GG) (A : Nat → Prop) (ad : Lb → Nat) (dm : Lb → Prop) (ct : Lb → va_E) (lv : Nat → Bool) (lev : Nat → Nat) (lo : Nat → Nat) (hi : Nat → Nat) (ri : Nat → Option Nat) (sz : Nat → Nat) (ky : Nat → Nat) (vl : Nat → Nat) (go : Nat → Option Nat) (rt : Nat) (ep : Nat) (wq : Nat → Nat) (wn : Nat) (cn : Nat) (op : Nat → Bool) (cl : Nat → Nat) (ca : Nat → Nat) (ce : Nat → Nat) (kc : Nat) (nb : Nat) (hH : HKF G ad dm ct lv lev lo hi ri sz ky vl go rt ep wq wn cn op cl ca ce kc nb)  :
    CT l yX2_waiting cX2_waiting 1 (some FieldType.int) { frames := 1, cells := 0, slots := 0, locals := 20 } [.ref (ad (0, 0))] G A (ad, dm, ct) (fun v w' => (ad, dm, ct) = w' ∧ v = some (.int (nI wn))) (fun _ => False) (0) (0) := by
  refine ct_of (by decide) (Nat.le_of_ble_eq_true rfl) ?_
  intro p e s m below meth c ls F hr hlk hnm hex hE hW hl
  have hx := F.1
  have hb := F.2.1
  have hS : va_S A s.heap s.heap [] := va_S.rf
  have hl : lv_has ls 1 [(0, .ref (ad (0, 0)))] := hl
  obtain ⟨mcx, capx, fx, hL, hLf⟩ := hH.2.2.2.2.1
  obtain ⟨hL1, hL2, Ex, hL3⟩ := hL.obj
  refine lv_aload_n hx hb dX2_waiting_0 rfl (lv_at hl 0 rfl) ?_
  refine kg F hE hW (0, 0) hH.1.1 rfl hH.2.1 rfl inA_X2 1 (by decide) kw_106 (v := .ref (ad (0, 2))) rfl dX2_waiting_1 ?_
  refine kc_V 0 (c_Jx4a65c_size_8abf5 l G A ad dm ct mcx wn capx fx hL) F hE hW hS (0, 2) hL1 hL3 rfl [] rfl kw_404 kw_405 kw_406 kw_4 kw_407 (by decide +kernel) rfl ⟨rfl, rfl⟩ ⟨Nat.le_of_ble_eq_true rfl, Nat.le_of_ble_eq_true rfl⟩ hl.1 rfl (Nat.le_of_ble_eq_true rfl) dX2_waiting_4 ⟨Nat.le_of_ble_eq_true rfl, Nat.le_of_ble_eq_true rfl⟩ (fun _ _ _ _ _ h => h.elim) (fun v w' H locs hp hW hS => ?_)
  obtain ⟨rfl, rfl⟩ := hp
  exact kr_i F hr hlk hE hW hS (Nat.le_of_ble_eq_true rfl) (Nat.le_of_ble_eq_true rfl) dX2_waiting_7 (⟨rfl, rfl⟩)
