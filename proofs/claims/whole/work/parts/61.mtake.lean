/-! The reference: taking out. -/
section FND
variable {lv : Nat → Bool} {lev lo hi : Nat → Nat} {ri : Nat → Option Nat} {sz ky vl : Nat → Nat} {go : Nat → Option Nat} {rt ep : Nat} {wq : Nat → Nat} {wn cn : Nat} {op : Nat → Bool} {cl ca ce : Nat → Nat} {kc nb : Nat} {o k L pz jz : Nat} {y : Int32}
/-- what was found among the entries before k -/
def FD (lv : Nat → Bool) (lev sz ky vl : Nat → Nat) (k : Nat) (y : Int32) (L : Nat) : Prop :=
  (y = -1 ∧ L = 200 ∧ ∀ p j, j < 5 → 5 * p + j < k → ¬ Cand lv lev sz vl p j) ∨
  ∃ p0 j0, 5 * p0 + j0 < k ∧ Cand lv lev sz vl p0 j0 ∧ y = nI (5 * p0 + j0) ∧ L = ky (5 * p0 + j0) ∧ ∀ p j, j < 5 → 5 * p + j < k → Cand lv lev sz vl p j → ky (5 * p0 + j0) ≤ ky (5 * p + j)
theorem fd_0 : FD lv lev sz ky vl 0 (-1) 200 := Or.inl ⟨rfl, rfl, fun p j _ h => absurd h (Nat.not_lt_zero _)⟩
theorem fd_skip (h : FD lv lev sz ky vl k y L) (h2 : Cand lv lev sz vl (k / 5) (k % 5) → L ≤ ky k ∧ ky k < 200) : FD lv lev sz ky vl (k + 1) y L := by
  have cut : ∀ p j, j < 5 → 5 * p + j < k + 1 → 5 * p + j < k ∨ (p = k / 5 ∧ j = k % 5) := by intro p j h1 h2; omega
  have hk5 : 5 * (k / 5) + k % 5 = k := by omega
  rcases h with ⟨h3, h4, h5⟩ | ⟨p0, j0, h3, h4, h5, h6, h7⟩
  · refine Or.inl ⟨h3, h4, fun p j h8 h9 hc => ?_⟩
    rcases cut p j h8 h9 with q | ⟨rfl, rfl⟩
    · exact h5 p j h8 q hc
    · have := h2 hc; omega
  · refine Or.inr ⟨p0, j0, by omega, h4, h5, h6, fun p j h8 h9 hc => ?_⟩
    rcases cut p j h8 h9 with q | ⟨rfl, rfl⟩
    · exact h7 p j h8 q hc
    · have := h2 hc; rw [hk5]; omega
theorem fd_take (hL : ∀ p j, Cand lv lev sz vl p j → j < 5) (h : FD lv lev sz ky vl k y L) (h2 : Cand lv lev sz vl (k / 5) (k % 5)) (h3 : ky k < L) : FD lv lev sz ky vl (k + 1) (nI k) (ky k) := by
  have cut : ∀ p j, j < 5 → 5 * p + j < k + 1 → 5 * p + j < k ∨ (p = k / 5 ∧ j = k % 5) := by intro p j h1 h2; omega
  have hk5 : 5 * (k / 5) + k % 5 = k := by omega
  refine Or.inr ⟨k / 5, k % 5, by omega, h2, by rw [hk5], by rw [hk5], fun p j h8 h9 hc => ?_⟩
  rw [hk5]
  rcases cut p j h8 h9 with q | ⟨rfl, rfl⟩
  · rcases h with ⟨h4, h5, h6⟩ | ⟨p0, j0, h4, h5, h6, h7, h8'⟩
    · exact absurd hc (h6 p j h8 q)
    · have := h8' p j h8 q hc; omega
  · rw [hk5]; exact Nat.le_refl _
end FND
set_option maxRecDepth 100000 in
set_option maxHeartbeats 4000000 in
theorem c_X3_found (l : Launch) (G : GG) (A : Nat → Prop) (ad : Lb → Nat) (dm : Lb → Prop) (ct0 : Lb → va_E) (lv : Nat → Bool) (lev : Nat → Nat) (lo : Nat → Nat) (hi : Nat → Nat) (ri : Nat → Option Nat) (sz : Nat → Nat) (ky : Nat → Nat) (vl : Nat → Nat) (go : Nat → Option Nat) (rt : Nat) (ep : Nat) (wq : Nat → Nat) (wn : Nat) (cn : Nat) (op : Nat → Bool) (cl : Nat → Nat) (ca : Nat → Nat) (ce : Nat → Nat) (kc : Nat) (nb : Nat) (th fo : Nat) (hM : MDF G ad dm ct0 lv lev lo hi ri sz ky vl go rt ep wq wn cn op cl ca ce kc nb th fo) (t0 : Nat) (hI : InvF lv lev lo hi ri sz ky vl go rt ep wq wn cn op cl ca ce kc nb 800 t0) :
    CT l yX3_found cX3_found 6 (some FieldType.int) { frames := 0, cells := 0, slots := 0, locals := 0 } [.ref (ad (10, 0))] G A (ad, dm, ct0) (fun v w' => (ad, dm, ct0) = w' ∧ ∃ y L, FD lv lev sz ky vl 4000 y L ∧ v = some (.int y)) (fun _ => False) (0) (0) := by
  refine ct_of (by decide) (Nat.le_of_ble_eq_true rfl) ?_
  intro p e s m below meth c ls F hr hlk hnm hex hE hW hl
  have hx := F.1
  have hb := F.2.1
  have hS : va_S A s.heap s.heap [] := va_S.rf
  have hl : lv_has ls 6 [(0, .ref (ad (10, 0)))] := hl
  have hX : XM ct0 ct0 := XM.rf
  have hI0 := hI
  obtain ⟨hP, hQ, hCu, hkc, hsum, ht, hep, hkt⟩ := hI
  have hb9 : nb ≤ 513 := by omega
  have hwn9 : wn ≤ 513 := by omega
  obtain ⟨hfr1, hfr2, hfr3⟩ := fr_spec hP hb9
  have hcl5 : ∀ pc9 j, Cand lv lev sz vl pc9 j → j < 5 := fun pc9 j h => by have := pgi_s4 hP hb9 h.1; have := h.2.2.2.1; omega
  refine lv_iconst (v := (-1)) hx hb dX3_found_0 (by decide) ?_
  refine lv_istore_n (lv' := [(1, .int (-1)), (0, .ref (ad (10, 0)))]) hx hb dX3_found_1 rfl hl (by decide) rfl (fun ls hl => ?_)
  refine lv_sipush (v := nI 200) hx hb dX3_found_2 (by decide) ?_
  refine lv_istore_n (lv' := [(2, .int (nI 200)), (1, .int (-1)), (0, .ref (ad (10, 0)))]) hx hb dX3_found_5 rfl hl (by decide) rfl (fun ls hl => ?_)
  refine lv_iconst (v := nI 0) hx hb dX3_found_6 (by decide) ?_
  refine lv_istore_n (lv' := [(3, .int (nI 0)), (2, .int (nI 200)), (1, .int (-1)), (0, .ref (ad (10, 0)))]) hx hb dX3_found_7 rfl hl (by decide) rfl (fun ls hl => ?_)
  suffices key : ∀ (d : Nat) (k9 : Nat) (y : Int32) (L : Nat) (H : Heap) (locs : List Loc) (ls : Array Slot), k9 + d = 4000 → FD lv lev sz ky vl k9 y L → L ≤ 200 → wd G A (ad, dm, ct0) H → va_S A s.heap H locs → lv_has ls 6 [(3, .int (nI k9)), (2, .int (nI L)), (1, .int y), (0, .ref (ad (10, 0)))] → W _ l e _ s m _ below meth c H locs 0 0 _ (F0 m 8 ls []) from
    key 4000 0 (-1) 200 _ _ ls (Nat.zero_add _) fd_0 (Nat.le_refl _) hW hS (by have := hl; exact lv_sub this [0, 1, 2, 3] rfl)
  clear hW hS hl
  intro d
  induction d with
  | zero =>
    intro k9 y L H locs ls hk hF hL hW hS hl
    refine lv_iload_n hx hb dX3_found_8 rfl (lv_at hl 0 rfl) ?_
    refine lv_sipush (v := nI 4000) hx hb dX3_found_9 (by decide) ?_
    refine nc_ge (tgt := 121) hx hb dX3_found_12 (by decide) (by omega) (by omega) (fun c1 => ?_) (fun c1 => ?_)
    · have hk2 : k9 = 4000 := by omega
      rw [hk2] at hF
      refine lv_iload_n hx hb dX3_found_121 rfl (lv_at hl 2 rfl) ?_
      exact kr_i F hr hlk hE hW hS (Nat.le_of_ble_eq_true rfl) (Nat.le_of_ble_eq_true rfl) dX3_found_122 (⟨rfl, y, L, hF, rfl⟩)
    · exact absurd c1 (by omega)
  | succ d ih =>
    intro k9 y L H locs ls hk hF hL hW hS hl
    refine lv_iload_n hx hb dX3_found_8 rfl (lv_at hl 0 rfl) ?_
    refine lv_sipush (v := nI 4000) hx hb dX3_found_9 (by decide) ?_
    refine nc_ge (tgt := 121) hx hb dX3_found_12 (by decide) (by omega) (by omega) (fun c1 => ?_) (fun c1 => ?_)
    · exact absurd c1 (by omega)
    · refine lv_iload_n hx hb dX3_found_15 rfl (lv_at hl 0 rfl) ?_
      refine lv_iconst (v := nI 5) hx hb dX3_found_16 (by decide) ?_
      refine lv_idiv hx hb dX3_found_17 (by decide) ?_
      refine ktop (pk_div (by omega) (by decide) (by decide)) ?_
      refine lv_istore (lv' := [(4, .int (nI (k9 / 5))), (3, .int (nI k9)), (2, .int (nI L)), (1, .int y), (0, .ref (ad (10, 0)))]) hx hb dX3_found_18 hl (by decide) rfl (fun ls hl => ?_)
      refine lv_aload_n hx hb dX3_found_20 rfl (lv_at hl 4 rfl) ?_
      refine kg F hE hW (10, 0) (hM.1 0 (by decide)) rfl hM.2.1 rfl inA_X3 1 (by decide) kw_607 (v := .ref (ad (10, 1))) rfl dX3_found_21 ?_
      refine lv_iload hx hb dX3_found_24 (lv_at hl 0 rfl) ?_
      refine kl_z F hE hW (10, 1) (hM.1 1 (by decide)) rfl hM.2.2.1 (k9 / 5) rfl (by omega) (by decide) dX3_found_26 ?_
      cases hv : lv (k9 / 5) with
      | false =>
        refine nz_eq (tgt := 64) hx hb dX3_found_27 (by decide) (by decide) (fun c9 => ?_) (fun c9 => ?_)
        · refine lv_iconst (v := nI 0) hx hb dX3_found_64 (by decide) ?_
          refine lv_istore (lv' := [(5, .int (nI 0)), (4, .int (nI (k9 / 5))), (3, .int (nI k9)), (2, .int (nI L)), (1, .int y), (0, .ref (ad (10, 0)))]) hx hb dX3_found_65 hl (by decide) rfl (fun ls hl => ?_)
          refine lv_iload hx hb dX3_found_67 (lv_at hl 0 rfl) ?_
          refine nz_eq (tgt := 115) hx hb dX3_found_69 (by decide) (by decide) (fun c9 => ?_) (fun c9 => ?_)
          · refine lv_iinc (v := nI (k9 + 1)) (lv' := [(3, .int (nI (k9 + 1))), (5, .int (nI 0)), (4, .int (nI (k9 / 5))), (2, .int (nI L)), (1, .int y), (0, .ref (ad (10, 0)))]) hx hb dX3_found_115 hl (k := 2) rfl (ki1 _) (by decide) rfl (fun ls hl => ?_)
            refine lv_goto (tgt := 8) hx hb dX3_found_118 (by decide) ?_
            exact ih (k9 + 1) y L _ _ _ (by omega) (fd_skip hF (fun hc => absurd hc.1 (by rw [hv]; exact Bool.false_ne_true))) hL hW hS (lv_sub hl [0, 3, 4, 5] rfl)
          · exact absurd c9 (by decide)
        · exact absurd c9 (by decide)
      | true =>
        refine nz_eq (tgt := 64) hx hb dX3_found_27 (by decide) (by decide) (fun c9 => ?_) (fun c9 => ?_)
        · exact absurd c9 (by decide)
        · obtain ⟨u1, u2, u3, u4, u5, u6⟩ := pg_bd hP hb9 hv
          refine lv_aload_n hx hb dX3_found_30 rfl (lv_at hl 4 rfl) ?_
          refine kg F hE hW (10, 0) (hM.1 0 (by decide)) rfl hM.2.1 rfl inA_X3 2 (by decide) kw_608 (v := .ref (ad (10, 2))) rfl dX3_found_31 ?_
          refine lv_iload hx hb dX3_found_34 (lv_at hl 0 rfl) ?_
          refine kl_i F hE hW (10, 2) (hM.1 2 (by decide)) rfl hM.2.2.2.1 (k9 / 5) rfl (by omega) (by decide) dX3_found_36 ?_
          refine lv_iconst (v := nI 1) hx hb dX3_found_37 (by decide) ?_
          refine nc_ne (tgt := 64) hx hb dX3_found_38 (by decide) (by omega) (by omega) (fun c2 => ?_) (fun c2 => ?_)
          · refine lv_iconst (v := nI 0) hx hb dX3_found_64 (by decide) ?_
            refine lv_istore (lv' := [(5, .int (nI 0)), (4, .int (nI (k9 / 5))), (3, .int (nI k9)), (2, .int (nI L)), (1, .int y), (0, .ref (ad (10, 0)))]) hx hb dX3_found_65 hl (by decide) rfl (fun ls hl => ?_)
            refine lv_iload hx hb dX3_found_67 (lv_at hl 0 rfl) ?_
            refine nz_eq (tgt := 115) hx hb dX3_found_69 (by decide) (by decide) (fun c9 => ?_) (fun c9 => ?_)
            · refine lv_iinc (v := nI (k9 + 1)) (lv' := [(3, .int (nI (k9 + 1))), (5, .int (nI 0)), (4, .int (nI (k9 / 5))), (2, .int (nI L)), (1, .int y), (0, .ref (ad (10, 0)))]) hx hb dX3_found_115 hl (k := 2) rfl (ki1 _) (by decide) rfl (fun ls hl => ?_)
              refine lv_goto (tgt := 8) hx hb dX3_found_118 (by decide) ?_
              exact ih (k9 + 1) y L _ _ _ (by omega) (fd_skip hF (fun hc => absurd hc.2.1 c2)) hL hW hS (lv_sub hl [0, 3, 4, 5] rfl)
            · exact absurd c9 (by decide)
          · refine lv_iload_n hx hb dX3_found_41 rfl (lv_at hl 1 rfl) ?_
            refine lv_iconst (v := nI 5) hx hb dX3_found_42 (by decide) ?_
            refine lv_irem hx hb dX3_found_43 (by decide) ?_
            refine ktop (pk_rem (by omega) (by decide) (by decide)) ?_
            refine nz_le (tgt := 64) hx hb dX3_found_44 (by decide) (by omega) (fun c3 => ?_) (fun c3 => ?_)
            · refine lv_iconst (v := nI 0) hx hb dX3_found_64 (by decide) ?_
              refine lv_istore (lv' := [(5, .int (nI 0)), (4, .int (nI (k9 / 5))), (3, .int (nI k9)), (2, .int (nI L)), (1, .int y), (0, .ref (ad (10, 0)))]) hx hb dX3_found_65 hl (by decide) rfl (fun ls hl => ?_)
              refine lv_iload hx hb dX3_found_67 (lv_at hl 0 rfl) ?_
              refine nz_eq (tgt := 115) hx hb dX3_found_69 (by decide) (by decide) (fun c9 => ?_) (fun c9 => ?_)
              · refine lv_iinc (v := nI (k9 + 1)) (lv' := [(3, .int (nI (k9 + 1))), (5, .int (nI 0)), (4, .int (nI (k9 / 5))), (2, .int (nI L)), (1, .int y), (0, .ref (ad (10, 0)))]) hx hb dX3_found_115 hl (k := 2) rfl (ki1 _) (by decide) rfl (fun ls hl => ?_)
                refine lv_goto (tgt := 8) hx hb dX3_found_118 (by decide) ?_
                exact ih (k9 + 1) y L _ _ _ (by omega) (fd_skip hF (fun hc => absurd hc.2.2.1 (by omega))) hL hW hS (lv_sub hl [0, 3, 4, 5] rfl)
              · exact absurd c9 (by decide)
            · refine lv_iload_n hx hb dX3_found_47 rfl (lv_at hl 1 rfl) ?_
              refine lv_iconst (v := nI 5) hx hb dX3_found_48 (by decide) ?_
              refine lv_irem hx hb dX3_found_49 (by decide) ?_
              refine ktop (pk_rem (by omega) (by decide) (by decide)) ?_
              refine lv_aload_n hx hb dX3_found_50 rfl (lv_at hl 4 rfl) ?_
              refine kg F hE hW (10, 0) (hM.1 0 (by decide)) rfl hM.2.1 rfl inA_X3 6 (by decide) kw_612 (v := .ref (ad (10, 6))) rfl dX3_found_51 ?_
              refine lv_iload hx hb dX3_found_54 (lv_at hl 0 rfl) ?_
              refine kl_i F hE hW (10, 6) (hM.1 6 (by decide)) rfl hM.2.2.2.2.2.2.2.1 (k9 / 5) rfl (by omega) (by decide) dX3_found_56 ?_
              refine nc_ge (tgt := 64) hx hb dX3_found_57 (by decide) (by omega) (by omega) (fun c4 => ?_) (fun c4 => ?_)
              · refine lv_iconst (v := nI 0) hx hb dX3_found_64 (by decide) ?_
                refine lv_istore (lv' := [(5, .int (nI 0)), (4, .int (nI (k9 / 5))), (3, .int (nI k9)), (2, .int (nI L)), (1, .int y), (0, .ref (ad (10, 0)))]) hx hb dX3_found_65 hl (by decide) rfl (fun ls hl => ?_)
                refine lv_iload hx hb dX3_found_67 (lv_at hl 0 rfl) ?_
                refine nz_eq (tgt := 115) hx hb dX3_found_69 (by decide) (by decide) (fun c9 => ?_) (fun c9 => ?_)
                · refine lv_iinc (v := nI (k9 + 1)) (lv' := [(3, .int (nI (k9 + 1))), (5, .int (nI 0)), (4, .int (nI (k9 / 5))), (2, .int (nI L)), (1, .int y), (0, .ref (ad (10, 0)))]) hx hb dX3_found_115 hl (k := 2) rfl (ki1 _) (by decide) rfl (fun ls hl => ?_)
                  refine lv_goto (tgt := 8) hx hb dX3_found_118 (by decide) ?_
                  exact ih (k9 + 1) y L _ _ _ (by omega) (fd_skip hF (fun hc => absurd hc.2.2.2.1 (by omega))) hL hW hS (lv_sub hl [0, 3, 4, 5] rfl)
                · exact absurd c9 (by decide)
              · refine lv_iconst (v := nI 1) hx hb dX3_found_60 (by decide) ?_
                refine lv_goto (tgt := 65) hx hb dX3_found_61 (by decide) ?_
                refine lv_istore (lv' := [(5, .int (nI 1)), (4, .int (nI (k9 / 5))), (3, .int (nI k9)), (2, .int (nI L)), (1, .int y), (0, .ref (ad (10, 0)))]) hx hb dX3_found_65 hl (by decide) rfl (fun ls hl => ?_)
                refine lv_iload hx hb dX3_found_67 (lv_at hl 0 rfl) ?_
                refine nz_eq (tgt := 115) hx hb dX3_found_69 (by decide) (by decide) (fun c9 => ?_) (fun c9 => ?_)
                · exact absurd c9 (by decide)
                · have hk5 : 5 * (k9 / 5) + k9 % 5 = k9 := by omega
                  have hAl := al_lv hP hv (by omega)
                  obtain ⟨e1, e2, e3⟩ := (hP.2.2.2.2.2.1 _ hAl (by omega)).2.2 (k9 % 5) c4
                  have e4 := u6 (k9 % 5) c4
                  rw [hk5] at e1 e2 e3 e4
                  obtain ⟨w1, w2, w3, w4, w5, w6⟩ := pg_bd hP hb9 e1.1
                  refine lv_aload_n hx hb dX3_found_72 rfl (lv_at hl 5 rfl) ?_
                  refine kg F hE hW (10, 0) (hM.1 0 (by decide)) rfl hM.2.1 rfl inA_X3 6 (by decide) kw_612 (v := .ref (ad (10, 6))) rfl dX3_found_73 ?_
                  refine lv_aload_n hx hb dX3_found_76 rfl (lv_at hl 5 rfl) ?_
                  refine kg F hE hW (10, 0) (hM.1 0 (by decide)) rfl hM.2.1 rfl inA_X3 8 (by decide) kw_614 (v := .ref (ad (10, 8))) rfl dX3_found_77 ?_
                  refine lv_iload_n hx hb dX3_found_80 rfl (lv_at hl 2 rfl) ?_
                  refine kl_i F hE hW (10, 8) (hM.1 8 (by decide)) rfl hM.2.2.2.2.2.2.2.2.2.1 k9 rfl (by omega) (by decide) dX3_found_81 ?_
                  refine kl_i F hE hW (10, 6) (hM.1 6 (by decide)) rfl hM.2.2.2.2.2.2.2.1 (vl k9) rfl (by omega) (by decide) dX3_found_82 ?_
                  refine nz_ne (tgt := 115) hx hb dX3_found_83 (by decide) (by omega) (fun c5 => ?_) (fun c5 => ?_)
                  · refine lv_iinc (v := nI (k9 + 1)) (lv' := [(3, .int (nI (k9 + 1))), (5, .int (nI 1)), (4, .int (nI (k9 / 5))), (2, .int (nI L)), (1, .int y), (0, .ref (ad (10, 0)))]) hx hb dX3_found_115 hl (k := 2) rfl (ki1 _) (by decide) rfl (fun ls hl => ?_)
                    refine lv_goto (tgt := 8) hx hb dX3_found_118 (by decide) ?_
                    exact ih (k9 + 1) y L _ _ _ (by omega) (fd_skip hF (fun hc => absurd hc.2.2.2.2 (by rw [hk5]; exact c5))) hL hW hS (lv_sub hl [0, 3, 4, 5] rfl)
                  · have hCa : Cand lv lev sz vl (k9 / 5) (k9 % 5) := ⟨hv, c2, c3, c4, by rw [hk5]; exact c5⟩
                    refine lv_aload_n hx hb dX3_found_86 rfl (lv_at hl 5 rfl) ?_
                    refine kg F hE hW (10, 0) (hM.1 0 (by decide)) rfl hM.2.1 rfl inA_X3 3 (by decide) kw_609 (v := .ref (ad (10, 3))) rfl dX3_found_87 ?_
                    refine lv_aload_n hx hb dX3_found_90 rfl (lv_at hl 5 rfl) ?_
                    refine kg F hE hW (10, 0) (hM.1 0 (by decide)) rfl hM.2.1 rfl inA_X3 8 (by decide) kw_614 (v := .ref (ad (10, 8))) rfl dX3_found_91 ?_
                    refine lv_iload_n hx hb dX3_found_94 rfl (lv_at hl 2 rfl) ?_
                    refine kl_i F hE hW (10, 8) (hM.1 8 (by decide)) rfl hM.2.2.2.2.2.2.2.2.2.1 k9 rfl (by omega) (by decide) dX3_found_95 ?_
                    refine kl_i F hE hW (10, 3) (hM.1 3 (by decide)) rfl hM.2.2.2.2.1 (vl k9) rfl (by omega) (by decide) dX3_found_96 ?_
                    refine lv_iload_n hx hb dX3_found_97 rfl (lv_at hl 3 rfl) ?_
                    refine nc_ge (tgt := 115) hx hb dX3_found_98 (by decide) (by omega) (by omega) (fun c6 => ?_) (fun c6 => ?_)
                    · refine lv_iinc (v := nI (k9 + 1)) (lv' := [(3, .int (nI (k9 + 1))), (5, .int (nI 1)), (4, .int (nI (k9 / 5))), (2, .int (nI L)), (1, .int y), (0, .ref (ad (10, 0)))]) hx hb dX3_found_115 hl (k := 2) rfl (ki1 _) (by decide) rfl (fun ls hl => ?_)
                      refine lv_goto (tgt := 8) hx hb dX3_found_118 (by decide) ?_
                      exact ih (k9 + 1) y L _ _ _ (by omega) (fd_skip hF (fun _ => by omega)) hL hW hS (lv_sub hl [0, 3, 4, 5] rfl)
                    · refine lv_iload_n hx hb dX3_found_101 rfl (lv_at hl 2 rfl) ?_
                      refine lv_istore_n (lv' := [(1, .int (nI k9)), (5, .int (nI 1)), (4, .int (nI (k9 / 5))), (3, .int (nI k9)), (2, .int (nI L)), (0, .ref (ad (10, 0)))]) hx hb dX3_found_102 rfl hl (by decide) rfl (fun ls hl => ?_)
                      refine lv_aload_n hx hb dX3_found_103 rfl (lv_at hl 5 rfl) ?_
                      refine kg F hE hW (10, 0) (hM.1 0 (by decide)) rfl hM.2.1 rfl inA_X3 3 (by decide) kw_609 (v := .ref (ad (10, 3))) rfl dX3_found_104 ?_
                      refine lv_aload_n hx hb dX3_found_107 rfl (lv_at hl 5 rfl) ?_
                      refine kg F hE hW (10, 0) (hM.1 0 (by decide)) rfl hM.2.1 rfl inA_X3 8 (by decide) kw_614 (v := .ref (ad (10, 8))) rfl dX3_found_108 ?_
                      refine lv_iload_n hx hb dX3_found_111 rfl (lv_at hl 3 rfl) ?_
                      refine kl_i F hE hW (10, 8) (hM.1 8 (by decide)) rfl hM.2.2.2.2.2.2.2.2.2.1 k9 rfl (by omega) (by decide) dX3_found_112 ?_
                      refine kl_i F hE hW (10, 3) (hM.1 3 (by decide)) rfl hM.2.2.2.2.1 (vl k9) rfl (by omega) (by decide) dX3_found_113 ?_
                      refine lv_istore_n (lv' := [(2, .int (nI (lo (vl k9)))), (1, .int (nI k9)), (5, .int (nI 1)), (4, .int (nI (k9 / 5))), (3, .int (nI k9)), (0, .ref (ad (10, 0)))]) hx hb dX3_found_114 rfl hl (by decide) rfl (fun ls hl => ?_)
                      refine lv_iinc (v := nI (k9 + 1)) (lv' := [(3, .int (nI (k9 + 1))), (2, .int (nI (lo (vl k9)))), (1, .int (nI k9)), (5, .int (nI 1)), (4, .int (nI (k9 / 5))), (0, .ref (ad (10, 0)))]) hx hb dX3_found_115 hl (k := 4) rfl (ki1 _) (by decide) rfl (fun ls hl => ?_)
                      refine lv_goto (tgt := 8) hx hb dX3_found_118 (by decide) ?_
                      rw [e3] at hl
                      exact ih (k9 + 1) _ _ _ _ _ (by omega) (fd_take hcl5 hF hCa (by omega)) (by omega) hW hS (lv_sub hl [0, 1, 2, 5] rfl)
set_option maxRecDepth 100000 in
set_option maxHeartbeats 4000000 in
theorem c_X3_takeOut (l : Launch) (G : GG) (A : Nat → Prop) (ad : Lb → Nat) (dm : Lb → Prop) (ct0 : Lb → va_E) (lv : Nat → Bool) (lev : Nat → Nat) (lo : Nat → Nat) (hi : Nat → Nat) (ri : Nat → Option Nat) (sz : Nat → Nat) (ky : Nat → Nat) (vl : Nat → Nat) (go : Nat → Option Nat) (rt : Nat) (ep : Nat) (wq : Nat → Nat) (wn : Nat) (cn : Nat) (op : Nat → Bool) (cl : Nat → Nat) (ca : Nat → Nat) (ce : Nat → Nat) (kc : Nat) (nb : Nat) (th fo : Nat) (hM : MDF G ad dm ct0 lv lev lo hi ri sz ky vl go rt ep wq wn cn op cl ca ce kc nb th fo) (t0 : Nat) (hI : InvF lv lev lo hi ri sz ky vl go rt ep wq wn cn op cl ca ce kc nb 800 t0) :
    CT l yX3_takeOut cX3_takeOut 4 (some FieldType.int) { frames := 2, cells := 0, slots := 0, locals := 47 } [.ref (ad (10, 0))] G A (ad, dm, ct0) (fun v w' => ∃ ct' r', w' = (ad, dm, ct') ∧ TouR (lv, lev, lo, hi, ri, sz, ky, vl, go, rt, ep, wq, wn, cn, op, cl, ca, ce, kc, nb) r' ∧ MD G ad dm ct' r'.1 0 fo ∧ XM ct0 ct' ∧ v = some (.int (oI r'.2))) (fun _ => False) (0) (0) := by
  refine ct_of (by decide) (Nat.le_of_ble_eq_true rfl) ?_
  intro p e s m below meth c ls F hr hlk hnm hex hE hW hl
  have hx := F.1
  have hb := F.2.1
  have hS : va_S A s.heap s.heap [] := va_S.rf
  have hl : lv_has ls 4 [(0, .ref (ad (10, 0)))] := hl
  have hX : XM ct0 ct0 := XM.rf
  have hI0 := hI
  obtain ⟨hP, hQ, hCu, hkc, hsum, ht, hep, hkt⟩ := hI
  have hb9 : nb ≤ 513 := by omega
  have hwn9 : wn ≤ 513 := by omega
  obtain ⟨hfr1, hfr2, hfr3⟩ := fr_spec hP hb9
  have hcl5 : ∀ pc9 j, Cand lv lev sz vl pc9 j → j < 5 ∧ pc9 < 513 := fun pc9 j h => by have := pgi_s4 hP hb9 h.1; have := h.2.2.2.1; have := (hP.1 pc9 h.1).1; omega
  refine lv_aload_n hx hb dX3_takeOut_0 rfl (lv_at hl 0 rfl) ?_
  refine lv_iconst (v := nI 0) hx hb dX3_takeOut_1 (by decide) ?_
  refine mp_th (v := 0) F hE hW hS hM kw_606 dX3_takeOut_2 (fun ct H locs hW hM hX0 hS => ?_)
  have hX := hX.tr hX0
  refine lv_aload_n hx hb dX3_takeOut_5 rfl (lv_at hl 0 rfl) ?_
  refine kc_V 0 (c_X3_found l G A ad dm ct lv lev lo hi ri sz ky vl go rt ep wq wn cn op cl ca ce kc nb 0 fo hM t0 hI0) F hE hW hS (10, 0) (hM.1 0 (by decide)) hM.2.1 rfl [] rfl kw_754 kw_756 kp_26 kw_6 kw_757 (by decide +kernel) rfl ⟨rfl, rfl⟩ ⟨Nat.le_of_ble_eq_true rfl, Nat.le_of_ble_eq_true rfl⟩ hl.1 rfl (Nat.le_of_ble_eq_true rfl) dX3_takeOut_6 ⟨Nat.le_of_ble_eq_true rfl, Nat.le_of_ble_eq_true rfl⟩ (fun _ _ _ _ _ h => h.elim) (fun v w' H locs hp hW hS => ?_)
  obtain ⟨rfl, y, L, hF, rfl⟩ := hp
  refine lv_istore_n (lv' := [(1, .int y), (0, .ref (ad (10, 0)))]) hx hb dX3_takeOut_9 rfl hl (by decide) rfl (fun ls hl => ?_)
  refine lv_iload_n hx hb dX3_takeOut_10 rfl (lv_at hl 0 rfl) ?_
  refine lv_iconst (v := (-1)) hx hb dX3_takeOut_11 (by decide) ?_
  rcases hF with ⟨rfl, -, hF⟩ | ⟨pz, jz, hF1, hCa, rfl, -, hF⟩
  · refine lv_icmp_ne (tgt := 17) hx hb dX3_takeOut_12 (by decide) (fun c1 => ?_) (fun c1 => ?_)
    · exact absurd rfl c1
    · refine lv_iconst (v := (-1)) hx hb dX3_takeOut_15 (by decide) ?_
      exact kr_i F hr hlk hE hW hS (Nat.le_of_ble_eq_true rfl) (Nat.le_of_ble_eq_true rfl) dX3_takeOut_16 (⟨_, _, rfl, Or.inr ⟨fun p9 j9 h9 => hF p9 j9 (hcl5 p9 j9 h9).1 (by have := hcl5 p9 j9 h9; omega) h9, rfl⟩, hM, hX, rfl⟩)
  · refine lv_icmp_ne (tgt := 17) hx hb dX3_takeOut_12 (by decide) (fun c1 => ?_) (fun c1 => ?_)
    · have hjp := hcl5 pz jz hCa
      obtain ⟨hAp, hAx, hx0, hxl, hk0⟩ := cand_leaf hP hCa
      obtain ⟨qz, hq1, hq2, hq3, hq4⟩ := left_ex hP hb9 hAx (by omega)
      obtain ⟨u1, u2, u3, u4, u5, u6⟩ := pg_bd hP hb9 hAp.1
      obtain ⟨xz, hxz⟩ : ∃ z, vl (5 * pz + jz) = z := ⟨_, rfl⟩
      rw [hxz] at hAx hx0 hxl hq2 hq3 hq4
      obtain ⟨w1, w2, w3, w4, w5, w6⟩ := pg_bd hP hb9 hAx.1
      refine lv_aload_n hx hb dX3_takeOut_17 rfl (lv_at hl 1 rfl) ?_
      refine kg F hE hW (10, 0) (hM.1 0 (by decide)) rfl hM.2.1 rfl inA_X3 8 (by decide) kw_614 (v := .ref (ad (10, 8))) rfl dX3_takeOut_18 ?_
      refine lv_iload_n hx hb dX3_takeOut_21 rfl (lv_at hl 0 rfl) ?_
      refine kl_i F hE hW (10, 8) (hM.1 8 (by decide)) rfl hM.2.2.2.2.2.2.2.2.2.1 (5 * pz + jz) rfl (by omega) (by decide) dX3_takeOut_22 ?_
      rw [hxz]
      refine lv_istore_n (lv' := [(2, .int (nI xz)), (1, .int (nI (5 * pz + jz))), (0, .ref (ad (10, 0)))]) hx hb dX3_takeOut_23 rfl hl (by decide) rfl (fun ls hl => ?_)
      refine lv_aload_n hx hb dX3_takeOut_24 rfl (lv_at hl 2 rfl) ?_
      refine lv_iload_n hx hb dX3_takeOut_25 rfl (lv_at hl 1 rfl) ?_
      refine lv_iconst (v := nI 5) hx hb dX3_takeOut_26 (by decide) ?_
      refine lv_idiv hx hb dX3_takeOut_27 (by decide) ?_
      refine ktop (pk_div (by omega) (by decide) (by decide)) ?_
      rw [show (5 * pz + jz) / 5 = pz by omega]
      refine lv_iload_n hx hb dX3_takeOut_28 rfl (lv_at hl 1 rfl) ?_
      refine lv_iconst (v := nI 5) hx hb dX3_takeOut_29 (by decide) ?_
      refine lv_irem hx hb dX3_takeOut_30 (by decide) ?_
      refine ktop (pk_rem (by omega) (by decide) (by decide)) ?_
      rw [show (5 * pz + jz) % 5 = jz by omega]
      refine kc_V 2 (c_X3_removes l G A ad dm ct lv lev lo hi ri sz ky vl go rt ep wq wn cn op cl ca ce kc nb 0 fo hM pz jz (by omega) u5 hCa.2.2.2.1) F hE hW hS (10, 0) (hM.1 0 (by decide)) hM.2.1 rfl [.int (nI pz), .int (nI jz)] rfl kw_718 kw_720 kp_24 kw_6 kw_721 (by decide +kernel) rfl ⟨rfl, rfl⟩ ⟨Nat.le_of_ble_eq_true rfl, Nat.le_of_ble_eq_true rfl⟩ hl.1 rfl (Nat.le_of_ble_eq_true rfl) dX3_takeOut_31 ⟨Nat.le_of_ble_eq_true rfl, Nat.le_of_ble_eq_true rfl⟩ (fun _ _ _ _ _ h => h.elim) (fun v w' H locs hp hW hS => ?_)
      obtain ⟨ct2, rfl, hM, hX0, rfl⟩ := hp
      have hX := hX.tr hX0
      refine lv_iconst (v := nI 0) hx hb dX3_takeOut_34 (by decide) ?_
      refine lv_istore_n (lv' := [(3, .int (nI 0)), (2, .int (nI xz)), (1, .int (nI (5 * pz + jz))), (0, .ref (ad (10, 0)))]) hx hb dX3_takeOut_35 rfl hl (by decide) rfl (fun ls hl => ?_)
      have hqx : qz ≠ xz := by rintro rfl; omega
      have hq8 : qz < 513 := (pg_bd hP hb9 hq1.1).1
      suffices key : ∀ (d : Nat) (i : Nat) (hi1 : Nat → Nat) (ri1 : Nat → Option Nat) (ct1 : Lb → va_E) (H : Heap) (locs : List Loc) (ls : Array Slot), i + d = 800 → ((i ≤ qz ∧ hi1 = hi ∧ ri1 = ri) ∨ (qz < i ∧ hi1 = va_up hi qz (hi xz) ∧ ri1 = va_up ri qz (ri xz))) → MDF G ad dm ct1 lv lev lo hi1 ri1 (va_up sz pz (sz pz - 1)) (delA ky pz jz (sz pz)) (delA vl pz jz (sz pz)) go rt ep wq wn cn op cl ca ce kc nb 0 fo → XM ct0 ct1 → wd G A (ad, dm, ct1) H → va_S A s.heap H locs → lv_has ls 4 [(3, .int (nI i)), (0, .ref (ad (10, 0))), (1, .int (nI (5 * pz + jz))), (2, .int (nI xz))] → W _ l e _ s m _ below meth c H locs 0 0 _ (F0 m 36 ls []) from
        key 800 0 hi ri _ _ _ ls (Nat.zero_add _) (Or.inl ⟨Nat.zero_le _, rfl, rfl⟩) hM hX hW hS (lv_sub hl [0, 3, 2, 1] rfl)
      clear hM hX hW hS hl
      intro d
      induction d with
      | zero =>
        intro i hi1 ri1 ct H locs ls hi2 hst hM hX hW hS hl
        refine lv_iload_n hx hb dX3_takeOut_36 rfl (lv_at hl 0 rfl) ?_
        refine lv_sipush (v := nI 800) hx hb dX3_takeOut_37 (by decide) ?_
        refine nc_ge (tgt := 111) hx hb dX3_takeOut_40 (by decide) (by omega) (by omega) (fun c1 => ?_) (fun c1 => ?_)
        · rcases hst with ⟨h9, -, -⟩ | ⟨-, rfl, rfl⟩
          · omega
          refine lv_aload_n hx hb dX3_takeOut_111 rfl (lv_at hl 1 rfl) ?_
          refine kg F hE hW (10, 0) (hM.1 0 (by decide)) rfl hM.2.1 rfl inA_X3 9 (by decide) kw_615 (v := .ref (ad (10, 9))) rfl dX3_takeOut_112 ?_
          refine lv_iload_n hx hb dX3_takeOut_115 rfl (lv_at hl 3 rfl) ?_
          refine lv_aload_n hx hb dX3_takeOut_116 rfl (lv_at hl 1 rfl) ?_
          refine kg F hE hW (10, 0) (hM.1 0 (by decide)) rfl hM.2.1 rfl inA_X3 11 (by decide) kw_617 (v := .int (nI ep)) rfl dX3_takeOut_117 ?_
          refine ms_go (v := some ep) F hE hW hS hM xz rfl (by omega) dX3_takeOut_120 (fun ct H locs hW hM hX0 hS => ?_)
          have hX := hX.tr hX0
          refine lv_aload_n hx hb dX3_takeOut_121 rfl (lv_at hl 1 rfl) ?_
          refine lv_dup hx hb dX3_takeOut_122 rfl ?_
          refine kg F hE hW (10, 0) (hM.1 0 (by decide)) rfl hM.2.1 rfl inA_X3 11 (by decide) kw_617 (v := .int (nI ep)) rfl dX3_takeOut_123 ?_
          refine lv_iconst (v := nI 1) hx hb dX3_takeOut_126 (by decide) ?_
          refine lv_iadd hx hb dX3_takeOut_127 ?_
          refine ktop (nI_add _ _) ?_
          refine mp_ep (v := ep + 1) F hE hW hS hM kw_617 dX3_takeOut_128 (fun ct H locs hW hM hX0 hS => ?_)
          have hX := hX.tr hX0
          refine lv_iload_n hx hb dX3_takeOut_131 rfl (lv_at hl 3 rfl) ?_
          have hMD : MD G ad dm ct (touS (lv, lev, lo, hi, ri, sz, ky, vl, go, rt, ep, wq, wn, cn, op, cl, ca, ce, kc, nb) pz jz qz) 0 fo := by unfold touS MD; dsimp only; rw [hxz]; exact hM
          exact kr_i F hr hlk hE hW hS (Nat.le_of_ble_eq_true rfl) (Nat.le_of_ble_eq_true rfl) dX3_takeOut_132 (⟨_, (touS (lv, lev, lo, hi, ri, sz, ky, vl, go, rt, ep, wq, wn, cn, op, cl, ca, ce, kc, nb) pz jz qz, some (vl (5 * pz + jz))), rfl, Or.inl ⟨pz, jz, qz, hCa, fun p9 j9 h9 => hF p9 j9 (hcl5 p9 j9 h9).1 (by have := hcl5 p9 j9 h9; omega) h9, hq1, by rw [hxz]; exact hq2, rfl⟩, hMD, hX, by dsimp only; rw [hxz]; rfl⟩)
        · exact absurd c1 (by omega)
      | succ d ih =>
        intro i hi1 ri1 ct H locs ls hi2 hst hM hX hW hS hl
        refine lv_iload_n hx hb dX3_takeOut_36 rfl (lv_at hl 0 rfl) ?_
        refine lv_sipush (v := nI 800) hx hb dX3_takeOut_37 (by decide) ?_
        refine nc_ge (tgt := 111) hx hb dX3_takeOut_40 (by decide) (by omega) (by omega) (fun c1 => ?_) (fun c1 => ?_)
        · exact absurd c1 (by omega)
        · refine lv_aload_n hx hb dX3_takeOut_43 rfl (lv_at hl 1 rfl) ?_
          refine kg F hE hW (10, 0) (hM.1 0 (by decide)) rfl hM.2.1 rfl inA_X3 1 (by decide) kw_607 (v := .ref (ad (10, 1))) rfl dX3_takeOut_44 ?_
          refine lv_iload_n hx hb dX3_takeOut_47 rfl (lv_at hl 0 rfl) ?_
          refine kl_z F hE hW (10, 1) (hM.1 1 (by decide)) rfl hM.2.2.1 i rfl (by omega) (by decide) dX3_takeOut_48 ?_
          cases hv : lv i with
          | false =>
            refine nz_eq (tgt := 105) hx hb dX3_takeOut_49 (by decide) (by decide) (fun c9 => ?_) (fun c9 => ?_)
            · refine lv_iinc (v := nI (i + 1)) (lv' := [(3, .int (nI (i + 1))), (0, .ref (ad (10, 0))), (1, .int (nI (5 * pz + jz))), (2, .int (nI xz))]) hx hb dX3_takeOut_105 hl (k := 0) rfl (ki1 _) (by decide) rfl (fun ls hl => ?_)
              refine lv_goto (tgt := 36) hx hb dX3_takeOut_108 (by decide) ?_
              exact ih (i + 1) hi1 ri1 _ _ _ _ (by omega) (by
                  have hne : i ≠ qz := by rintro rfl; rw [hq1.1] at hv; cases hv
                  rcases hst with ⟨h1, h2⟩ | ⟨h1, h2⟩
                  · exact Or.inl ⟨by omega, h2⟩
                  · exact Or.inr ⟨by omega, h2⟩) hM hX hW hS (lv_sub hl [0, 1, 2, 3] rfl)
            · exact absurd c9 (by decide)
          | true =>
            refine nz_eq (tgt := 105) hx hb dX3_takeOut_49 (by decide) (by decide) (fun c9 => ?_) (fun c9 => ?_)
            · exact absurd c9 (by decide)
            · obtain ⟨v1, v2, v3, v4, v5, v6⟩ := pg_bd hP hb9 hv
              refine lv_aload_n hx hb dX3_takeOut_52 rfl (lv_at hl 1 rfl) ?_
              refine kg F hE hW (10, 0) (hM.1 0 (by decide)) rfl hM.2.1 rfl inA_X3 2 (by decide) kw_608 (v := .ref (ad (10, 2))) rfl dX3_takeOut_53 ?_
              refine lv_iload_n hx hb dX3_takeOut_56 rfl (lv_at hl 0 rfl) ?_
              refine kl_i F hE hW (10, 2) (hM.1 2 (by decide)) rfl hM.2.2.2.1 i rfl (by omega) (by decide) dX3_takeOut_57 ?_
              refine nz_ne (tgt := 105) hx hb dX3_takeOut_58 (by decide) (by omega) (fun c2 => ?_) (fun c2 => ?_)
              · refine lv_iinc (v := nI (i + 1)) (lv' := [(3, .int (nI (i + 1))), (0, .ref (ad (10, 0))), (1, .int (nI (5 * pz + jz))), (2, .int (nI xz))]) hx hb dX3_takeOut_105 hl (k := 0) rfl (ki1 _) (by decide) rfl (fun ls hl => ?_)
                refine lv_goto (tgt := 36) hx hb dX3_takeOut_108 (by decide) ?_
                exact ih (i + 1) hi1 ri1 _ _ _ _ (by omega) (by
                    have hne : i ≠ qz := by rintro rfl; omega
                    rcases hst with ⟨h1, h2⟩ | ⟨h1, h2⟩
                    · exact Or.inl ⟨by omega, h2⟩
                    · exact Or.inr ⟨by omega, h2⟩) hM hX hW hS (lv_sub hl [0, 1, 2, 3] rfl)
              · refine lv_aload_n hx hb dX3_takeOut_61 rfl (lv_at hl 1 rfl) ?_
                refine kg F hE hW (10, 0) (hM.1 0 (by decide)) rfl hM.2.1 rfl inA_X3 9 (by decide) kw_615 (v := .ref (ad (10, 9))) rfl dX3_takeOut_62 ?_
                refine lv_iload_n hx hb dX3_takeOut_65 rfl (lv_at hl 0 rfl) ?_
                refine kl_i F hE hW (10, 9) (hM.1 9 (by decide)) rfl hM.2.2.2.2.2.2.2.2.2.2.1 i rfl (by omega) (by decide) dX3_takeOut_66 ?_
                refine lv_iconst (v := (-1)) hx hb dX3_takeOut_67 (by decide) ?_
                cases hg : go i with
                | none =>
                  refine lv_icmp_ne (tgt := 105) hx hb dX3_takeOut_68 (by decide) (fun c3 => ?_) (fun c3 => ?_)
                  · exact absurd rfl c3
                  · rcases hst with ⟨h1, g1, g2⟩ | ⟨h1, g1, g2⟩
                    · rw [g1, g2] at hM
                      refine lv_aload_n hx hb dX3_takeOut_71 rfl (lv_at hl 1 rfl) ?_
                      refine kg F hE hW (10, 0) (hM.1 0 (by decide)) rfl hM.2.1 rfl inA_X3 5 (by decide) kw_611 (v := .ref (ad (10, 5))) rfl dX3_takeOut_72 ?_
                      refine lv_iload_n hx hb dX3_takeOut_75 rfl (lv_at hl 0 rfl) ?_
                      refine kl_i F hE hW (10, 5) (hM.1 5 (by decide)) rfl hM.2.2.2.2.2.2.1 i rfl (by omega) (by decide) dX3_takeOut_76 ?_
                      refine lv_iload_n hx hb dX3_takeOut_77 rfl (lv_at hl 3 rfl) ?_
                      by_cases eq : i = qz
                      · rw [eq, hq2]
                        refine nc_ne (tgt := 105) hx hb dX3_takeOut_78 (by decide) (by omega) (by omega) (fun c4 => ?_) (fun c4 => ?_)
                        · exact absurd rfl c4
                        · rw [← eq] at hq2 hq3 hq4 hqx
                          refine lv_aload_n hx hb dX3_takeOut_81 rfl (lv_at hl 1 rfl) ?_
                          refine kg F hE hW (10, 0) (hM.1 0 (by decide)) rfl hM.2.1 rfl inA_X3 4 (by decide) kw_610 (v := .ref (ad (10, 4))) rfl dX3_takeOut_82 ?_
                          refine lv_iload_n hx hb dX3_takeOut_85 rfl (lv_at hl 0 rfl) ?_
                          refine lv_aload_n hx hb dX3_takeOut_86 rfl (lv_at hl 1 rfl) ?_
                          refine kg F hE hW (10, 0) (hM.1 0 (by decide)) rfl hM.2.1 rfl inA_X3 4 (by decide) kw_610 (v := .ref (ad (10, 4))) rfl dX3_takeOut_87 ?_
                          refine lv_iload_n hx hb dX3_takeOut_90 rfl (lv_at hl 3 rfl) ?_
                          refine kl_i F hE hW (10, 4) (hM.1 4 (by decide)) rfl hM.2.2.2.2.2.1 xz rfl (by omega) (by decide) dX3_takeOut_91 ?_
                          refine ms_hi (v := hi xz) F hE hW hS hM i rfl (by omega) dX3_takeOut_92 (fun ct H locs hW hM hX0 hS => ?_)
                          have hX := hX.tr hX0
                          refine lv_aload_n hx hb dX3_takeOut_93 rfl (lv_at hl 1 rfl) ?_
                          refine kg F hE hW (10, 0) (hM.1 0 (by decide)) rfl hM.2.1 rfl inA_X3 5 (by decide) kw_611 (v := .ref (ad (10, 5))) rfl dX3_takeOut_94 ?_
                          refine lv_iload_n hx hb dX3_takeOut_97 rfl (lv_at hl 0 rfl) ?_
                          refine lv_aload_n hx hb dX3_takeOut_98 rfl (lv_at hl 1 rfl) ?_
                          refine kg F hE hW (10, 0) (hM.1 0 (by decide)) rfl hM.2.1 rfl inA_X3 5 (by decide) kw_611 (v := .ref (ad (10, 5))) rfl dX3_takeOut_99 ?_
                          refine lv_iload_n hx hb dX3_takeOut_102 rfl (lv_at hl 3 rfl) ?_
                          refine kl_i F hE hW (10, 5) (hM.1 5 (by decide)) rfl hM.2.2.2.2.2.2.1 xz rfl (by omega) (by decide) dX3_takeOut_103 ?_
                          refine ms_ri (v := ri xz) F hE hW hS hM i rfl (by omega) dX3_takeOut_104 (fun ct H locs hW hM hX0 hS => ?_)
                          have hX := hX.tr hX0
                          refine lv_iinc (v := nI (i + 1)) (lv' := [(3, .int (nI (i + 1))), (0, .ref (ad (10, 0))), (1, .int (nI (5 * pz + jz))), (2, .int (nI xz))]) hx hb dX3_takeOut_105 hl (k := 0) rfl (ki1 _) (by decide) rfl (fun ls hl => ?_)
                          refine lv_goto (tgt := 36) hx hb dX3_takeOut_108 (by decide) ?_
                          exact ih (i + 1) _ _ _ _ _ _ (by omega) (Or.inr ⟨by omega, rfl, rfl⟩) (by rw [← eq]; exact hM) hX hW hS (lv_sub hl [0, 1, 2, 3] rfl)
                      · cases hr : ri i with
                        | none =>
                          refine lv_icmp_ne (tgt := 105) hx hb dX3_takeOut_78 (by decide) (fun c4 => ?_) (fun c4 => ?_)
                          · refine lv_iinc (v := nI (i + 1)) (lv' := [(3, .int (nI (i + 1))), (0, .ref (ad (10, 0))), (1, .int (nI (5 * pz + jz))), (2, .int (nI xz))]) hx hb dX3_takeOut_105 hl (k := 0) rfl (ki1 _) (by decide) rfl (fun ls hl => ?_)
                            refine lv_goto (tgt := 36) hx hb dX3_takeOut_108 (by decide) ?_
                            exact ih (i + 1) _ _ _ _ _ _ (by omega) (Or.inl ⟨by omega, rfl, rfl⟩) hM hX hW hS (lv_sub hl [0, 1, 2, 3] rfl)
                          · exact absurd c4.symm (nI_neg (show xz < 2 ^ 31 by omega))
                        | some rz =>
                          have hrz := (pg_bd hP hb9 (hP.2.2.2.1 i rz hv hr).1).1
                          refine lv_icmp_ne (tgt := 105) hx hb dX3_takeOut_78 (by decide) (fun c4 => ?_) (fun c4 => ?_)
                          · refine lv_iinc (v := nI (i + 1)) (lv' := [(3, .int (nI (i + 1))), (0, .ref (ad (10, 0))), (1, .int (nI (5 * pz + jz))), (2, .int (nI xz))]) hx hb dX3_takeOut_105 hl (k := 0) rfl (ki1 _) (by decide) rfl (fun ls hl => ?_)
                            refine lv_goto (tgt := 36) hx hb dX3_takeOut_108 (by decide) ?_
                            exact ih (i + 1) _ _ _ _ _ _ (by omega) (Or.inl ⟨by omega, rfl, rfl⟩) hM hX hW hS (lv_sub hl [0, 1, 2, 3] rfl)
                          · exact absurd (left_one hP ⟨hv, hg⟩ hq1 (hr.trans (congrArg some (nI_inj (show rz < 2 ^ 31 by omega) (by omega) c4))) hq2) eq
                    · rw [g1, g2] at hM
                      have eq : ¬ i = qz := by omega
                      refine lv_aload_n hx hb dX3_takeOut_71 rfl (lv_at hl 1 rfl) ?_
                      refine kg F hE hW (10, 0) (hM.1 0 (by decide)) rfl hM.2.1 rfl inA_X3 5 (by decide) kw_611 (v := .ref (ad (10, 5))) rfl dX3_takeOut_72 ?_
                      refine lv_iload_n hx hb dX3_takeOut_75 rfl (lv_at hl 0 rfl) ?_
                      refine kl_i F hE hW (10, 5) (hM.1 5 (by decide)) rfl hM.2.2.2.2.2.2.1 i rfl (by omega) (by decide) dX3_takeOut_76 ?_
                      refine lv_iload_n hx hb dX3_takeOut_77 rfl (lv_at hl 3 rfl) ?_
                      rw [va_up_ne _ _ eq]
                      cases hr : ri i with
                      | none =>
                        refine lv_icmp_ne (tgt := 105) hx hb dX3_takeOut_78 (by decide) (fun c4 => ?_) (fun c4 => ?_)
                        · refine lv_iinc (v := nI (i + 1)) (lv' := [(3, .int (nI (i + 1))), (0, .ref (ad (10, 0))), (1, .int (nI (5 * pz + jz))), (2, .int (nI xz))]) hx hb dX3_takeOut_105 hl (k := 0) rfl (ki1 _) (by decide) rfl (fun ls hl => ?_)
                          refine lv_goto (tgt := 36) hx hb dX3_takeOut_108 (by decide) ?_
                          exact ih (i + 1) _ _ _ _ _ _ (by omega) (Or.inr ⟨by omega, rfl, rfl⟩) hM hX hW hS (lv_sub hl [0, 1, 2, 3] rfl)
                        · exact absurd c4.symm (nI_neg (show xz < 2 ^ 31 by omega))
                      | some rz =>
                        have hrz := (pg_bd hP hb9 (hP.2.2.2.1 i rz hv hr).1).1
                        refine lv_icmp_ne (tgt := 105) hx hb dX3_takeOut_78 (by decide) (fun c4 => ?_) (fun c4 => ?_)
                        · refine lv_iinc (v := nI (i + 1)) (lv' := [(3, .int (nI (i + 1))), (0, .ref (ad (10, 0))), (1, .int (nI (5 * pz + jz))), (2, .int (nI xz))]) hx hb dX3_takeOut_105 hl (k := 0) rfl (ki1 _) (by decide) rfl (fun ls hl => ?_)
                          refine lv_goto (tgt := 36) hx hb dX3_takeOut_108 (by decide) ?_
                          exact ih (i + 1) _ _ _ _ _ _ (by omega) (Or.inr ⟨by omega, rfl, rfl⟩) hM hX hW hS (lv_sub hl [0, 1, 2, 3] rfl)
                        · exact absurd (left_one hP ⟨hv, hg⟩ hq1 (hr.trans (congrArg some (nI_inj (show rz < 2 ^ 31 by omega) (by omega) c4))) hq2) eq
                | some ez =>
                  have hez : ez < 2 ^ 31 := by have := (hP.2.2.2.2.2.2.1 i ez hv hg).2.2; omega
                  refine lv_icmp_ne (tgt := 105) hx hb dX3_takeOut_68 (by decide) (fun c3 => ?_) (fun c3 => ?_)
                  · refine lv_iinc (v := nI (i + 1)) (lv' := [(3, .int (nI (i + 1))), (0, .ref (ad (10, 0))), (1, .int (nI (5 * pz + jz))), (2, .int (nI xz))]) hx hb dX3_takeOut_105 hl (k := 0) rfl (ki1 _) (by decide) rfl (fun ls hl => ?_)
                    refine lv_goto (tgt := 36) hx hb dX3_takeOut_108 (by decide) ?_
                    exact ih (i + 1) hi1 ri1 _ _ _ _ (by omega) (by
                        have hne : i ≠ qz := by rintro rfl; rw [hq1.2] at hg; cases hg
                        rcases hst with ⟨h1, h2⟩ | ⟨h1, h2⟩
                        · exact Or.inl ⟨by omega, h2⟩
                        · exact Or.inr ⟨by omega, h2⟩) hM hX hW hS (lv_sub hl [0, 1, 2, 3] rfl)
                  · exact absurd c3 (nI_neg hez)
    · exact absurd c1 (nI_neg (by omega))
