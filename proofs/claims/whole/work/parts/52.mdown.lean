/-! The reference: going down, adding, splitting. -/
theorem lI_p {c : Nat} (h : 0 < c) : lI c = nI (c - 1) := by
  obtain ⟨k, rfl⟩ : ∃ k, c = k + 1 := ⟨c - 1, by omega⟩
  rw [lI_s]; rfl
theorem pg_bd {lv : Nat → Bool} {lev lo hi : Nat → Nat} {ri : Nat → Option Nat} {sz ky vl : Nat → Nat} {go : Nat → Option Nat} {rt ep nb : Nat} {o n : Nat} (hP : PgI lv lev lo hi ri sz ky vl go rt ep nb o) (hb : nb ≤ 513) (hn : lv n = true) : n < 513 ∧ lev n < 513 ∧ hi n ≤ 200 ∧ lo n < hi n ∧ sz n ≤ 5 ∧ ∀ k, k < sz n → ky (5 * n + k) < 200 ∧ vl (5 * n + k) < 10000 := by
  obtain ⟨p1, p2, p3, p4, p5, p6, p7, p8, p9, p10⟩ := hP
  obtain ⟨a1, a2, a3, a4, a5⟩ := p1 n hn
  refine ⟨by omega, by omega, a4, a3, by split at a5 <;> omega, fun k hk => ?_⟩
  obtain ⟨b1, b2, b3, b4⟩ := p2 n hn k hk
  exact ⟨by omega, b3⟩
def shA (f : Nat → Nat) (pg k n : Nat) : Nat → Nat := fun i => if 5 * pg + k < i ∧ i ≤ 5 * pg + n then f (i - 1) else f i
theorem shA_0 (f : Nat → Nat) (pg n : Nat) : shA f pg n n = f := by
  funext i; unfold shA; rw [if_neg (by omega)]
theorem shA_at (f : Nat → Nat) (pg k n : Nat) : shA f pg (k + 1) n (5 * pg + (k + 1) - 1) = f (5 * pg + k) := by
  unfold shA; rw [if_neg (by omega)]; rfl
theorem shA_step (f : Nat → Nat) (pg k n : Nat) (h : k + 1 ≤ n) : va_up (shA f pg (k + 1) n) (5 * pg + (k + 1)) (f (5 * pg + k)) = shA f pg k n := by
  funext i
  by_cases e : i = 5 * pg + (k + 1)
  · subst e
    rw [va_up_self]; unfold shA; rw [if_pos (by omega)]; rfl
  · rw [va_up_ne _ _ e]; unfold shA
    by_cases q : 5 * pg + (k + 1) < i ∧ i ≤ 5 * pg + n
    · rw [if_pos q, if_pos (by omega)]
    · rw [if_neg q, if_neg (by omega)]
theorem shA_end (f : Nat → Nat) (pg q n x : Nat) : va_up (shA f pg q n) (5 * pg + q) x = insA f pg q n x := by
  funext i
  by_cases e : i = 5 * pg + q
  · subst e; rw [va_up_self]; unfold insA; rw [if_pos rfl]
  · rw [va_up_ne _ _ e]; unfold shA insA; rw [if_neg e]
set_option maxRecDepth 100000 in
set_option maxHeartbeats 4000000 in
theorem c_X3_down (l : Launch) (G : GG) (A : Nat → Prop) (ad : Lb → Nat) (dm : Lb → Prop) (ct0 : Lb → va_E) (lv : Nat → Bool) (lev : Nat → Nat) (lo : Nat → Nat) (hi : Nat → Nat) (ri : Nat → Option Nat) (sz : Nat → Nat) (ky : Nat → Nat) (vl : Nat → Nat) (go : Nat → Option Nat) (rt : Nat) (ep : Nat) (wq : Nat → Nat) (wn : Nat) (cn : Nat) (op : Nat → Bool) (cl : Nat → Nat) (ca : Nat → Nat) (ce : Nat → Nat) (kc : Nat) (nb : Nat) (th fo : Nat) (hM : MDF G ad dm ct0 lv lev lo hi ri sz ky vl go rt ep wq wn cn op cl ca ce kc nb th fo) (oo key lvl : Nat) (hP : PgI lv lev lo hi ri sz ky vl go rt ep nb oo) (hb9 : nb ≤ 513) (hk : key < 200) (hlv : lvl ≤ lev rt) :
    CT l yX3_down cX3_down 5 (some FieldType.int) { frames := 1, cells := 0, slots := 0, locals := 24 } [.ref (ad (10, 0)), .int (nI key), .int (nI lvl)] G A (ad, dm, ct0) (fun v w' => ∃ ct', w' = (ad, dm, ct') ∧ MDF G ad dm ct' lv lev lo hi ri sz ky vl go rt ep wq wn cn op cl ca ce kc nb th ((dnF lev hi ri sz ky vl key lvl 2000 rt).2) ∧ XM ct0 ct' ∧ v = some (.int (nI (dnF lev hi ri sz ky vl key lvl 2000 rt).1))) (fun _ => False) (0) (0) := by
  refine ct_of (by decide) (Nat.le_of_ble_eq_true rfl) ?_
  intro p e s m below meth c ls F hr hlk hnm hex hE hW hl
  have hx := F.1
  have hb := F.2.1
  have hS : va_S A s.heap s.heap [] := va_S.rf
  have hl : lv_has ls 5 [(0, .ref (ad (10, 0))), (1, .int (nI key)), (2, .int (nI lvl))] := hl
  have hX : XM ct0 ct0 := XM.rf
  refine lv_aload_n hx hb dX3_down_0 rfl (lv_at hl 0 rfl) ?_
  refine kg F hE hW (10, 0) (hM.1 0 (by decide)) rfl hM.2.1 rfl inA_X3 10 (by decide) kw_616 (v := .int (nI rt)) rfl dX3_down_1 ?_
  refine lv_istore_n (lv' := [(3, .int (nI rt)), (0, .ref (ad (10, 0))), (1, .int (nI key)), (2, .int (nI lvl))]) hx hb dX3_down_4 rfl hl (by decide) rfl (fun ls hl => ?_)
  refine lv_aload_n hx hb dX3_down_5 rfl (lv_at hl 1 rfl) ?_
  refine lv_iconst (v := nI 0) hx hb dX3_down_6 (by decide) ?_
  refine mp_fo (v := 0) F hE hW hS hM kw_625 dX3_down_7 (fun ct H locs hW hM hX0 hS => ?_)
  have hX := hX.tr hX0
  have hv0 := vp_root (key := key) hP hlv
  have hm0 := mu_root hP hb9
  generalize hRR : dnF lev hi ri sz ky vl key lvl 2000 rt = RR
  suffices key : ∀ (d pg f0 : Nat) (ct1 : Lb → va_E) (H : Heap) (locs : List Loc) (ls : Array Slot), VP lv lev lo go key lvl pg → mu lev lo pg < d → (dnF lev hi ri sz ky vl key lvl d pg).1 = RR.1 → f0 + (dnF lev hi ri sz ky vl key lvl d pg).2 = RR.2 → MDF G ad dm ct1 lv lev lo hi ri sz ky vl go rt ep wq wn cn op cl ca ce kc nb th f0 → XM ct0 ct1 → wd G A (ad, dm, ct1) H → va_S A s.heap H locs → lv_has ls 5 [(3, .int (nI pg)), (0, .ref (ad (10, 0))), (1, .int (nI key)), (2, .int (nI lvl))] → W _ l e _ s m _ below meth c H locs 0 0 _ (F0 m 10 ls []) from
    key 2000 rt 0 _ _ _ ls hv0 (by omega) (by rw [hRR]) (by rw [hRR]; exact Nat.zero_add _) hM hX hW hS hl
  clear hM hX hW hS hl
  intro d
  induction d with
  | zero => intro pg f0 ct1 H locs ls hv hm; omega
  | succ d ih =>
    intro pg f0 ct H locs ls hv hm hr1 hr2 hM hX hW hS hl
    obtain ⟨g1, g2, g3, g4, g5, g6⟩ := pg_bd hP hb9 hv.1.1
    have hlv9 : lvl < 513 := by have := hv.2.2; omega
    unfold dnF at hr1 hr2
    rcases nxt_vp hP hk hv with ⟨hn, h2, h3⟩ | ⟨rz, hn, hrz, hmz, hcase⟩
    · rw [hn] at hr1 hr2
      dsimp only at hr1 hr2
      refine lv_aload_n hx hb dX3_down_10 rfl (lv_at hl 1 rfl) ?_
      refine kg F hE hW (10, 0) (hM.1 0 (by decide)) rfl hM.2.1 rfl inA_X3 2 (by decide) kw_608 (v := .ref (ad (10, 2))) rfl dX3_down_11 ?_
      refine lv_iload_n hx hb dX3_down_14 rfl (lv_at hl 0 rfl) ?_
      refine kl_i F hE hW (10, 2) (hM.1 2 (by decide)) rfl hM.2.2.2.1 pg rfl (by omega) (by decide) dX3_down_15 ?_
      refine lv_iload_n hx hb dX3_down_16 rfl (lv_at hl 3 rfl) ?_
      refine nc_gt (tgt := 30) hx hb dX3_down_17 (by decide) (by omega) (by omega) (fun c1 => ?_) (fun c1 => ?_)
      · exact absurd c1 (by omega)
      · refine lv_iload_n hx hb dX3_down_20 rfl (lv_at hl 2 rfl) ?_
        refine lv_aload_n hx hb dX3_down_21 rfl (lv_at hl 1 rfl) ?_
        refine kg F hE hW (10, 0) (hM.1 0 (by decide)) rfl hM.2.1 rfl inA_X3 4 (by decide) kw_610 (v := .ref (ad (10, 4))) rfl dX3_down_22 ?_
        refine lv_iload_n hx hb dX3_down_25 rfl (lv_at hl 0 rfl) ?_
        refine kl_i F hE hW (10, 4) (hM.1 4 (by decide)) rfl hM.2.2.2.2.2.1 pg rfl (by omega) (by decide) dX3_down_26 ?_
        refine nc_lt (tgt := 99) hx hb dX3_down_27 (by decide) (by omega) (by omega) (fun c2 => ?_) (fun c2 => ?_)
        · refine lv_iload_n hx hb dX3_down_99 rfl (lv_at hl 0 rfl) ?_
          exact kr_i F hr hlk hE hW hS (Nat.le_of_ble_eq_true rfl) (Nat.le_of_ble_eq_true rfl) dX3_down_100 (⟨_, rfl, by rw [← hr2]; exact hM, hX, by rw [← hr1]⟩)
        · exact absurd c2 (by omega)
    · rw [hn] at hr1 hr2
      dsimp only at hr1 hr2
      rcases hcase with ⟨k1, k2, k3⟩ | ⟨k1, k2, k3, k4, k5⟩
      · refine lv_aload_n hx hb dX3_down_10 rfl (lv_at hl 1 rfl) ?_
        refine kg F hE hW (10, 0) (hM.1 0 (by decide)) rfl hM.2.1 rfl inA_X3 2 (by decide) kw_608 (v := .ref (ad (10, 2))) rfl dX3_down_11 ?_
        refine lv_iload_n hx hb dX3_down_14 rfl (lv_at hl 0 rfl) ?_
        refine kl_i F hE hW (10, 2) (hM.1 2 (by decide)) rfl hM.2.2.2.1 pg rfl (by omega) (by decide) dX3_down_15 ?_
        refine lv_iload_n hx hb dX3_down_16 rfl (lv_at hl 3 rfl) ?_
        refine nc_gt (tgt := 30) hx hb dX3_down_17 (by decide) (by omega) (by omega) (fun c1 => ?_) (fun c1 => ?_)
        · refine lv_iload_n hx hb dX3_down_30 rfl (lv_at hl 2 rfl) ?_
          refine lv_aload_n hx hb dX3_down_31 rfl (lv_at hl 1 rfl) ?_
          refine kg F hE hW (10, 0) (hM.1 0 (by decide)) rfl hM.2.1 rfl inA_X3 4 (by decide) kw_610 (v := .ref (ad (10, 4))) rfl dX3_down_32 ?_
          refine lv_iload_n hx hb dX3_down_35 rfl (lv_at hl 0 rfl) ?_
          refine kl_i F hE hW (10, 4) (hM.1 4 (by decide)) rfl hM.2.2.2.2.2.1 pg rfl (by omega) (by decide) dX3_down_36 ?_
          refine nc_lt (tgt := 44) hx hb dX3_down_37 (by decide) (by omega) (by omega) (fun c3 => ?_) (fun c3 => ?_)
          · exact absurd c3 (by omega)
          · refine lv_iconst (v := nI 1) hx hb dX3_down_40 (by decide) ?_
            refine lv_goto (tgt := 45) hx hb dX3_down_41 (by decide) ?_
            refine lv_istore (lv' := [(4, .int (nI 1)), (3, .int (nI pg)), (0, .ref (ad (10, 0))), (1, .int (nI key)), (2, .int (nI lvl))]) hx hb dX3_down_45 hl (by decide) rfl (fun ls hl => ?_)
            refine lv_aload_n hx hb dX3_down_47 rfl (lv_at hl 2 rfl) ?_
            refine lv_dup hx hb dX3_down_48 rfl ?_
            refine kg F hE hW (10, 0) (hM.1 0 (by decide)) rfl hM.2.1 rfl inA_X3 19 (by decide) kw_625 (v := .int (nI f0)) rfl dX3_down_49 ?_
            refine lv_iload hx hb dX3_down_52 (lv_at hl 0 rfl) ?_
            refine nz_eq (tgt := 61) hx hb dX3_down_54 (by decide) (by decide) (fun c4 => ?_) (fun c4 => ?_)
            · exact absurd c4 (by decide)
            · refine lv_iconst (v := nI 1) hx hb dX3_down_57 (by decide) ?_
              refine lv_goto (tgt := 62) hx hb dX3_down_58 (by decide) ?_
              refine lv_iadd hx hb dX3_down_62 ?_
              refine ktop (nI_add _ _) ?_
              refine mp_fo (v := f0 + 1) F hE hW hS hM kw_625 dX3_down_63 (fun ct H locs hW hM hX0 hS => ?_)
              have hX := hX.tr hX0
              refine lv_iload hx hb dX3_down_66 (lv_at hl 0 rfl) ?_
              refine nz_eq (tgt := 80) hx hb dX3_down_68 (by decide) (by decide) (fun c5 => ?_) (fun c5 => ?_)
              · exact absurd c5 (by decide)
              · refine lv_aload_n hx hb dX3_down_71 rfl (lv_at hl 2 rfl) ?_
                refine kg F hE hW (10, 0) (hM.1 0 (by decide)) rfl hM.2.1 rfl inA_X3 5 (by decide) kw_611 (v := .ref (ad (10, 5))) rfl dX3_down_72 ?_
                refine lv_iload_n hx hb dX3_down_75 rfl (lv_at hl 1 rfl) ?_
                refine kl_i F hE hW (10, 5) (hM.1 5 (by decide)) rfl hM.2.2.2.2.2.2.1 pg rfl (by omega) (by decide) dX3_down_76 ?_
                refine ktop (y := nI rz) (by rw [k2]; rfl) ?_
                refine lv_goto (tgt := 95) hx hb dX3_down_77 (by decide) ?_
                refine lv_istore_n (lv' := [(3, .int (nI rz)), (4, .int (nI 1)), (0, .ref (ad (10, 0))), (1, .int (nI key)), (2, .int (nI lvl))]) hx hb dX3_down_95 rfl hl (by decide) rfl (fun ls hl => ?_)
                refine lv_goto (tgt := 10) hx hb dX3_down_96 (by decide) ?_
                rw [if_pos k1] at hr2
                exact ih rz (f0 + 1) ct _ _ _ hrz (by omega) hr1 (by omega) hM hX hW hS (lv_sub hl [0, 2, 3, 4] rfl)
        · refine lv_iload_n hx hb dX3_down_20 rfl (lv_at hl 2 rfl) ?_
          refine lv_aload_n hx hb dX3_down_21 rfl (lv_at hl 1 rfl) ?_
          refine kg F hE hW (10, 0) (hM.1 0 (by decide)) rfl hM.2.1 rfl inA_X3 4 (by decide) kw_610 (v := .ref (ad (10, 4))) rfl dX3_down_22 ?_
          refine lv_iload_n hx hb dX3_down_25 rfl (lv_at hl 0 rfl) ?_
          refine kl_i F hE hW (10, 4) (hM.1 4 (by decide)) rfl hM.2.2.2.2.2.1 pg rfl (by omega) (by decide) dX3_down_26 ?_
          refine nc_lt (tgt := 99) hx hb dX3_down_27 (by decide) (by omega) (by omega) (fun c2 => ?_) (fun c2 => ?_)
          · exact absurd c2 (by omega)
          · refine lv_iload_n hx hb dX3_down_30 rfl (lv_at hl 2 rfl) ?_
            refine lv_aload_n hx hb dX3_down_31 rfl (lv_at hl 1 rfl) ?_
            refine kg F hE hW (10, 0) (hM.1 0 (by decide)) rfl hM.2.1 rfl inA_X3 4 (by decide) kw_610 (v := .ref (ad (10, 4))) rfl dX3_down_32 ?_
            refine lv_iload_n hx hb dX3_down_35 rfl (lv_at hl 0 rfl) ?_
            refine kl_i F hE hW (10, 4) (hM.1 4 (by decide)) rfl hM.2.2.2.2.2.1 pg rfl (by omega) (by decide) dX3_down_36 ?_
            refine nc_lt (tgt := 44) hx hb dX3_down_37 (by decide) (by omega) (by omega) (fun c3 => ?_) (fun c3 => ?_)
            · exact absurd c3 (by omega)
            · refine lv_iconst (v := nI 1) hx hb dX3_down_40 (by decide) ?_
              refine lv_goto (tgt := 45) hx hb dX3_down_41 (by decide) ?_
              refine lv_istore (lv' := [(4, .int (nI 1)), (3, .int (nI pg)), (0, .ref (ad (10, 0))), (1, .int (nI key)), (2, .int (nI lvl))]) hx hb dX3_down_45 hl (by decide) rfl (fun ls hl => ?_)
              refine lv_aload_n hx hb dX3_down_47 rfl (lv_at hl 2 rfl) ?_
              refine lv_dup hx hb dX3_down_48 rfl ?_
              refine kg F hE hW (10, 0) (hM.1 0 (by decide)) rfl hM.2.1 rfl inA_X3 19 (by decide) kw_625 (v := .int (nI f0)) rfl dX3_down_49 ?_
              refine lv_iload hx hb dX3_down_52 (lv_at hl 0 rfl) ?_
              refine nz_eq (tgt := 61) hx hb dX3_down_54 (by decide) (by decide) (fun c4 => ?_) (fun c4 => ?_)
              · exact absurd c4 (by decide)
              · refine lv_iconst (v := nI 1) hx hb dX3_down_57 (by decide) ?_
                refine lv_goto (tgt := 62) hx hb dX3_down_58 (by decide) ?_
                refine lv_iadd hx hb dX3_down_62 ?_
                refine ktop (nI_add _ _) ?_
                refine mp_fo (v := f0 + 1) F hE hW hS hM kw_625 dX3_down_63 (fun ct H locs hW hM hX0 hS => ?_)
                have hX := hX.tr hX0
                refine lv_iload hx hb dX3_down_66 (lv_at hl 0 rfl) ?_
                refine nz_eq (tgt := 80) hx hb dX3_down_68 (by decide) (by decide) (fun c5 => ?_) (fun c5 => ?_)
                · exact absurd c5 (by decide)
                · refine lv_aload_n hx hb dX3_down_71 rfl (lv_at hl 2 rfl) ?_
                  refine kg F hE hW (10, 0) (hM.1 0 (by decide)) rfl hM.2.1 rfl inA_X3 5 (by decide) kw_611 (v := .ref (ad (10, 5))) rfl dX3_down_72 ?_
                  refine lv_iload_n hx hb dX3_down_75 rfl (lv_at hl 1 rfl) ?_
                  refine kl_i F hE hW (10, 5) (hM.1 5 (by decide)) rfl hM.2.2.2.2.2.2.1 pg rfl (by omega) (by decide) dX3_down_76 ?_
                  refine ktop (y := nI rz) (by rw [k2]; rfl) ?_
                  refine lv_goto (tgt := 95) hx hb dX3_down_77 (by decide) ?_
                  refine lv_istore_n (lv' := [(3, .int (nI rz)), (4, .int (nI 1)), (0, .ref (ad (10, 0))), (1, .int (nI key)), (2, .int (nI lvl))]) hx hb dX3_down_95 rfl hl (by decide) rfl (fun ls hl => ?_)
                  refine lv_goto (tgt := 10) hx hb dX3_down_96 (by decide) ?_
                  rw [if_pos k1] at hr2
                  exact ih rz (f0 + 1) ct _ _ _ hrz (by omega) hr1 (by omega) hM hX hW hS (lv_sub hl [0, 2, 3, 4] rfl)
      · refine lv_aload_n hx hb dX3_down_10 rfl (lv_at hl 1 rfl) ?_
        refine kg F hE hW (10, 0) (hM.1 0 (by decide)) rfl hM.2.1 rfl inA_X3 2 (by decide) kw_608 (v := .ref (ad (10, 2))) rfl dX3_down_11 ?_
        refine lv_iload_n hx hb dX3_down_14 rfl (lv_at hl 0 rfl) ?_
        refine kl_i F hE hW (10, 2) (hM.1 2 (by decide)) rfl hM.2.2.2.1 pg rfl (by omega) (by decide) dX3_down_15 ?_
        refine lv_iload_n hx hb dX3_down_16 rfl (lv_at hl 3 rfl) ?_
        refine nc_gt (tgt := 30) hx hb dX3_down_17 (by decide) (by omega) (by omega) (fun c1 => ?_) (fun c1 => ?_)
        · refine lv_iload_n hx hb dX3_down_30 rfl (lv_at hl 2 rfl) ?_
          refine lv_aload_n hx hb dX3_down_31 rfl (lv_at hl 1 rfl) ?_
          refine kg F hE hW (10, 0) (hM.1 0 (by decide)) rfl hM.2.1 rfl inA_X3 4 (by decide) kw_610 (v := .ref (ad (10, 4))) rfl dX3_down_32 ?_
          refine lv_iload_n hx hb dX3_down_35 rfl (lv_at hl 0 rfl) ?_
          refine kl_i F hE hW (10, 4) (hM.1 4 (by decide)) rfl hM.2.2.2.2.2.1 pg rfl (by omega) (by decide) dX3_down_36 ?_
          refine nc_lt (tgt := 44) hx hb dX3_down_37 (by decide) (by omega) (by omega) (fun c3 => ?_) (fun c3 => ?_)
          · refine lv_iconst (v := nI 0) hx hb dX3_down_44 (by decide) ?_
            refine lv_istore (lv' := [(4, .int (nI 0)), (3, .int (nI pg)), (0, .ref (ad (10, 0))), (1, .int (nI key)), (2, .int (nI lvl))]) hx hb dX3_down_45 hl (by decide) rfl (fun ls hl => ?_)
            refine lv_aload_n hx hb dX3_down_47 rfl (lv_at hl 2 rfl) ?_
            refine lv_dup hx hb dX3_down_48 rfl ?_
            refine kg F hE hW (10, 0) (hM.1 0 (by decide)) rfl hM.2.1 rfl inA_X3 19 (by decide) kw_625 (v := .int (nI f0)) rfl dX3_down_49 ?_
            refine lv_iload hx hb dX3_down_52 (lv_at hl 0 rfl) ?_
            refine nz_eq (tgt := 61) hx hb dX3_down_54 (by decide) (by decide) (fun c4 => ?_) (fun c4 => ?_)
            · refine lv_iconst (v := nI 0) hx hb dX3_down_61 (by decide) ?_
              refine lv_iadd hx hb dX3_down_62 ?_
              refine ktop (nI_add _ _) ?_
              refine mp_fo (v := f0 + 0) F hE hW hS hM kw_625 dX3_down_63 (fun ct H locs hW hM hX0 hS => ?_)
              have hX := hX.tr hX0
              refine lv_iload hx hb dX3_down_66 (lv_at hl 0 rfl) ?_
              refine nz_eq (tgt := 80) hx hb dX3_down_68 (by decide) (by decide) (fun c5 => ?_) (fun c5 => ?_)
              · refine lv_aload_n hx hb dX3_down_80 rfl (lv_at hl 2 rfl) ?_
                refine kg F hE hW (10, 0) (hM.1 0 (by decide)) rfl hM.2.1 rfl inA_X3 8 (by decide) kw_614 (v := .ref (ad (10, 8))) rfl dX3_down_81 ?_
                refine lv_iconst (v := nI 5) hx hb dX3_down_84 (by decide) ?_
                refine lv_iload_n hx hb dX3_down_85 rfl (lv_at hl 1 rfl) ?_
                refine lv_imul hx hb dX3_down_86 ?_
                refine ktop (pk_mul _ _) ?_
                refine lv_aload_n hx hb dX3_down_87 rfl (lv_at hl 2 rfl) ?_
                refine lv_iload_n hx hb dX3_down_88 rfl (lv_at hl 1 rfl) ?_
                refine lv_iload_n hx hb dX3_down_89 rfl (lv_at hl 3 rfl) ?_
                refine kc_V 2 (c_X3_place l G A ad dm ct lv lev lo hi ri sz ky vl go rt ep wq wn cn op cl ca ce kc nb th (f0 + 0) hM pg (key + 1) (nI key) (by omega) g5 (lI_s key).symm (by omega) (fun k hk9 => by have := (g6 k hk9).1; omega)) F hE hW hS (10, 0) (hM.1 0 (by decide)) hM.2.1 rfl [.int (nI pg), .int (nI key)] rfl kw_690 kw_692 kp_18 kw_6 kw_693 (by decide +kernel) rfl ⟨rfl, rfl⟩ ⟨Nat.le_of_ble_eq_true rfl, Nat.le_of_ble_eq_true rfl⟩ hl.1 rfl (Nat.le_of_ble_eq_true rfl) dX3_down_90 ⟨Nat.le_of_ble_eq_true rfl, Nat.le_of_ble_eq_true rfl⟩ (fun _ _ _ _ _ h => h.elim) (fun v w' H locs hp hW hS => ?_)
                obtain ⟨rfl, rfl⟩ := hp
                have hcl := cnt_le (sz pg) (pk ky pg) (key + 1)
                refine ktop (lI_p k4) ?_
                refine lv_iadd hx hb dX3_down_93 ?_
                refine ktop (nI_add _ _) ?_
                refine kl_i F hE hW (10, 8) (hM.1 8 (by decide)) rfl hM.2.2.2.2.2.2.2.2.2.1 ((5 * pg) + (cnt (sz pg) (pk ky pg) (key + 1) - 1)) rfl (by omega) (by decide) dX3_down_94 ?_
                rw [← k5]
                refine lv_istore_n (lv' := [(3, .int (nI rz)), (4, .int (nI 0)), (0, .ref (ad (10, 0))), (1, .int (nI key)), (2, .int (nI lvl))]) hx hb dX3_down_95 rfl hl (by decide) rfl (fun ls hl => ?_)
                refine lv_goto (tgt := 10) hx hb dX3_down_96 (by decide) ?_
                rw [if_neg (by omega)] at hr2
                exact ih rz f0 ct _ _ _ hrz (by omega) hr1 (by omega) hM hX hW hS (lv_sub hl [0, 2, 3, 4] rfl)
              · exact absurd rfl c5
            · exact absurd rfl c4
          · exact absurd c3 (by omega)
        · exact absurd c1 (by omega)
