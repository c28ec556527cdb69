/-! The reference: made. -/
/-- the state at the start -/
def iniS : SG := (va_up (fun _ => false) 0 true, va_up (fun _ => 0) 0 0, va_up (fun _ => 0) 0 0, va_up (fun _ => 0) 0 200, va_up (fun _ => some 0) 0 none, va_up (fun _ => 0) 0 0, fun _ => 0, fun _ => 0, va_up (fun _ => some 0) 0 none, 0, 0, fun _ => 0, 0, 0, fun _ => false, fun _ => 0, fun _ => 1, fun _ => 0, 0, 1)
theorem iniS_inv : Inv iniS 0 := by
  have a0 : va_up (fun _ => false) 0 true 0 = true := rfl
  have al : ∀ n, va_up (fun _ => false) 0 true n = true → n = 0 := by
    intro n h
    by_cases e : n = 0
    · exact e
    · rw [va_up_ne _ _ e] at h; cases h
  have ks : sumN 800 (kcF (va_up (fun _ => false) 0 true) (va_up (fun _ => 0) 0 0) (va_up (fun _ => 0) 0 0)) = 0 := by
    have : kcF (va_up (fun _ => false) 0 true) (va_up (fun _ => 0) 0 0) (va_up (fun _ => 0) 0 0) = fun _ => 0 := by
      funext n; unfold kcF va_up; split <;> (try split) <;> rfl
    rw [this]; decide +kernel
  have es : sumN 800 (exF (va_up (fun _ => false) 0 true) (va_up (fun _ => 0) 0 0)) = 0 := by
    have : exF (va_up (fun _ => false) 0 true) (va_up (fun _ => 0) 0 0) = fun _ => 0 := by
      funext n; unfold exF va_up; split <;> (try split) <;> rfl
    rw [this]; decide +kernel
  refine ⟨⟨?_, ?_, ?_, ?_, ?_, ?_, ?_, ?_, ?_, ?_⟩, fun i h => absurd h (Nat.not_lt_zero _), ⟨Nat.zero_le _, fun c h => absurd h (Nat.not_lt_zero _)⟩, ks.symm, ?_, Nat.zero_le _, Nat.le_refl _, Nat.le_refl _⟩
  · intro n h; obtain rfl := al n h; exact ⟨by decide, by decide, by decide, by decide, by decide⟩
  · intro n h k hk; obtain rfl := al n h; exact absurd hk (Nat.not_lt_zero _)
  · intro n h _; obtain rfl := al n h; rfl
  · intro n r h h2; obtain rfl := al n h; cases h2
  · intro n m h h2 _ h3; exact absurd ((al n h.1).trans (al m h2.1).symm) h3
  · intro n h h2; obtain rfl := al n h.1; exact absurd h2 (by decide)
  · intro n e h h2; obtain rfl := al n h; cases h2
  · exact ⟨⟨rfl, rfl⟩, rfl⟩
  · exact ⟨⟨rfl, rfl⟩, rfl, rfl⟩
  · decide
  · rw [es]; decide
/-- all labels but the reference's as they were -/
def NM (ad : Lb → Nat) (dm : Lb → Prop) (ct : Lb → va_E) (ad1 : Lb → Nat) (dm1 : Lb → Prop) (ct1 : Lb → va_E) : Prop :=
  ∀ z : Lb, z.1 ≠ 10 → ad1 z = ad z ∧ ct1 z = ct z ∧ (dm1 z ↔ dm z)
theorem NM.rf {ad : Lb → Nat} {dm : Lb → Prop} {ct : Lb → va_E} : NM ad dm ct ad dm ct := fun _ _ => ⟨rfl, rfl, Iff.rfl⟩
theorem NM.tr {ad ad1 ad2 : Lb → Nat} {dm dm1 dm2 : Lb → Prop} {ct ct1 ct2 : Lb → va_E} (h1 : NM ad dm ct ad1 dm1 ct1) (h2 : NM ad1 dm1 ct1 ad2 dm2 ct2) : NM ad dm ct ad2 dm2 ct2 := fun z hz =>
  ⟨(h2 z hz).1.trans (h1 z hz).1, (h2 z hz).2.1.trans (h1 z hz).2.1, (h2 z hz).2.2.trans (h1 z hz).2.2⟩
theorem NM.ofN {n : Nat} {e : va_E} {ad ad1 : Lb → Nat} {dm dm1 : Lb → Prop} {ct ct1 : Lb → va_E} (h : NW (10, n) e ad dm ct ad1 dm1 ct1) : NM ad dm ct ad1 dm1 ct1 := fun z hz => by
  have hne : z ≠ (10, n) := by rintro rfl; exact hz rfl
  exact ⟨(h.1 z hne).1, (h.1 z hne).2, by rw [h.2.2]; simp [hne]⟩
theorem NM.ofX {ad : Lb → Nat} {dm : Lb → Prop} {ct ct1 : Lb → va_E} (h : XM ct ct1) : NM ad dm ct ad dm ct1 := fun z hz => ⟨rfl, h z hz, Iff.rfl⟩
set_option maxRecDepth 100000 in
set_option maxHeartbeats 4000000 in
theorem c_X3_init (l : Launch) (G : GG) (A : Nat → Prop) (ad : Lb → Nat) (dm : Lb → Prop) (ct : Lb → va_E) (h0 : dm (10, 0)) (hct : ct (10, 0) = .inr (4, [.int 0, .null, .null, .null, .null, .null, .null, .null, .null, .null, .int 0, .int 0, .null, .int 0, .int 0, .null, .null, .null, .null, .int 0])) (hno : ∀ k, 0 < k → k < 15 → ¬ dm (10, k)) :
    CT l yX3_init cX3_init 1 none { frames := 1, cells := 14, slots := 14480, locals := 25 } [.ref (ad (10, 0))] G A (ad, dm, ct) (fun v w' => v = none ∧ ∃ ad' dm' ct', w' = (ad', dm', ct') ∧ NM ad dm ct ad' dm' ct' ∧ ad' (10, 0) = ad (10, 0) ∧ MD G ad' dm' ct' iniS 0 0) (fun _ => False) (14) (14480) := by
  refine ct_of (by decide) (Nat.le_of_ble_eq_true rfl) ?_
  intro p e s m below meth c ls F hr hlk hnm hex hE hW hl
  have hx := F.1
  have hb := F.2.1
  have hS : va_S A s.heap s.heap [] := va_S.rf
  have hl : lv_has ls 1 [(0, .ref (ad (10, 0)))] := hl
  refine lv_aload_n hx hb dX3_init_0 rfl (lv_at hl 0 rfl) ?_
  refine W.objInit hx hb F.2.2.2.1 (F.2.2.2.2 _ kw_601) (F.2.2.2.2 _ kw_26) (F.2.2.2.2 _ kw_27) rfl (by rw [F.2.2.1]; exact hl.1) rfl dX3_init_1 (Nat.le_of_ble_eq_true rfl) (Nat.le_of_ble_eq_true rfl) ?_
  have hN0 : NM ad dm ct ad dm ct := NM.rf
  have hn0 : ∀ k, 0 < k → k < 15 → ¬ dm (10, k) := hno
  refine lv_aload_n hx hb dX3_init_4 rfl (lv_at hl 0 rfl) ?_
  refine lv_sipush (v := nI 800) hx hb dX3_init_5 (by decide) ?_
  refine na 1 .boolean F hE hW hS (10, 1) (hn0 1 (by decide) (by decide)) kw_667 rfl rfl 800 (800, .inl (fun _ => 0)) (fun _ => rfl) rfl (by decide) (by decide) (Nat.le_of_ble_eq_true rfl) (Nat.le_of_ble_eq_true rfl) dX3_init_8 (fun ad1 dm1 ct1 H hW hN1 hS => ?_)
  have ha1 : ad1 (10, 0) = ad (10, 0) := (hN1.1 _ (lb_ne2 (by decide))).1
  have hd1 : dm1 (10, 0) := (hN1.2.2 _).mpr (Or.inr h0)
  have hc1 : ct1 (10, 0) = _ := (hN1.1 _ (lb_ne2 (by decide))).2.trans hct
  have hn1 : ∀ k, 1 < k → k < 15 → ¬ dm1 (10, k) := fun k h9 h8 h7 => ((hN1.2.2 _).mp h7).elim (fun e9 => absurd (congrArg Prod.snd e9) (by show ¬ k = 1; omega)) (hn0 k (by omega) h8)
  refine kpF F hE hW hS hnm (10, 0) hd1 ha1 hc1 rfl inA_X3 tyX3 tyX3_ok nmX3 1 (by decide) kw_607 rfl rfl rfl rfl (Nat.le_of_ble_eq_true rfl) dX3_init_10 (fun ct1p H locs hW hc hf hS => ?_)
  have hN0 := hN0.tr ((NM.ofN hN1).tr (NM.ofX (XM.of hf)))
  have hk1 : ct1p (10, 1) = _ := (hf _ (lb_ne2 (by decide))).trans hN1.2.1
  have hm1 : dm1 (10, 1) := (hN1.2.2 _).mpr (Or.inl rfl)
  refine lv_aload_n hx hb dX3_init_13 rfl (lv_at hl 0 rfl) ?_
  refine lv_sipush (v := nI 800) hx hb dX3_init_14 (by decide) ?_
  refine na 0 .int F hE hW hS (10, 2) (hn1 2 (by decide) (by decide)) kw_105 rfl rfl 800 (800, .inl (fun _ => 0)) (fun _ => rfl) rfl (by decide) (by decide) (Nat.le_of_ble_eq_true rfl) (Nat.le_of_ble_eq_true rfl) dX3_init_17 (fun ad2 dm2 ct2 H hW hN2 hS => ?_)
  have ha2 : ad2 (10, 0) = ad (10, 0) := (hN2.1 _ (lb_ne2 (by decide))).1.trans ha1
  have hd2 : dm2 (10, 0) := (hN2.2.2 _).mpr (Or.inr hd1)
  have hc2 : ct2 (10, 0) = _ := (hN2.1 _ (lb_ne2 (by decide))).2.trans hc
  have hn2 : ∀ k, 2 < k → k < 15 → ¬ dm2 (10, k) := fun k h9 h8 h7 => ((hN2.2.2 _).mp h7).elim (fun e9 => absurd (congrArg Prod.snd e9) (by show ¬ k = 2; omega)) (hn1 k (by omega) h8)
  refine kpF F hE hW hS hnm (10, 0) hd2 ha2 hc2 rfl inA_X3 tyX3 tyX3_ok nmX3 2 (by decide) kw_608 rfl rfl rfl rfl (Nat.le_of_ble_eq_true rfl) dX3_init_19 (fun ct2p H locs hW hc hf hS => ?_)
  have hN0 := hN0.tr ((NM.ofN hN2).tr (NM.ofX (XM.of hf)))
  have hk1 : ct2p (10, 1) = _ := (hf _ (lb_ne2 (by decide))).trans ((hN2.1 _ (lb_ne2 (by decide))).2.trans hk1)
  have hr1 : ad2 (10, 1) = ad1 (10, 1) := (hN2.1 _ (lb_ne2 (by decide))).1
  have hm1 : dm2 (10, 1) := (hN2.2.2 _).mpr (Or.inr hm1)
  have hk2 : ct2p (10, 2) = _ := (hf _ (lb_ne2 (by decide))).trans hN2.2.1
  have hm2 : dm2 (10, 2) := (hN2.2.2 _).mpr (Or.inl rfl)
  refine lv_aload_n hx hb dX3_init_22 rfl (lv_at hl 0 rfl) ?_
  refine lv_sipush (v := nI 800) hx hb dX3_init_23 (by decide) ?_
  refine na 0 .int F hE hW hS (10, 3) (hn2 3 (by decide) (by decide)) kw_105 rfl rfl 800 (800, .inl (fun _ => 0)) (fun _ => rfl) rfl (by decide) (by decide) (Nat.le_of_ble_eq_true rfl) (Nat.le_of_ble_eq_true rfl) dX3_init_26 (fun ad3 dm3 ct3 H hW hN3 hS => ?_)
  have ha3 : ad3 (10, 0) = ad (10, 0) := (hN3.1 _ (lb_ne2 (by decide))).1.trans ha2
  have hd3 : dm3 (10, 0) := (hN3.2.2 _).mpr (Or.inr hd2)
  have hc3 : ct3 (10, 0) = _ := (hN3.1 _ (lb_ne2 (by decide))).2.trans hc
  have hn3 : ∀ k, 3 < k → k < 15 → ¬ dm3 (10, k) := fun k h9 h8 h7 => ((hN3.2.2 _).mp h7).elim (fun e9 => absurd (congrArg Prod.snd e9) (by show ¬ k = 3; omega)) (hn2 k (by omega) h8)
  refine kpF F hE hW hS hnm (10, 0) hd3 ha3 hc3 rfl inA_X3 tyX3 tyX3_ok nmX3 3 (by decide) kw_609 rfl rfl rfl rfl (Nat.le_of_ble_eq_true rfl) dX3_init_28 (fun ct3p H locs hW hc hf hS => ?_)
  have hN0 := hN0.tr ((NM.ofN hN3).tr (NM.ofX (XM.of hf)))
  have hk1 : ct3p (10, 1) = _ := (hf _ (lb_ne2 (by decide))).trans ((hN3.1 _ (lb_ne2 (by decide))).2.trans hk1)
  have hr1 : ad3 (10, 1) = ad1 (10, 1) := (hN3.1 _ (lb_ne2 (by decide))).1.trans hr1
  have hm1 : dm3 (10, 1) := (hN3.2.2 _).mpr (Or.inr hm1)
  have hk2 : ct3p (10, 2) = _ := (hf _ (lb_ne2 (by decide))).trans ((hN3.1 _ (lb_ne2 (by decide))).2.trans hk2)
  have hr2 : ad3 (10, 2) = ad2 (10, 2) := (hN3.1 _ (lb_ne2 (by decide))).1
  have hm2 : dm3 (10, 2) := (hN3.2.2 _).mpr (Or.inr hm2)
  have hk3 : ct3p (10, 3) = _ := (hf _ (lb_ne2 (by decide))).trans hN3.2.1
  have hm3 : dm3 (10, 3) := (hN3.2.2 _).mpr (Or.inl rfl)
  refine lv_aload_n hx hb dX3_init_31 rfl (lv_at hl 0 rfl) ?_
  refine lv_sipush (v := nI 800) hx hb dX3_init_32 (by decide) ?_
  refine na 0 .int F hE hW hS (10, 4) (hn3 4 (by decide) (by decide)) kw_105 rfl rfl 800 (800, .inl (fun _ => 0)) (fun _ => rfl) rfl (by decide) (by decide) (Nat.le_of_ble_eq_true rfl) (Nat.le_of_ble_eq_true rfl) dX3_init_35 (fun ad4 dm4 ct4 H hW hN4 hS => ?_)
  have ha4 : ad4 (10, 0) = ad (10, 0) := (hN4.1 _ (lb_ne2 (by decide))).1.trans ha3
  have hd4 : dm4 (10, 0) := (hN4.2.2 _).mpr (Or.inr hd3)
  have hc4 : ct4 (10, 0) = _ := (hN4.1 _ (lb_ne2 (by decide))).2.trans hc
  have hn4 : ∀ k, 4 < k → k < 15 → ¬ dm4 (10, k) := fun k h9 h8 h7 => ((hN4.2.2 _).mp h7).elim (fun e9 => absurd (congrArg Prod.snd e9) (by show ¬ k = 4; omega)) (hn3 k (by omega) h8)
  refine kpF F hE hW hS hnm (10, 0) hd4 ha4 hc4 rfl inA_X3 tyX3 tyX3_ok nmX3 4 (by decide) kw_610 rfl rfl rfl rfl (Nat.le_of_ble_eq_true rfl) dX3_init_37 (fun ct4p H locs hW hc hf hS => ?_)
  have hN0 := hN0.tr ((NM.ofN hN4).tr (NM.ofX (XM.of hf)))
  have hk1 : ct4p (10, 1) = _ := (hf _ (lb_ne2 (by decide))).trans ((hN4.1 _ (lb_ne2 (by decide))).2.trans hk1)
  have hr1 : ad4 (10, 1) = ad1 (10, 1) := (hN4.1 _ (lb_ne2 (by decide))).1.trans hr1
  have hm1 : dm4 (10, 1) := (hN4.2.2 _).mpr (Or.inr hm1)
  have hk2 : ct4p (10, 2) = _ := (hf _ (lb_ne2 (by decide))).trans ((hN4.1 _ (lb_ne2 (by decide))).2.trans hk2)
  have hr2 : ad4 (10, 2) = ad2 (10, 2) := (hN4.1 _ (lb_ne2 (by decide))).1.trans hr2
  have hm2 : dm4 (10, 2) := (hN4.2.2 _).mpr (Or.inr hm2)
  have hk3 : ct4p (10, 3) = _ := (hf _ (lb_ne2 (by decide))).trans ((hN4.1 _ (lb_ne2 (by decide))).2.trans hk3)
  have hr3 : ad4 (10, 3) = ad3 (10, 3) := (hN4.1 _ (lb_ne2 (by decide))).1
  have hm3 : dm4 (10, 3) := (hN4.2.2 _).mpr (Or.inr hm3)
  have hk4 : ct4p (10, 4) = _ := (hf _ (lb_ne2 (by decide))).trans hN4.2.1
  have hm4 : dm4 (10, 4) := (hN4.2.2 _).mpr (Or.inl rfl)
  refine lv_aload_n hx hb dX3_init_40 rfl (lv_at hl 0 rfl) ?_
  refine lv_sipush (v := nI 800) hx hb dX3_init_41 (by decide) ?_
  refine na 0 .int F hE hW hS (10, 5) (hn4 5 (by decide) (by decide)) kw_105 rfl rfl 800 (800, .inl (fun _ => 0)) (fun _ => rfl) rfl (by decide) (by decide) (Nat.le_of_ble_eq_true rfl) (Nat.le_of_ble_eq_true rfl) dX3_init_44 (fun ad5 dm5 ct5 H hW hN5 hS => ?_)
  have ha5 : ad5 (10, 0) = ad (10, 0) := (hN5.1 _ (lb_ne2 (by decide))).1.trans ha4
  have hd5 : dm5 (10, 0) := (hN5.2.2 _).mpr (Or.inr hd4)
  have hc5 : ct5 (10, 0) = _ := (hN5.1 _ (lb_ne2 (by decide))).2.trans hc
  have hn5 : ∀ k, 5 < k → k < 15 → ¬ dm5 (10, k) := fun k h9 h8 h7 => ((hN5.2.2 _).mp h7).elim (fun e9 => absurd (congrArg Prod.snd e9) (by show ¬ k = 5; omega)) (hn4 k (by omega) h8)
  refine kpF F hE hW hS hnm (10, 0) hd5 ha5 hc5 rfl inA_X3 tyX3 tyX3_ok nmX3 5 (by decide) kw_611 rfl rfl rfl rfl (Nat.le_of_ble_eq_true rfl) dX3_init_46 (fun ct5p H locs hW hc hf hS => ?_)
  have hN0 := hN0.tr ((NM.ofN hN5).tr (NM.ofX (XM.of hf)))
  have hk1 : ct5p (10, 1) = _ := (hf _ (lb_ne2 (by decide))).trans ((hN5.1 _ (lb_ne2 (by decide))).2.trans hk1)
  have hr1 : ad5 (10, 1) = ad1 (10, 1) := (hN5.1 _ (lb_ne2 (by decide))).1.trans hr1
  have hm1 : dm5 (10, 1) := (hN5.2.2 _).mpr (Or.inr hm1)
  have hk2 : ct5p (10, 2) = _ := (hf _ (lb_ne2 (by decide))).trans ((hN5.1 _ (lb_ne2 (by decide))).2.trans hk2)
  have hr2 : ad5 (10, 2) = ad2 (10, 2) := (hN5.1 _ (lb_ne2 (by decide))).1.trans hr2
  have hm2 : dm5 (10, 2) := (hN5.2.2 _).mpr (Or.inr hm2)
  have hk3 : ct5p (10, 3) = _ := (hf _ (lb_ne2 (by decide))).trans ((hN5.1 _ (lb_ne2 (by decide))).2.trans hk3)
  have hr3 : ad5 (10, 3) = ad3 (10, 3) := (hN5.1 _ (lb_ne2 (by decide))).1.trans hr3
  have hm3 : dm5 (10, 3) := (hN5.2.2 _).mpr (Or.inr hm3)
  have hk4 : ct5p (10, 4) = _ := (hf _ (lb_ne2 (by decide))).trans ((hN5.1 _ (lb_ne2 (by decide))).2.trans hk4)
  have hr4 : ad5 (10, 4) = ad4 (10, 4) := (hN5.1 _ (lb_ne2 (by decide))).1
  have hm4 : dm5 (10, 4) := (hN5.2.2 _).mpr (Or.inr hm4)
  have hk5 : ct5p (10, 5) = _ := (hf _ (lb_ne2 (by decide))).trans hN5.2.1
  have hm5 : dm5 (10, 5) := (hN5.2.2 _).mpr (Or.inl rfl)
  refine lv_aload_n hx hb dX3_init_49 rfl (lv_at hl 0 rfl) ?_
  refine lv_sipush (v := nI 800) hx hb dX3_init_50 (by decide) ?_
  refine na 0 .int F hE hW hS (10, 6) (hn5 6 (by decide) (by decide)) kw_105 rfl rfl 800 (800, .inl (fun _ => 0)) (fun _ => rfl) rfl (by decide) (by decide) (Nat.le_of_ble_eq_true rfl) (Nat.le_of_ble_eq_true rfl) dX3_init_53 (fun ad6 dm6 ct6 H hW hN6 hS => ?_)
  have ha6 : ad6 (10, 0) = ad (10, 0) := (hN6.1 _ (lb_ne2 (by decide))).1.trans ha5
  have hd6 : dm6 (10, 0) := (hN6.2.2 _).mpr (Or.inr hd5)
  have hc6 : ct6 (10, 0) = _ := (hN6.1 _ (lb_ne2 (by decide))).2.trans hc
  have hn6 : ∀ k, 6 < k → k < 15 → ¬ dm6 (10, k) := fun k h9 h8 h7 => ((hN6.2.2 _).mp h7).elim (fun e9 => absurd (congrArg Prod.snd e9) (by show ¬ k = 6; omega)) (hn5 k (by omega) h8)
  refine kpF F hE hW hS hnm (10, 0) hd6 ha6 hc6 rfl inA_X3 tyX3 tyX3_ok nmX3 6 (by decide) kw_612 rfl rfl rfl rfl (Nat.le_of_ble_eq_true rfl) dX3_init_55 (fun ct6p H locs hW hc hf hS => ?_)
  have hN0 := hN0.tr ((NM.ofN hN6).tr (NM.ofX (XM.of hf)))
  have hk1 : ct6p (10, 1) = _ := (hf _ (lb_ne2 (by decide))).trans ((hN6.1 _ (lb_ne2 (by decide))).2.trans hk1)
  have hr1 : ad6 (10, 1) = ad1 (10, 1) := (hN6.1 _ (lb_ne2 (by decide))).1.trans hr1
  have hm1 : dm6 (10, 1) := (hN6.2.2 _).mpr (Or.inr hm1)
  have hk2 : ct6p (10, 2) = _ := (hf _ (lb_ne2 (by decide))).trans ((hN6.1 _ (lb_ne2 (by decide))).2.trans hk2)
  have hr2 : ad6 (10, 2) = ad2 (10, 2) := (hN6.1 _ (lb_ne2 (by decide))).1.trans hr2
  have hm2 : dm6 (10, 2) := (hN6.2.2 _).mpr (Or.inr hm2)
  have hk3 : ct6p (10, 3) = _ := (hf _ (lb_ne2 (by decide))).trans ((hN6.1 _ (lb_ne2 (by decide))).2.trans hk3)
  have hr3 : ad6 (10, 3) = ad3 (10, 3) := (hN6.1 _ (lb_ne2 (by decide))).1.trans hr3
  have hm3 : dm6 (10, 3) := (hN6.2.2 _).mpr (Or.inr hm3)
  have hk4 : ct6p (10, 4) = _ := (hf _ (lb_ne2 (by decide))).trans ((hN6.1 _ (lb_ne2 (by decide))).2.trans hk4)
  have hr4 : ad6 (10, 4) = ad4 (10, 4) := (hN6.1 _ (lb_ne2 (by decide))).1.trans hr4
  have hm4 : dm6 (10, 4) := (hN6.2.2 _).mpr (Or.inr hm4)
  have hk5 : ct6p (10, 5) = _ := (hf _ (lb_ne2 (by decide))).trans ((hN6.1 _ (lb_ne2 (by decide))).2.trans hk5)
  have hr5 : ad6 (10, 5) = ad5 (10, 5) := (hN6.1 _ (lb_ne2 (by decide))).1
  have hm5 : dm6 (10, 5) := (hN6.2.2 _).mpr (Or.inr hm5)
  have hk6 : ct6p (10, 6) = _ := (hf _ (lb_ne2 (by decide))).trans hN6.2.1
  have hm6 : dm6 (10, 6) := (hN6.2.2 _).mpr (Or.inl rfl)
  refine lv_aload_n hx hb dX3_init_58 rfl (lv_at hl 0 rfl) ?_
  refine lv_sipush (v := nI 4000) hx hb dX3_init_59 (by decide) ?_
  refine na 0 .int F hE hW hS (10, 7) (hn6 7 (by decide) (by decide)) kw_105 rfl rfl 4000 (4000, .inl (fun _ => 0)) (fun _ => rfl) rfl (by decide) (by decide) (Nat.le_of_ble_eq_true rfl) (Nat.le_of_ble_eq_true rfl) dX3_init_62 (fun ad7 dm7 ct7 H hW hN7 hS => ?_)
  have ha7 : ad7 (10, 0) = ad (10, 0) := (hN7.1 _ (lb_ne2 (by decide))).1.trans ha6
  have hd7 : dm7 (10, 0) := (hN7.2.2 _).mpr (Or.inr hd6)
  have hc7 : ct7 (10, 0) = _ := (hN7.1 _ (lb_ne2 (by decide))).2.trans hc
  have hn7 : ∀ k, 7 < k → k < 15 → ¬ dm7 (10, k) := fun k h9 h8 h7 => ((hN7.2.2 _).mp h7).elim (fun e9 => absurd (congrArg Prod.snd e9) (by show ¬ k = 7; omega)) (hn6 k (by omega) h8)
  refine kpF F hE hW hS hnm (10, 0) hd7 ha7 hc7 rfl inA_X3 tyX3 tyX3_ok nmX3 7 (by decide) kw_613 rfl rfl rfl rfl (Nat.le_of_ble_eq_true rfl) dX3_init_64 (fun ct7p H locs hW hc hf hS => ?_)
  have hN0 := hN0.tr ((NM.ofN hN7).tr (NM.ofX (XM.of hf)))
  have hk1 : ct7p (10, 1) = _ := (hf _ (lb_ne2 (by decide))).trans ((hN7.1 _ (lb_ne2 (by decide))).2.trans hk1)
  have hr1 : ad7 (10, 1) = ad1 (10, 1) := (hN7.1 _ (lb_ne2 (by decide))).1.trans hr1
  have hm1 : dm7 (10, 1) := (hN7.2.2 _).mpr (Or.inr hm1)
  have hk2 : ct7p (10, 2) = _ := (hf _ (lb_ne2 (by decide))).trans ((hN7.1 _ (lb_ne2 (by decide))).2.trans hk2)
  have hr2 : ad7 (10, 2) = ad2 (10, 2) := (hN7.1 _ (lb_ne2 (by decide))).1.trans hr2
  have hm2 : dm7 (10, 2) := (hN7.2.2 _).mpr (Or.inr hm2)
  have hk3 : ct7p (10, 3) = _ := (hf _ (lb_ne2 (by decide))).trans ((hN7.1 _ (lb_ne2 (by decide))).2.trans hk3)
  have hr3 : ad7 (10, 3) = ad3 (10, 3) := (hN7.1 _ (lb_ne2 (by decide))).1.trans hr3
  have hm3 : dm7 (10, 3) := (hN7.2.2 _).mpr (Or.inr hm3)
  have hk4 : ct7p (10, 4) = _ := (hf _ (lb_ne2 (by decide))).trans ((hN7.1 _ (lb_ne2 (by decide))).2.trans hk4)
  have hr4 : ad7 (10, 4) = ad4 (10, 4) := (hN7.1 _ (lb_ne2 (by decide))).1.trans hr4
  have hm4 : dm7 (10, 4) := (hN7.2.2 _).mpr (Or.inr hm4)
  have hk5 : ct7p (10, 5) = _ := (hf _ (lb_ne2 (by decide))).trans ((hN7.1 _ (lb_ne2 (by decide))).2.trans hk5)
  have hr5 : ad7 (10, 5) = ad5 (10, 5) := (hN7.1 _ (lb_ne2 (by decide))).1.trans hr5
  have hm5 : dm7 (10, 5) := (hN7.2.2 _).mpr (Or.inr hm5)
  have hk6 : ct7p (10, 6) = _ := (hf _ (lb_ne2 (by decide))).trans ((hN7.1 _ (lb_ne2 (by decide))).2.trans hk6)
  have hr6 : ad7 (10, 6) = ad6 (10, 6) := (hN7.1 _ (lb_ne2 (by decide))).1
  have hm6 : dm7 (10, 6) := (hN7.2.2 _).mpr (Or.inr hm6)
  have hk7 : ct7p (10, 7) = _ := (hf _ (lb_ne2 (by decide))).trans hN7.2.1
  have hm7 : dm7 (10, 7) := (hN7.2.2 _).mpr (Or.inl rfl)
  refine lv_aload_n hx hb dX3_init_67 rfl (lv_at hl 0 rfl) ?_
  refine lv_sipush (v := nI 4000) hx hb dX3_init_68 (by decide) ?_
  refine na 0 .int F hE hW hS (10, 8) (hn7 8 (by decide) (by decide)) kw_105 rfl rfl 4000 (4000, .inl (fun _ => 0)) (fun _ => rfl) rfl (by decide) (by decide) (Nat.le_of_ble_eq_true rfl) (Nat.le_of_ble_eq_true rfl) dX3_init_71 (fun ad8 dm8 ct8 H hW hN8 hS => ?_)
  have ha8 : ad8 (10, 0) = ad (10, 0) := (hN8.1 _ (lb_ne2 (by decide))).1.trans ha7
  have hd8 : dm8 (10, 0) := (hN8.2.2 _).mpr (Or.inr hd7)
  have hc8 : ct8 (10, 0) = _ := (hN8.1 _ (lb_ne2 (by decide))).2.trans hc
  have hn8 : ∀ k, 8 < k → k < 15 → ¬ dm8 (10, k) := fun k h9 h8 h7 => ((hN8.2.2 _).mp h7).elim (fun e9 => absurd (congrArg Prod.snd e9) (by show ¬ k = 8; omega)) (hn7 k (by omega) h8)
  refine kpF F hE hW hS hnm (10, 0) hd8 ha8 hc8 rfl inA_X3 tyX3 tyX3_ok nmX3 8 (by decide) kw_614 rfl rfl rfl rfl (Nat.le_of_ble_eq_true rfl) dX3_init_73 (fun ct8p H locs hW hc hf hS => ?_)
  have hN0 := hN0.tr ((NM.ofN hN8).tr (NM.ofX (XM.of hf)))
  have hk1 : ct8p (10, 1) = _ := (hf _ (lb_ne2 (by decide))).trans ((hN8.1 _ (lb_ne2 (by decide))).2.trans hk1)
  have hr1 : ad8 (10, 1) = ad1 (10, 1) := (hN8.1 _ (lb_ne2 (by decide))).1.trans hr1
  have hm1 : dm8 (10, 1) := (hN8.2.2 _).mpr (Or.inr hm1)
  have hk2 : ct8p (10, 2) = _ := (hf _ (lb_ne2 (by decide))).trans ((hN8.1 _ (lb_ne2 (by decide))).2.trans hk2)
  have hr2 : ad8 (10, 2) = ad2 (10, 2) := (hN8.1 _ (lb_ne2 (by decide))).1.trans hr2
  have hm2 : dm8 (10, 2) := (hN8.2.2 _).mpr (Or.inr hm2)
  have hk3 : ct8p (10, 3) = _ := (hf _ (lb_ne2 (by decide))).trans ((hN8.1 _ (lb_ne2 (by decide))).2.trans hk3)
  have hr3 : ad8 (10, 3) = ad3 (10, 3) := (hN8.1 _ (lb_ne2 (by decide))).1.trans hr3
  have hm3 : dm8 (10, 3) := (hN8.2.2 _).mpr (Or.inr hm3)
  have hk4 : ct8p (10, 4) = _ := (hf _ (lb_ne2 (by decide))).trans ((hN8.1 _ (lb_ne2 (by decide))).2.trans hk4)
  have hr4 : ad8 (10, 4) = ad4 (10, 4) := (hN8.1 _ (lb_ne2 (by decide))).1.trans hr4
  have hm4 : dm8 (10, 4) := (hN8.2.2 _).mpr (Or.inr hm4)
  have hk5 : ct8p (10, 5) = _ := (hf _ (lb_ne2 (by decide))).trans ((hN8.1 _ (lb_ne2 (by decide))).2.trans hk5)
  have hr5 : ad8 (10, 5) = ad5 (10, 5) := (hN8.1 _ (lb_ne2 (by decide))).1.trans hr5
  have hm5 : dm8 (10, 5) := (hN8.2.2 _).mpr (Or.inr hm5)
  have hk6 : ct8p (10, 6) = _ := (hf _ (lb_ne2 (by decide))).trans ((hN8.1 _ (lb_ne2 (by decide))).2.trans hk6)
  have hr6 : ad8 (10, 6) = ad6 (10, 6) := (hN8.1 _ (lb_ne2 (by decide))).1.trans hr6
  have hm6 : dm8 (10, 6) := (hN8.2.2 _).mpr (Or.inr hm6)
  have hk7 : ct8p (10, 7) = _ := (hf _ (lb_ne2 (by decide))).trans ((hN8.1 _ (lb_ne2 (by decide))).2.trans hk7)
  have hr7 : ad8 (10, 7) = ad7 (10, 7) := (hN8.1 _ (lb_ne2 (by decide))).1
  have hm7 : dm8 (10, 7) := (hN8.2.2 _).mpr (Or.inr hm7)
  have hk8 : ct8p (10, 8) = _ := (hf _ (lb_ne2 (by decide))).trans hN8.2.1
  have hm8 : dm8 (10, 8) := (hN8.2.2 _).mpr (Or.inl rfl)
  refine lv_aload_n hx hb dX3_init_76 rfl (lv_at hl 0 rfl) ?_
  refine lv_sipush (v := nI 800) hx hb dX3_init_77 (by decide) ?_
  refine na 0 .int F hE hW hS (10, 9) (hn8 9 (by decide) (by decide)) kw_105 rfl rfl 800 (800, .inl (fun _ => 0)) (fun _ => rfl) rfl (by decide) (by decide) (Nat.le_of_ble_eq_true rfl) (Nat.le_of_ble_eq_true rfl) dX3_init_80 (fun ad9 dm9 ct9 H hW hN9 hS => ?_)
  have ha9 : ad9 (10, 0) = ad (10, 0) := (hN9.1 _ (lb_ne2 (by decide))).1.trans ha8
  have hd9 : dm9 (10, 0) := (hN9.2.2 _).mpr (Or.inr hd8)
  have hc9 : ct9 (10, 0) = _ := (hN9.1 _ (lb_ne2 (by decide))).2.trans hc
  have hn9 : ∀ k, 9 < k → k < 15 → ¬ dm9 (10, k) := fun k h9 h8 h7 => ((hN9.2.2 _).mp h7).elim (fun e9 => absurd (congrArg Prod.snd e9) (by show ¬ k = 9; omega)) (hn8 k (by omega) h8)
  refine kpF F hE hW hS hnm (10, 0) hd9 ha9 hc9 rfl inA_X3 tyX3 tyX3_ok nmX3 9 (by decide) kw_615 rfl rfl rfl rfl (Nat.le_of_ble_eq_true rfl) dX3_init_82 (fun ct9p H locs hW hc hf hS => ?_)
  have hN0 := hN0.tr ((NM.ofN hN9).tr (NM.ofX (XM.of hf)))
  have hk1 : ct9p (10, 1) = _ := (hf _ (lb_ne2 (by decide))).trans ((hN9.1 _ (lb_ne2 (by decide))).2.trans hk1)
  have hr1 : ad9 (10, 1) = ad1 (10, 1) := (hN9.1 _ (lb_ne2 (by decide))).1.trans hr1
  have hm1 : dm9 (10, 1) := (hN9.2.2 _).mpr (Or.inr hm1)
  have hk2 : ct9p (10, 2) = _ := (hf _ (lb_ne2 (by decide))).trans ((hN9.1 _ (lb_ne2 (by decide))).2.trans hk2)
  have hr2 : ad9 (10, 2) = ad2 (10, 2) := (hN9.1 _ (lb_ne2 (by decide))).1.trans hr2
  have hm2 : dm9 (10, 2) := (hN9.2.2 _).mpr (Or.inr hm2)
  have hk3 : ct9p (10, 3) = _ := (hf _ (lb_ne2 (by decide))).trans ((hN9.1 _ (lb_ne2 (by decide))).2.trans hk3)
  have hr3 : ad9 (10, 3) = ad3 (10, 3) := (hN9.1 _ (lb_ne2 (by decide))).1.trans hr3
  have hm3 : dm9 (10, 3) := (hN9.2.2 _).mpr (Or.inr hm3)
  have hk4 : ct9p (10, 4) = _ := (hf _ (lb_ne2 (by decide))).trans ((hN9.1 _ (lb_ne2 (by decide))).2.trans hk4)
  have hr4 : ad9 (10, 4) = ad4 (10, 4) := (hN9.1 _ (lb_ne2 (by decide))).1.trans hr4
  have hm4 : dm9 (10, 4) := (hN9.2.2 _).mpr (Or.inr hm4)
  have hk5 : ct9p (10, 5) = _ := (hf _ (lb_ne2 (by decide))).trans ((hN9.1 _ (lb_ne2 (by decide))).2.trans hk5)
  have hr5 : ad9 (10, 5) = ad5 (10, 5) := (hN9.1 _ (lb_ne2 (by decide))).1.trans hr5
  have hm5 : dm9 (10, 5) := (hN9.2.2 _).mpr (Or.inr hm5)
  have hk6 : ct9p (10, 6) = _ := (hf _ (lb_ne2 (by decide))).trans ((hN9.1 _ (lb_ne2 (by decide))).2.trans hk6)
  have hr6 : ad9 (10, 6) = ad6 (10, 6) := (hN9.1 _ (lb_ne2 (by decide))).1.trans hr6
  have hm6 : dm9 (10, 6) := (hN9.2.2 _).mpr (Or.inr hm6)
  have hk7 : ct9p (10, 7) = _ := (hf _ (lb_ne2 (by decide))).trans ((hN9.1 _ (lb_ne2 (by decide))).2.trans hk7)
  have hr7 : ad9 (10, 7) = ad7 (10, 7) := (hN9.1 _ (lb_ne2 (by decide))).1.trans hr7
  have hm7 : dm9 (10, 7) := (hN9.2.2 _).mpr (Or.inr hm7)
  have hk8 : ct9p (10, 8) = _ := (hf _ (lb_ne2 (by decide))).trans ((hN9.1 _ (lb_ne2 (by decide))).2.trans hk8)
  have hr8 : ad9 (10, 8) = ad8 (10, 8) := (hN9.1 _ (lb_ne2 (by decide))).1
  have hm8 : dm9 (10, 8) := (hN9.2.2 _).mpr (Or.inr hm8)
  have hk9 : ct9p (10, 9) = _ := (hf _ (lb_ne2 (by decide))).trans hN9.2.1
  have hm9 : dm9 (10, 9) := (hN9.2.2 _).mpr (Or.inl rfl)
  refine lv_aload_n hx hb dX3_init_85 rfl (lv_at hl 0 rfl) ?_
  refine lv_sipush (v := nI 800) hx hb dX3_init_86 (by decide) ?_
  refine na 0 .int F hE hW hS (10, 10) (hn9 10 (by decide) (by decide)) kw_105 rfl rfl 800 (800, .inl (fun _ => 0)) (fun _ => rfl) rfl (by decide) (by decide) (Nat.le_of_ble_eq_true rfl) (Nat.le_of_ble_eq_true rfl) dX3_init_89 (fun ad10 dm10 ct10 H hW hN10 hS => ?_)
  have ha10 : ad10 (10, 0) = ad (10, 0) := (hN10.1 _ (lb_ne2 (by decide))).1.trans ha9
  have hd10 : dm10 (10, 0) := (hN10.2.2 _).mpr (Or.inr hd9)
  have hc10 : ct10 (10, 0) = _ := (hN10.1 _ (lb_ne2 (by decide))).2.trans hc
  have hn10 : ∀ k, 10 < k → k < 15 → ¬ dm10 (10, k) := fun k h9 h8 h7 => ((hN10.2.2 _).mp h7).elim (fun e9 => absurd (congrArg Prod.snd e9) (by show ¬ k = 10; omega)) (hn9 k (by omega) h8)
  refine kpF F hE hW hS hnm (10, 0) hd10 ha10 hc10 rfl inA_X3 tyX3 tyX3_ok nmX3 12 (by decide) kw_618 rfl rfl rfl rfl (Nat.le_of_ble_eq_true rfl) dX3_init_91 (fun ct10p H locs hW hc hf hS => ?_)
  have hN0 := hN0.tr ((NM.ofN hN10).tr (NM.ofX (XM.of hf)))
  have hk1 : ct10p (10, 1) = _ := (hf _ (lb_ne2 (by decide))).trans ((hN10.1 _ (lb_ne2 (by decide))).2.trans hk1)
  have hr1 : ad10 (10, 1) = ad1 (10, 1) := (hN10.1 _ (lb_ne2 (by decide))).1.trans hr1
  have hm1 : dm10 (10, 1) := (hN10.2.2 _).mpr (Or.inr hm1)
  have hk2 : ct10p (10, 2) = _ := (hf _ (lb_ne2 (by decide))).trans ((hN10.1 _ (lb_ne2 (by decide))).2.trans hk2)
  have hr2 : ad10 (10, 2) = ad2 (10, 2) := (hN10.1 _ (lb_ne2 (by decide))).1.trans hr2
  have hm2 : dm10 (10, 2) := (hN10.2.2 _).mpr (Or.inr hm2)
  have hk3 : ct10p (10, 3) = _ := (hf _ (lb_ne2 (by decide))).trans ((hN10.1 _ (lb_ne2 (by decide))).2.trans hk3)
  have hr3 : ad10 (10, 3) = ad3 (10, 3) := (hN10.1 _ (lb_ne2 (by decide))).1.trans hr3
  have hm3 : dm10 (10, 3) := (hN10.2.2 _).mpr (Or.inr hm3)
  have hk4 : ct10p (10, 4) = _ := (hf _ (lb_ne2 (by decide))).trans ((hN10.1 _ (lb_ne2 (by decide))).2.trans hk4)
  have hr4 : ad10 (10, 4) = ad4 (10, 4) := (hN10.1 _ (lb_ne2 (by decide))).1.trans hr4
  have hm4 : dm10 (10, 4) := (hN10.2.2 _).mpr (Or.inr hm4)
  have hk5 : ct10p (10, 5) = _ := (hf _ (lb_ne2 (by decide))).trans ((hN10.1 _ (lb_ne2 (by decide))).2.trans hk5)
  have hr5 : ad10 (10, 5) = ad5 (10, 5) := (hN10.1 _ (lb_ne2 (by decide))).1.trans hr5
  have hm5 : dm10 (10, 5) := (hN10.2.2 _).mpr (Or.inr hm5)
  have hk6 : ct10p (10, 6) = _ := (hf _ (lb_ne2 (by decide))).trans ((hN10.1 _ (lb_ne2 (by decide))).2.trans hk6)
  have hr6 : ad10 (10, 6) = ad6 (10, 6) := (hN10.1 _ (lb_ne2 (by decide))).1.trans hr6
  have hm6 : dm10 (10, 6) := (hN10.2.2 _).mpr (Or.inr hm6)
  have hk7 : ct10p (10, 7) = _ := (hf _ (lb_ne2 (by decide))).trans ((hN10.1 _ (lb_ne2 (by decide))).2.trans hk7)
  have hr7 : ad10 (10, 7) = ad7 (10, 7) := (hN10.1 _ (lb_ne2 (by decide))).1.trans hr7
  have hm7 : dm10 (10, 7) := (hN10.2.2 _).mpr (Or.inr hm7)
  have hk8 : ct10p (10, 8) = _ := (hf _ (lb_ne2 (by decide))).trans ((hN10.1 _ (lb_ne2 (by decide))).2.trans hk8)
  have hr8 : ad10 (10, 8) = ad8 (10, 8) := (hN10.1 _ (lb_ne2 (by decide))).1.trans hr8
  have hm8 : dm10 (10, 8) := (hN10.2.2 _).mpr (Or.inr hm8)
  have hk9 : ct10p (10, 9) = _ := (hf _ (lb_ne2 (by decide))).trans ((hN10.1 _ (lb_ne2 (by decide))).2.trans hk9)
  have hr9 : ad10 (10, 9) = ad9 (10, 9) := (hN10.1 _ (lb_ne2 (by decide))).1
  have hm9 : dm10 (10, 9) := (hN10.2.2 _).mpr (Or.inr hm9)
  have hk10 : ct10p (10, 10) = _ := (hf _ (lb_ne2 (by decide))).trans hN10.2.1
  have hm10 : dm10 (10, 10) := (hN10.2.2 _).mpr (Or.inl rfl)
  refine lv_aload_n hx hb dX3_init_94 rfl (lv_at hl 0 rfl) ?_
  refine lv_bipush (v := nI 20) hx hb dX3_init_95 (by decide) ?_
  refine na 1 .boolean F hE hW hS (10, 11) (hn10 11 (by decide) (by decide)) kw_667 rfl rfl 20 (20, .inl (fun _ => 0)) (fun _ => rfl) rfl (by decide) (by decide) (Nat.le_of_ble_eq_true rfl) (Nat.le_of_ble_eq_true rfl) dX3_init_97 (fun ad11 dm11 ct11 H hW hN11 hS => ?_)
  have ha11 : ad11 (10, 0) = ad (10, 0) := (hN11.1 _ (lb_ne2 (by decide))).1.trans ha10
  have hd11 : dm11 (10, 0) := (hN11.2.2 _).mpr (Or.inr hd10)
  have hc11 : ct11 (10, 0) = _ := (hN11.1 _ (lb_ne2 (by decide))).2.trans hc
  have hn11 : ∀ k, 11 < k → k < 15 → ¬ dm11 (10, k) := fun k h9 h8 h7 => ((hN11.2.2 _).mp h7).elim (fun e9 => absurd (congrArg Prod.snd e9) (by show ¬ k = 11; omega)) (hn10 k (by omega) h8)
  refine kpF F hE hW hS hnm (10, 0) hd11 ha11 hc11 rfl inA_X3 tyX3 tyX3_ok nmX3 15 (by decide) kw_621 rfl rfl rfl rfl (Nat.le_of_ble_eq_true rfl) dX3_init_99 (fun ct11p H locs hW hc hf hS => ?_)
  have hN0 := hN0.tr ((NM.ofN hN11).tr (NM.ofX (XM.of hf)))
  have hk1 : ct11p (10, 1) = _ := (hf _ (lb_ne2 (by decide))).trans ((hN11.1 _ (lb_ne2 (by decide))).2.trans hk1)
  have hr1 : ad11 (10, 1) = ad1 (10, 1) := (hN11.1 _ (lb_ne2 (by decide))).1.trans hr1
  have hm1 : dm11 (10, 1) := (hN11.2.2 _).mpr (Or.inr hm1)
  have hk2 : ct11p (10, 2) = _ := (hf _ (lb_ne2 (by decide))).trans ((hN11.1 _ (lb_ne2 (by decide))).2.trans hk2)
  have hr2 : ad11 (10, 2) = ad2 (10, 2) := (hN11.1 _ (lb_ne2 (by decide))).1.trans hr2
  have hm2 : dm11 (10, 2) := (hN11.2.2 _).mpr (Or.inr hm2)
  have hk3 : ct11p (10, 3) = _ := (hf _ (lb_ne2 (by decide))).trans ((hN11.1 _ (lb_ne2 (by decide))).2.trans hk3)
  have hr3 : ad11 (10, 3) = ad3 (10, 3) := (hN11.1 _ (lb_ne2 (by decide))).1.trans hr3
  have hm3 : dm11 (10, 3) := (hN11.2.2 _).mpr (Or.inr hm3)
  have hk4 : ct11p (10, 4) = _ := (hf _ (lb_ne2 (by decide))).trans ((hN11.1 _ (lb_ne2 (by decide))).2.trans hk4)
  have hr4 : ad11 (10, 4) = ad4 (10, 4) := (hN11.1 _ (lb_ne2 (by decide))).1.trans hr4
  have hm4 : dm11 (10, 4) := (hN11.2.2 _).mpr (Or.inr hm4)
  have hk5 : ct11p (10, 5) = _ := (hf _ (lb_ne2 (by decide))).trans ((hN11.1 _ (lb_ne2 (by decide))).2.trans hk5)
  have hr5 : ad11 (10, 5) = ad5 (10, 5) := (hN11.1 _ (lb_ne2 (by decide))).1.trans hr5
  have hm5 : dm11 (10, 5) := (hN11.2.2 _).mpr (Or.inr hm5)
  have hk6 : ct11p (10, 6) = _ := (hf _ (lb_ne2 (by decide))).trans ((hN11.1 _ (lb_ne2 (by decide))).2.trans hk6)
  have hr6 : ad11 (10, 6) = ad6 (10, 6) := (hN11.1 _ (lb_ne2 (by decide))).1.trans hr6
  have hm6 : dm11 (10, 6) := (hN11.2.2 _).mpr (Or.inr hm6)
  have hk7 : ct11p (10, 7) = _ := (hf _ (lb_ne2 (by decide))).trans ((hN11.1 _ (lb_ne2 (by decide))).2.trans hk7)
  have hr7 : ad11 (10, 7) = ad7 (10, 7) := (hN11.1 _ (lb_ne2 (by decide))).1.trans hr7
  have hm7 : dm11 (10, 7) := (hN11.2.2 _).mpr (Or.inr hm7)
  have hk8 : ct11p (10, 8) = _ := (hf _ (lb_ne2 (by decide))).trans ((hN11.1 _ (lb_ne2 (by decide))).2.trans hk8)
  have hr8 : ad11 (10, 8) = ad8 (10, 8) := (hN11.1 _ (lb_ne2 (by decide))).1.trans hr8
  have hm8 : dm11 (10, 8) := (hN11.2.2 _).mpr (Or.inr hm8)
  have hk9 : ct11p (10, 9) = _ := (hf _ (lb_ne2 (by decide))).trans ((hN11.1 _ (lb_ne2 (by decide))).2.trans hk9)
  have hr9 : ad11 (10, 9) = ad9 (10, 9) := (hN11.1 _ (lb_ne2 (by decide))).1.trans hr9
  have hm9 : dm11 (10, 9) := (hN11.2.2 _).mpr (Or.inr hm9)
  have hk10 : ct11p (10, 10) = _ := (hf _ (lb_ne2 (by decide))).trans ((hN11.1 _ (lb_ne2 (by decide))).2.trans hk10)
  have hr10 : ad11 (10, 10) = ad10 (10, 10) := (hN11.1 _ (lb_ne2 (by decide))).1
  have hm10 : dm11 (10, 10) := (hN11.2.2 _).mpr (Or.inr hm10)
  have hk11 : ct11p (10, 11) = _ := (hf _ (lb_ne2 (by decide))).trans hN11.2.1
  have hm11 : dm11 (10, 11) := (hN11.2.2 _).mpr (Or.inl rfl)
  refine lv_aload_n hx hb dX3_init_102 rfl (lv_at hl 0 rfl) ?_
  refine lv_bipush (v := nI 20) hx hb dX3_init_103 (by decide) ?_
  refine na 0 .int F hE hW hS (10, 12) (hn11 12 (by decide) (by decide)) kw_105 rfl rfl 20 (20, .inl (fun _ => 0)) (fun _ => rfl) rfl (by decide) (by decide) (Nat.le_of_ble_eq_true rfl) (Nat.le_of_ble_eq_true rfl) dX3_init_105 (fun ad12 dm12 ct12 H hW hN12 hS => ?_)
  have ha12 : ad12 (10, 0) = ad (10, 0) := (hN12.1 _ (lb_ne2 (by decide))).1.trans ha11
  have hd12 : dm12 (10, 0) := (hN12.2.2 _).mpr (Or.inr hd11)
  have hc12 : ct12 (10, 0) = _ := (hN12.1 _ (lb_ne2 (by decide))).2.trans hc
  have hn12 : ∀ k, 12 < k → k < 15 → ¬ dm12 (10, k) := fun k h9 h8 h7 => ((hN12.2.2 _).mp h7).elim (fun e9 => absurd (congrArg Prod.snd e9) (by show ¬ k = 12; omega)) (hn11 k (by omega) h8)
  refine kpF F hE hW hS hnm (10, 0) hd12 ha12 hc12 rfl inA_X3 tyX3 tyX3_ok nmX3 16 (by decide) kw_622 rfl rfl rfl rfl (Nat.le_of_ble_eq_true rfl) dX3_init_107 (fun ct12p H locs hW hc hf hS => ?_)
  have hN0 := hN0.tr ((NM.ofN hN12).tr (NM.ofX (XM.of hf)))
  have hk1 : ct12p (10, 1) = _ := (hf _ (lb_ne2 (by decide))).trans ((hN12.1 _ (lb_ne2 (by decide))).2.trans hk1)
  have hr1 : ad12 (10, 1) = ad1 (10, 1) := (hN12.1 _ (lb_ne2 (by decide))).1.trans hr1
  have hm1 : dm12 (10, 1) := (hN12.2.2 _).mpr (Or.inr hm1)
  have hk2 : ct12p (10, 2) = _ := (hf _ (lb_ne2 (by decide))).trans ((hN12.1 _ (lb_ne2 (by decide))).2.trans hk2)
  have hr2 : ad12 (10, 2) = ad2 (10, 2) := (hN12.1 _ (lb_ne2 (by decide))).1.trans hr2
  have hm2 : dm12 (10, 2) := (hN12.2.2 _).mpr (Or.inr hm2)
  have hk3 : ct12p (10, 3) = _ := (hf _ (lb_ne2 (by decide))).trans ((hN12.1 _ (lb_ne2 (by decide))).2.trans hk3)
  have hr3 : ad12 (10, 3) = ad3 (10, 3) := (hN12.1 _ (lb_ne2 (by decide))).1.trans hr3
  have hm3 : dm12 (10, 3) := (hN12.2.2 _).mpr (Or.inr hm3)
  have hk4 : ct12p (10, 4) = _ := (hf _ (lb_ne2 (by decide))).trans ((hN12.1 _ (lb_ne2 (by decide))).2.trans hk4)
  have hr4 : ad12 (10, 4) = ad4 (10, 4) := (hN12.1 _ (lb_ne2 (by decide))).1.trans hr4
  have hm4 : dm12 (10, 4) := (hN12.2.2 _).mpr (Or.inr hm4)
  have hk5 : ct12p (10, 5) = _ := (hf _ (lb_ne2 (by decide))).trans ((hN12.1 _ (lb_ne2 (by decide))).2.trans hk5)
  have hr5 : ad12 (10, 5) = ad5 (10, 5) := (hN12.1 _ (lb_ne2 (by decide))).1.trans hr5
  have hm5 : dm12 (10, 5) := (hN12.2.2 _).mpr (Or.inr hm5)
  have hk6 : ct12p (10, 6) = _ := (hf _ (lb_ne2 (by decide))).trans ((hN12.1 _ (lb_ne2 (by decide))).2.trans hk6)
  have hr6 : ad12 (10, 6) = ad6 (10, 6) := (hN12.1 _ (lb_ne2 (by decide))).1.trans hr6
  have hm6 : dm12 (10, 6) := (hN12.2.2 _).mpr (Or.inr hm6)
  have hk7 : ct12p (10, 7) = _ := (hf _ (lb_ne2 (by decide))).trans ((hN12.1 _ (lb_ne2 (by decide))).2.trans hk7)
  have hr7 : ad12 (10, 7) = ad7 (10, 7) := (hN12.1 _ (lb_ne2 (by decide))).1.trans hr7
  have hm7 : dm12 (10, 7) := (hN12.2.2 _).mpr (Or.inr hm7)
  have hk8 : ct12p (10, 8) = _ := (hf _ (lb_ne2 (by decide))).trans ((hN12.1 _ (lb_ne2 (by decide))).2.trans hk8)
  have hr8 : ad12 (10, 8) = ad8 (10, 8) := (hN12.1 _ (lb_ne2 (by decide))).1.trans hr8
  have hm8 : dm12 (10, 8) := (hN12.2.2 _).mpr (Or.inr hm8)
  have hk9 : ct12p (10, 9) = _ := (hf _ (lb_ne2 (by decide))).trans ((hN12.1 _ (lb_ne2 (by decide))).2.trans hk9)
  have hr9 : ad12 (10, 9) = ad9 (10, 9) := (hN12.1 _ (lb_ne2 (by decide))).1.trans hr9
  have hm9 : dm12 (10, 9) := (hN12.2.2 _).mpr (Or.inr hm9)
  have hk10 : ct12p (10, 10) = _ := (hf _ (lb_ne2 (by decide))).trans ((hN12.1 _ (lb_ne2 (by decide))).2.trans hk10)
  have hr10 : ad12 (10, 10) = ad10 (10, 10) := (hN12.1 _ (lb_ne2 (by decide))).1.trans hr10
  have hm10 : dm12 (10, 10) := (hN12.2.2 _).mpr (Or.inr hm10)
  have hk11 : ct12p (10, 11) = _ := (hf _ (lb_ne2 (by decide))).trans ((hN12.1 _ (lb_ne2 (by decide))).2.trans hk11)
  have hr11 : ad12 (10, 11) = ad11 (10, 11) := (hN12.1 _ (lb_ne2 (by decide))).1
  have hm11 : dm12 (10, 11) := (hN12.2.2 _).mpr (Or.inr hm11)
  have hk12 : ct12p (10, 12) = _ := (hf _ (lb_ne2 (by decide))).trans hN12.2.1
  have hm12 : dm12 (10, 12) := (hN12.2.2 _).mpr (Or.inl rfl)
  refine lv_aload_n hx hb dX3_init_110 rfl (lv_at hl 0 rfl) ?_
  refine lv_bipush (v := nI 20) hx hb dX3_init_111 (by decide) ?_
  refine na 0 .int F hE hW hS (10, 13) (hn12 13 (by decide) (by decide)) kw_105 rfl rfl 20 (20, .inl (fun _ => 0)) (fun _ => rfl) rfl (by decide) (by decide) (Nat.le_of_ble_eq_true rfl) (Nat.le_of_ble_eq_true rfl) dX3_init_113 (fun ad13 dm13 ct13 H hW hN13 hS => ?_)
  have ha13 : ad13 (10, 0) = ad (10, 0) := (hN13.1 _ (lb_ne2 (by decide))).1.trans ha12
  have hd13 : dm13 (10, 0) := (hN13.2.2 _).mpr (Or.inr hd12)
  have hc13 : ct13 (10, 0) = _ := (hN13.1 _ (lb_ne2 (by decide))).2.trans hc
  have hn13 : ∀ k, 13 < k → k < 15 → ¬ dm13 (10, k) := fun k h9 h8 h7 => ((hN13.2.2 _).mp h7).elim (fun e9 => absurd (congrArg Prod.snd e9) (by show ¬ k = 13; omega)) (hn12 k (by omega) h8)
  refine kpF F hE hW hS hnm (10, 0) hd13 ha13 hc13 rfl inA_X3 tyX3 tyX3_ok nmX3 17 (by decide) kw_623 rfl rfl rfl rfl (Nat.le_of_ble_eq_true rfl) dX3_init_115 (fun ct13p H locs hW hc hf hS => ?_)
  have hN0 := hN0.tr ((NM.ofN hN13).tr (NM.ofX (XM.of hf)))
  have hk1 : ct13p (10, 1) = _ := (hf _ (lb_ne2 (by decide))).trans ((hN13.1 _ (lb_ne2 (by decide))).2.trans hk1)
  have hr1 : ad13 (10, 1) = ad1 (10, 1) := (hN13.1 _ (lb_ne2 (by decide))).1.trans hr1
  have hm1 : dm13 (10, 1) := (hN13.2.2 _).mpr (Or.inr hm1)
  have hk2 : ct13p (10, 2) = _ := (hf _ (lb_ne2 (by decide))).trans ((hN13.1 _ (lb_ne2 (by decide))).2.trans hk2)
  have hr2 : ad13 (10, 2) = ad2 (10, 2) := (hN13.1 _ (lb_ne2 (by decide))).1.trans hr2
  have hm2 : dm13 (10, 2) := (hN13.2.2 _).mpr (Or.inr hm2)
  have hk3 : ct13p (10, 3) = _ := (hf _ (lb_ne2 (by decide))).trans ((hN13.1 _ (lb_ne2 (by decide))).2.trans hk3)
  have hr3 : ad13 (10, 3) = ad3 (10, 3) := (hN13.1 _ (lb_ne2 (by decide))).1.trans hr3
  have hm3 : dm13 (10, 3) := (hN13.2.2 _).mpr (Or.inr hm3)
  have hk4 : ct13p (10, 4) = _ := (hf _ (lb_ne2 (by decide))).trans ((hN13.1 _ (lb_ne2 (by decide))).2.trans hk4)
  have hr4 : ad13 (10, 4) = ad4 (10, 4) := (hN13.1 _ (lb_ne2 (by decide))).1.trans hr4
  have hm4 : dm13 (10, 4) := (hN13.2.2 _).mpr (Or.inr hm4)
  have hk5 : ct13p (10, 5) = _ := (hf _ (lb_ne2 (by decide))).trans ((hN13.1 _ (lb_ne2 (by decide))).2.trans hk5)
  have hr5 : ad13 (10, 5) = ad5 (10, 5) := (hN13.1 _ (lb_ne2 (by decide))).1.trans hr5
  have hm5 : dm13 (10, 5) := (hN13.2.2 _).mpr (Or.inr hm5)
  have hk6 : ct13p (10, 6) = _ := (hf _ (lb_ne2 (by decide))).trans ((hN13.1 _ (lb_ne2 (by decide))).2.trans hk6)
  have hr6 : ad13 (10, 6) = ad6 (10, 6) := (hN13.1 _ (lb_ne2 (by decide))).1.trans hr6
  have hm6 : dm13 (10, 6) := (hN13.2.2 _).mpr (Or.inr hm6)
  have hk7 : ct13p (10, 7) = _ := (hf _ (lb_ne2 (by decide))).trans ((hN13.1 _ (lb_ne2 (by decide))).2.trans hk7)
  have hr7 : ad13 (10, 7) = ad7 (10, 7) := (hN13.1 _ (lb_ne2 (by decide))).1.trans hr7
  have hm7 : dm13 (10, 7) := (hN13.2.2 _).mpr (Or.inr hm7)
  have hk8 : ct13p (10, 8) = _ := (hf _ (lb_ne2 (by decide))).trans ((hN13.1 _ (lb_ne2 (by decide))).2.trans hk8)
  have hr8 : ad13 (10, 8) = ad8 (10, 8) := (hN13.1 _ (lb_ne2 (by decide))).1.trans hr8
  have hm8 : dm13 (10, 8) := (hN13.2.2 _).mpr (Or.inr hm8)
  have hk9 : ct13p (10, 9) = _ := (hf _ (lb_ne2 (by decide))).trans ((hN13.1 _ (lb_ne2 (by decide))).2.trans hk9)
  have hr9 : ad13 (10, 9) = ad9 (10, 9) := (hN13.1 _ (lb_ne2 (by decide))).1.trans hr9
  have hm9 : dm13 (10, 9) := (hN13.2.2 _).mpr (Or.inr hm9)
  have hk10 : ct13p (10, 10) = _ := (hf _ (lb_ne2 (by decide))).trans ((hN13.1 _ (lb_ne2 (by decide))).2.trans hk10)
  have hr10 : ad13 (10, 10) = ad10 (10, 10) := (hN13.1 _ (lb_ne2 (by decide))).1.trans hr10
  have hm10 : dm13 (10, 10) := (hN13.2.2 _).mpr (Or.inr hm10)
  have hk11 : ct13p (10, 11) = _ := (hf _ (lb_ne2 (by decide))).trans ((hN13.1 _ (lb_ne2 (by decide))).2.trans hk11)
  have hr11 : ad13 (10, 11) = ad11 (10, 11) := (hN13.1 _ (lb_ne2 (by decide))).1.trans hr11
  have hm11 : dm13 (10, 11) := (hN13.2.2 _).mpr (Or.inr hm11)
  have hk12 : ct13p (10, 12) = _ := (hf _ (lb_ne2 (by decide))).trans ((hN13.1 _ (lb_ne2 (by decide))).2.trans hk12)
  have hr12 : ad13 (10, 12) = ad12 (10, 12) := (hN13.1 _ (lb_ne2 (by decide))).1
  have hm12 : dm13 (10, 12) := (hN13.2.2 _).mpr (Or.inr hm12)
  have hk13 : ct13p (10, 13) = _ := (hf _ (lb_ne2 (by decide))).trans hN13.2.1
  have hm13 : dm13 (10, 13) := (hN13.2.2 _).mpr (Or.inl rfl)
  refine lv_aload_n hx hb dX3_init_118 rfl (lv_at hl 0 rfl) ?_
  refine lv_bipush (v := nI 20) hx hb dX3_init_119 (by decide) ?_
  refine na 0 .int F hE hW hS (10, 14) (hn13 14 (by decide) (by decide)) kw_105 rfl rfl 20 (20, .inl (fun _ => 0)) (fun _ => rfl) rfl (by decide) (by decide) (Nat.le_of_ble_eq_true rfl) (Nat.le_of_ble_eq_true rfl) dX3_init_121 (fun ad14 dm14 ct14 H hW hN14 hS => ?_)
  have ha14 : ad14 (10, 0) = ad (10, 0) := (hN14.1 _ (lb_ne2 (by decide))).1.trans ha13
  have hd14 : dm14 (10, 0) := (hN14.2.2 _).mpr (Or.inr hd13)
  have hc14 : ct14 (10, 0) = _ := (hN14.1 _ (lb_ne2 (by decide))).2.trans hc
  have hn14 : ∀ k, 14 < k → k < 15 → ¬ dm14 (10, k) := fun k h9 h8 h7 => ((hN14.2.2 _).mp h7).elim (fun e9 => absurd (congrArg Prod.snd e9) (by show ¬ k = 14; omega)) (hn13 k (by omega) h8)
  refine kpF F hE hW hS hnm (10, 0) hd14 ha14 hc14 rfl inA_X3 tyX3 tyX3_ok nmX3 18 (by decide) kw_624 rfl rfl rfl rfl (Nat.le_of_ble_eq_true rfl) dX3_init_123 (fun ct14p H locs hW hc hf hS => ?_)
  have hN0 := hN0.tr ((NM.ofN hN14).tr (NM.ofX (XM.of hf)))
  have hk1 : ct14p (10, 1) = _ := (hf _ (lb_ne2 (by decide))).trans ((hN14.1 _ (lb_ne2 (by decide))).2.trans hk1)
  have hr1 : ad14 (10, 1) = ad1 (10, 1) := (hN14.1 _ (lb_ne2 (by decide))).1.trans hr1
  have hm1 : dm14 (10, 1) := (hN14.2.2 _).mpr (Or.inr hm1)
  have hk2 : ct14p (10, 2) = _ := (hf _ (lb_ne2 (by decide))).trans ((hN14.1 _ (lb_ne2 (by decide))).2.trans hk2)
  have hr2 : ad14 (10, 2) = ad2 (10, 2) := (hN14.1 _ (lb_ne2 (by decide))).1.trans hr2
  have hm2 : dm14 (10, 2) := (hN14.2.2 _).mpr (Or.inr hm2)
  have hk3 : ct14p (10, 3) = _ := (hf _ (lb_ne2 (by decide))).trans ((hN14.1 _ (lb_ne2 (by decide))).2.trans hk3)
  have hr3 : ad14 (10, 3) = ad3 (10, 3) := (hN14.1 _ (lb_ne2 (by decide))).1.trans hr3
  have hm3 : dm14 (10, 3) := (hN14.2.2 _).mpr (Or.inr hm3)
  have hk4 : ct14p (10, 4) = _ := (hf _ (lb_ne2 (by decide))).trans ((hN14.1 _ (lb_ne2 (by decide))).2.trans hk4)
  have hr4 : ad14 (10, 4) = ad4 (10, 4) := (hN14.1 _ (lb_ne2 (by decide))).1.trans hr4
  have hm4 : dm14 (10, 4) := (hN14.2.2 _).mpr (Or.inr hm4)
  have hk5 : ct14p (10, 5) = _ := (hf _ (lb_ne2 (by decide))).trans ((hN14.1 _ (lb_ne2 (by decide))).2.trans hk5)
  have hr5 : ad14 (10, 5) = ad5 (10, 5) := (hN14.1 _ (lb_ne2 (by decide))).1.trans hr5
  have hm5 : dm14 (10, 5) := (hN14.2.2 _).mpr (Or.inr hm5)
  have hk6 : ct14p (10, 6) = _ := (hf _ (lb_ne2 (by decide))).trans ((hN14.1 _ (lb_ne2 (by decide))).2.trans hk6)
  have hr6 : ad14 (10, 6) = ad6 (10, 6) := (hN14.1 _ (lb_ne2 (by decide))).1.trans hr6
  have hm6 : dm14 (10, 6) := (hN14.2.2 _).mpr (Or.inr hm6)
  have hk7 : ct14p (10, 7) = _ := (hf _ (lb_ne2 (by decide))).trans ((hN14.1 _ (lb_ne2 (by decide))).2.trans hk7)
  have hr7 : ad14 (10, 7) = ad7 (10, 7) := (hN14.1 _ (lb_ne2 (by decide))).1.trans hr7
  have hm7 : dm14 (10, 7) := (hN14.2.2 _).mpr (Or.inr hm7)
  have hk8 : ct14p (10, 8) = _ := (hf _ (lb_ne2 (by decide))).trans ((hN14.1 _ (lb_ne2 (by decide))).2.trans hk8)
  have hr8 : ad14 (10, 8) = ad8 (10, 8) := (hN14.1 _ (lb_ne2 (by decide))).1.trans hr8
  have hm8 : dm14 (10, 8) := (hN14.2.2 _).mpr (Or.inr hm8)
  have hk9 : ct14p (10, 9) = _ := (hf _ (lb_ne2 (by decide))).trans ((hN14.1 _ (lb_ne2 (by decide))).2.trans hk9)
  have hr9 : ad14 (10, 9) = ad9 (10, 9) := (hN14.1 _ (lb_ne2 (by decide))).1.trans hr9
  have hm9 : dm14 (10, 9) := (hN14.2.2 _).mpr (Or.inr hm9)
  have hk10 : ct14p (10, 10) = _ := (hf _ (lb_ne2 (by decide))).trans ((hN14.1 _ (lb_ne2 (by decide))).2.trans hk10)
  have hr10 : ad14 (10, 10) = ad10 (10, 10) := (hN14.1 _ (lb_ne2 (by decide))).1.trans hr10
  have hm10 : dm14 (10, 10) := (hN14.2.2 _).mpr (Or.inr hm10)
  have hk11 : ct14p (10, 11) = _ := (hf _ (lb_ne2 (by decide))).trans ((hN14.1 _ (lb_ne2 (by decide))).2.trans hk11)
  have hr11 : ad14 (10, 11) = ad11 (10, 11) := (hN14.1 _ (lb_ne2 (by decide))).1.trans hr11
  have hm11 : dm14 (10, 11) := (hN14.2.2 _).mpr (Or.inr hm11)
  have hk12 : ct14p (10, 12) = _ := (hf _ (lb_ne2 (by decide))).trans ((hN14.1 _ (lb_ne2 (by decide))).2.trans hk12)
  have hr12 : ad14 (10, 12) = ad12 (10, 12) := (hN14.1 _ (lb_ne2 (by decide))).1.trans hr12
  have hm12 : dm14 (10, 12) := (hN14.2.2 _).mpr (Or.inr hm12)
  have hk13 : ct14p (10, 13) = _ := (hf _ (lb_ne2 (by decide))).trans ((hN14.1 _ (lb_ne2 (by decide))).2.trans hk13)
  have hr13 : ad14 (10, 13) = ad13 (10, 13) := (hN14.1 _ (lb_ne2 (by decide))).1
  have hm13 : dm14 (10, 13) := (hN14.2.2 _).mpr (Or.inr hm13)
  have hk14 : ct14p (10, 14) = _ := (hf _ (lb_ne2 (by decide))).trans hN14.2.1
  have hm14 : dm14 (10, 14) := (hN14.2.2 _).mpr (Or.inl rfl)
  have hM : MDF G ad14 dm14 ct14p (fun _ => false) (fun _ => 0) (fun _ => 0) (fun _ => 0) (fun _ => some 0) (fun _ => 0) (fun _ => 0) (fun _ => 0) (fun _ => some 0) 0 0 (fun _ => 0) 0 0 (fun _ => false) (fun _ => 0) (fun _ => 1) (fun _ => 0) 0 1 0 0 := by
    refine ⟨?_, ?_, hk1.trans ?_, hk2.trans ?_, hk3.trans ?_, hk4.trans ?_, hk5.trans ?_, hk6.trans ?_, hk7.trans ?_, hk8.trans ?_, hk9.trans ?_, hk10.trans ?_, hk11.trans ?_, hk12.trans ?_, hk13.trans ?_, hk14.trans ?_⟩
    · intro k hk
      match k, hk with
      | 0, _ => exact hd14
      | 1, _ => exact hm1
      | 2, _ => exact hm2
      | 3, _ => exact hm3
      | 4, _ => exact hm4
      | 5, _ => exact hm5
      | 6, _ => exact hm6
      | 7, _ => exact hm7
      | 8, _ => exact hm8
      | 9, _ => exact hm9
      | 10, _ => exact hm10
      | 11, _ => exact hm11
      | 12, _ => exact hm12
      | 13, _ => exact hm13
      | 14, _ => exact hm14
    · rw [hc]
      simp only [List.set, MF, hr1, hr2, hr3, hr4, hr5, hr6, hr7, hr8, hr9, hr10, hr11, hr12, hr13]
      rfl
    · rfl
    · rfl
    · rfl
    · rfl
    · rfl
    · rfl
    · rfl
    · rfl
    · rfl
    · rfl
    · rfl
    · rfl
    · exact congrArg (fun f => (Sum.inl (G.2.1 0, 20, .inl f) : va_E)) (funext fun _ => (show (0 : Int32) = lI 1 from by decide))
    · rfl
  have hl : lv_has ls 1 [(0, .ref (ad14 (10, 0)))] := by rw [ha14]; exact hl
  refine lv_aload_n hx hb dX3_init_126 rfl (lv_at hl 0 rfl) ?_
  refine lv_aload_n hx hb dX3_init_127 rfl (lv_at hl 0 rfl) ?_
  refine lv_iconst (v := nI 0) hx hb dX3_init_128 (by decide) ?_
  refine lv_iconst (v := nI 0) hx hb dX3_init_129 (by decide) ?_
  refine lv_sipush (v := nI 200) hx hb dX3_init_130 (by decide) ?_
  refine lv_iconst (v := (-1)) hx hb dX3_init_133 (by decide) ?_
  have hf0 : fr (fun _ => false) = 0 := rfl
  refine kc_V 4 (c_X3_made l G A ad14 dm14 ct14p (fun _ => false) (fun _ => 0) (fun _ => 0) (fun _ => 0) (fun _ => some 0) (fun _ => 0) (fun _ => 0) (fun _ => 0) (fun _ => some 0) 0 0 (fun _ => 0) 0 0 (fun _ => false) (fun _ => 0) (fun _ => 1) (fun _ => 0) 0 1 0 0 hM 0 0 200 (-1) none rfl rfl (fun j hj => by rw [hf0] at hj; exact absurd hj (Nat.not_lt_zero _)) (by rw [hf0]; decide)) F hE hW hS (10, 0) (hM.1 0 (by decide)) hM.2.1 rfl [.int (nI 0), .int (nI 0), .int (nI 200), .int (-1)] rfl kw_602 kw_604 kp_15 kw_6 kw_605 (by decide +kernel) rfl ⟨rfl, rfl⟩ ⟨Nat.le_of_ble_eq_true rfl, Nat.le_of_ble_eq_true rfl⟩ hl.1 rfl (Nat.le_of_ble_eq_true rfl) dX3_init_134 ⟨Nat.le_of_ble_eq_true rfl, Nat.le_of_ble_eq_true rfl⟩ (fun _ _ _ _ _ h => h.elim) (fun v w' H locs hp hW hS => ?_)
  obtain ⟨ct2, rfl, hM, hX0, rfl⟩ := hp
  rw [hf0] at hM ⊢
  have hN0 := hN0.tr (NM.ofX hX0)
  refine mp_rt (v := 0) F hE hW hS hM kw_616 dX3_init_137 (fun ct H locs hW hM hX0 hS => ?_)
  have hN0 := hN0.tr (NM.ofX hX0)
  exact kr_v F hr hlk hE hW hS (Nat.le_of_ble_eq_true rfl) (Nat.le_of_ble_eq_true rfl) dX3_init_140 (⟨rfl, ad14, dm14, ct, rfl, hN0, ha14, hM⟩)
