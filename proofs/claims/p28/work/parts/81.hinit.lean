/-! The class: made. -/
set_option maxRecDepth 100000 in
set_option maxHeartbeats 4000000 in
theorem c_X2_init (l : Launch) (G : GG) (A : Nat → Prop) (ad : Lb → Nat) (dm : Lb → Prop) (ct : Lb → va_E) (h0 : dm (0, 0)) (hct : ct (0, 0) = .inr (3, [.null, .null, .null, .null, .null, .int 0, .int 0, .int 0])) (hno : ∀ z : Lb, z.1 < 7 → z ≠ (0, 0) → ¬ dm z) :
    CT l yX2_init cX2_init 1 none { frames := 4, cells := 7, slots := 1073, locals := 72 } [.ref (ad (0, 0))] G A (ad, dm, ct) (fun v w' => v = none ∧ ∃ ad' dm' ct', w' = (ad', dm', ct') ∧ FH ad dm ct ad' dm' ct' ∧ HK G ad' dm' ct' iniS) (fun _ => False) (7) (1073) := by
  refine ct_of (by decide) (Nat.le_of_ble_eq_true rfl) ?_
  intro p e s m below meth c ls F hr hlk hnm hex hE hW hl
  have hx := F.1
  have hb := F.2.1
  have hS : va_S A s.heap s.heap [] := va_S.rf
  have hl : lv_has ls 1 [(0, .ref (ad (0, 0)))] := hl
  refine lv_aload_n hx hb dX2_init_0 rfl (lv_at hl 0 rfl) ?_
  refine W.objInit hx hb F.2.2.2.1 (F.2.2.2.2 _ kw_24) (F.2.2.2.2 _ kw_25) (F.2.2.2.2 _ kw_26) rfl (by rw [F.2.2.1]; exact hl.1) rfl dX2_init_1 (Nat.le_of_ble_eq_true rfl) (Nat.le_of_ble_eq_true rfl) ?_
  have kO : ct (0, 0) = _ := hct
  have rO : ad (0, 0) = ad (0, 0) := rfl
  have mO := h0
  have hn : ∀ z : Lb, z.1 < 7 → z ≠ (0, 0) → ¬ dm z := hno
  have hfr : ∀ z : Lb, 7 ≤ z.1 → ad z = ad z ∧ ct z = ct z ∧ (dm z ↔ dm z) := fun z _ => ⟨rfl, rfl, Iff.rfl⟩
  refine lv_aload_n hx hb dX2_init_4 rfl (lv_at hl 0 rfl) ?_
  refine lv_sipush (v := nI 1024) hx hb dX2_init_5 (by decide) ?_
  refine nq 2 F hE hW hS (0, 1) (hn _ (by decide) (by decide)) kw_27 kn_28 rfl 1024 rfl (by decide) (by decide) (Nat.le_of_ble_eq_true rfl) (Nat.le_of_ble_eq_true rfl) dX2_init_8 (fun ad1 dm1 ct1 H hW hN1 hS => ?_)
  have kO : ct1 (0, 0) = _ := (hN1.1 _ (by decide)).2.trans kO
  have rO : ad1 (0, 0) = _ := (hN1.1 _ (by decide)).1.trans rO
  have mO : dm1 (0, 0) := (hN1.2.2 _).mpr (Or.inr mO)
  have hn : ∀ z : Lb, z.1 < 7 → z ≠ (0, 0) → z ≠ (0, 1) → ¬ dm1 z := fun z h7 hO hP q => ((hN1.2.2 _).mp q).elim hP (hn z h7 hO)
  have hfr : ∀ z : Lb, 7 ≤ z.1 → ad1 z = ad z ∧ ct1 z = ct z ∧ (dm1 z ↔ dm z) := fun z h7 => by
    have h := hfr z h7
    have ne : z ≠ (0, 1) := by rintro rfl; simp at h7
    exact ⟨(hN1.1 z ne).1.trans h.1, (hN1.1 z ne).2.trans h.2.1, (hN1.2.2 z).trans ⟨fun q => q.elim (fun e => absurd e ne) h.2.2.mp, fun q => Or.inr (h.2.2.mpr q)⟩⟩
  have kP : ct1 (0, 1) = _ := hN1.2.1
  have rP : ad1 (0, 1) = ad1 (0, 1) := rfl
  have mP : dm1 (0, 1) := (hN1.2.2 _).mpr (Or.inl rfl)
  refine kpF F hE hW hS hnm (0, 0) mO rO kO rfl inA_X2 tyX2 tyX2_ok nmX2 0 (by decide) kw_105 rfl rfl rfl rfl (Nat.le_of_ble_eq_true rfl) dX2_init_11 (fun ct1p H locs hW hc hf hS => ?_)
  have kO : ct1p (0, 0) = _ := hc
  have kP : ct1p (0, 1) = _ := (hf _ (by decide)).trans kP
  have hfr : ∀ z : Lb, 7 ≤ z.1 → ad1 z = ad z ∧ ct1p z = ct z ∧ (dm1 z ↔ dm z) := fun z h7 => by
    have h := hfr z h7
    exact ⟨h.1, (hf z (by rintro rfl; simp at h7)).trans h.2.1, h.2.2⟩
  refine lv_aload_n hx hb dX2_init_14 rfl (lv_at hl 0 rfl) ?_
  refine no (ci := 0) F hE hW hS (0, 2) (hn _ (by decide) (by decide) (by decide)) rfl inA_JL tyJx4a65c tyJx4a65c_ok kw_29 kw_30 kw_4 [.int 0, .null, .int 0] (fun j hj => by rcases (show j = 0 ∨ j = 1 ∨ j = 2 by omega) with rfl | rfl | rfl <;> rfl) (Nat.le_of_ble_eq_true rfl) (Nat.le_of_ble_eq_true rfl) dX2_init_15 (fun ad2 dm2 ct2 H hW hN2 hS => ?_)
  have kO : ct2 (0, 0) = _ := (hN2.1 _ (by decide)).2.trans kO
  have rO : ad2 (0, 0) = _ := (hN2.1 _ (by decide)).1.trans rO
  have mO : dm2 (0, 0) := (hN2.2.2 _).mpr (Or.inr mO)
  have kP : ct2 (0, 1) = _ := (hN2.1 _ (by decide)).2.trans kP
  have rP : ad2 (0, 1) = _ := (hN2.1 _ (by decide)).1.trans rP
  have mP : dm2 (0, 1) := (hN2.2.2 _).mpr (Or.inr mP)
  have hn : ∀ z : Lb, z.1 < 7 → z ≠ (0, 0) → z ≠ (0, 1) → z ≠ (0, 2) → ¬ dm2 z := fun z h7 hO hP hL q => ((hN2.2.2 _).mp q).elim hL (hn z h7 hO hP)
  have hfr : ∀ z : Lb, 7 ≤ z.1 → ad2 z = ad z ∧ ct2 z = ct z ∧ (dm2 z ↔ dm z) := fun z h7 => by
    have h := hfr z h7
    have ne : z ≠ (0, 2) := by rintro rfl; simp at h7
    exact ⟨(hN2.1 z ne).1.trans h.1, (hN2.1 z ne).2.trans h.2.1, (hN2.2.2 z).trans ⟨fun q => q.elim (fun e => absurd e ne) h.2.2.mp, fun q => Or.inr (h.2.2.mpr q)⟩⟩
  have kL : ct2 (0, 2) = _ := hN2.2.1
  have rL : ad2 (0, 2) = ad2 (0, 2) := rfl
  have mL : dm2 (0, 2) := (hN2.2.2 _).mpr (Or.inl rfl)
  refine lv_dup hx hb dX2_init_18 rfl ?_
  refine kc_I 0 (c_Jx4a65c_init_da8c8 l G A ad2 dm2 ct2 mL kL (hn _ (by decide) (by decide) (by decide) (by decide))) (As := []) rfl F hE hW hS kw_31 kw_32 kw_4 kw_33 rfl (by decide +kernel) rfl ⟨rfl, rfl⟩ ⟨(Nat.le_of_ble_eq_true rfl), (Nat.le_of_ble_eq_true rfl)⟩ hl.1 rfl (Nat.le_of_ble_eq_true rfl) dX2_init_19 ⟨(Nat.le_of_ble_eq_true rfl), (Nat.le_of_ble_eq_true rfl)⟩ (fun _ _ _ _ _ h => h.elim) (fun v w' H locs hp hW hS => ?_)
  obtain ⟨ct2q, rfl, rfl, hL, hfL⟩ := hp
  have hLc : ct2q (0, 2) = LO (nI 0) G.2.2.1 0 := by
    rcases hL.2 with ⟨-, -, -, h⟩ | ⟨q0, -⟩
    · exact h
    · exact absurd q0 (hn _ (by decide) (by decide) (by decide) (by decide))
  have kO : ct2q (0, 0) = _ := (hfL _ (by decide)).trans kO
  have kP : ct2q (0, 1) = _ := (hfL _ (by decide)).trans kP
  have kL : ct2q (0, 2) = _ := hLc
  have hfr : ∀ z : Lb, 7 ≤ z.1 → ad2 z = ad z ∧ ct2q z = ct z ∧ (dm2 z ↔ dm z) := fun z h7 => by
    have h := hfr z h7
    exact ⟨h.1, (hfL z (by rintro rfl; simp at h7)).trans h.2.1, h.2.2⟩
  refine kpF F hE hW hS hnm (0, 0) mO rO kO rfl inA_X2 tyX2 tyX2_ok nmX2 1 (by decide) kw_106 rfl rfl rfl rfl (Nat.le_of_ble_eq_true rfl) dX2_init_22 (fun ct2p H locs hW hc hf hS => ?_)
  have kO : ct2p (0, 0) = _ := hc
  have kP : ct2p (0, 1) = _ := (hf _ (by decide)).trans kP
  have kL : ct2p (0, 2) = _ := (hf _ (by decide)).trans kL
  have hfr : ∀ z : Lb, 7 ≤ z.1 → ad2 z = ad z ∧ ct2p z = ct z ∧ (dm2 z ↔ dm z) := fun z h7 => by
    have h := hfr z h7
    exact ⟨h.1, (hf z (by rintro rfl; simp at h7)).trans h.2.1, h.2.2⟩
  refine lv_aload_n hx hb dX2_init_25 rfl (lv_at hl 0 rfl) ?_
  refine lv_bipush (v := nI 20) hx hb dX2_init_26 (by decide) ?_
  refine nq 3 F hE hW hS (0, 4) (hn _ (by decide) (by decide) (by decide) (by decide)) kw_55 kn_56 rfl 20 rfl (by decide) (by decide) (Nat.le_of_ble_eq_true rfl) (Nat.le_of_ble_eq_true rfl) dX2_init_28 (fun ad3 dm3 ct3 H hW hN3 hS => ?_)
  have kO : ct3 (0, 0) = _ := (hN3.1 _ (by decide)).2.trans kO
  have rO : ad3 (0, 0) = _ := (hN3.1 _ (by decide)).1.trans rO
  have mO : dm3 (0, 0) := (hN3.2.2 _).mpr (Or.inr mO)
  have kP : ct3 (0, 1) = _ := (hN3.1 _ (by decide)).2.trans kP
  have rP : ad3 (0, 1) = _ := (hN3.1 _ (by decide)).1.trans rP
  have mP : dm3 (0, 1) := (hN3.2.2 _).mpr (Or.inr mP)
  have kL : ct3 (0, 2) = _ := (hN3.1 _ (by decide)).2.trans kL
  have rL : ad3 (0, 2) = _ := (hN3.1 _ (by decide)).1.trans rL
  have mL : dm3 (0, 2) := (hN3.2.2 _).mpr (Or.inr mL)
  have hn : ∀ z : Lb, z.1 < 7 → z ≠ (0, 0) → z ≠ (0, 1) → z ≠ (0, 2) → z ≠ (0, 4) → ¬ dm3 z := fun z h7 hO hP hL hC q => ((hN3.2.2 _).mp q).elim hC (hn z h7 hO hP hL)
  have hfr : ∀ z : Lb, 7 ≤ z.1 → ad3 z = ad z ∧ ct3 z = ct z ∧ (dm3 z ↔ dm z) := fun z h7 => by
    have h := hfr z h7
    have ne : z ≠ (0, 4) := by rintro rfl; simp at h7
    exact ⟨(hN3.1 z ne).1.trans h.1, (hN3.1 z ne).2.trans h.2.1, (hN3.2.2 z).trans ⟨fun q => q.elim (fun e => absurd e ne) h.2.2.mp, fun q => Or.inr (h.2.2.mpr q)⟩⟩
  have kC : ct3 (0, 4) = _ := hN3.2.1
  have rC : ad3 (0, 4) = ad3 (0, 4) := rfl
  have mC : dm3 (0, 4) := (hN3.2.2 _).mpr (Or.inl rfl)
  refine kpF F hE hW hS hnm (0, 0) mO rO kO rfl inA_X2 tyX2 tyX2_ok nmX2 2 (by decide) kw_107 rfl rfl rfl rfl (Nat.le_of_ble_eq_true rfl) dX2_init_31 (fun ct3p H locs hW hc hf hS => ?_)
  have kO : ct3p (0, 0) = _ := hc
  have kP : ct3p (0, 1) = _ := (hf _ (by decide)).trans kP
  have kL : ct3p (0, 2) = _ := (hf _ (by decide)).trans kL
  have kC : ct3p (0, 4) = _ := (hf _ (by decide)).trans kC
  have hfr : ∀ z : Lb, 7 ≤ z.1 → ad3 z = ad z ∧ ct3p z = ct z ∧ (dm3 z ↔ dm z) := fun z h7 => by
    have h := hfr z h7
    exact ⟨h.1, (hf z (by rintro rfl; simp at h7)).trans h.2.1, h.2.2⟩
  refine lv_aload_n hx hb dX2_init_34 rfl (lv_at hl 0 rfl) ?_
  refine no (ci := 2) F hE hW hS (1, 0) (hn _ (by decide) (by decide) (by decide) (by decide) (by decide)) rfl inA_X1 tyX1 tyX1_ok kw_27 kw_57 kw_5 [.int 0, .int 0, .int 0, .null, .null, .null, .int 0, .int 0, .null, .int 0, .int 0] (fun j hj => by rcases (show j = 0 ∨ j = 1 ∨ j = 2 ∨ j = 3 ∨ j = 4 ∨ j = 5 ∨ j = 6 ∨ j = 7 ∨ j = 8 ∨ j = 9 ∨ j = 10 by omega) with rfl | rfl | rfl | rfl | rfl | rfl | rfl | rfl | rfl | rfl | rfl <;> rfl) (Nat.le_of_ble_eq_true rfl) (Nat.le_of_ble_eq_true rfl) dX2_init_35 (fun ad4 dm4 ct4 H hW hN4 hS => ?_)
  have kO : ct4 (0, 0) = _ := (hN4.1 _ (by decide)).2.trans kO
  have rO : ad4 (0, 0) = _ := (hN4.1 _ (by decide)).1.trans rO
  have mO : dm4 (0, 0) := (hN4.2.2 _).mpr (Or.inr mO)
  have kP : ct4 (0, 1) = _ := (hN4.1 _ (by decide)).2.trans kP
  have rP : ad4 (0, 1) = _ := (hN4.1 _ (by decide)).1.trans rP
  have mP : dm4 (0, 1) := (hN4.2.2 _).mpr (Or.inr mP)
  have kL : ct4 (0, 2) = _ := (hN4.1 _ (by decide)).2.trans kL
  have rL : ad4 (0, 2) = _ := (hN4.1 _ (by decide)).1.trans rL
  have mL : dm4 (0, 2) := (hN4.2.2 _).mpr (Or.inr mL)
  have kC : ct4 (0, 4) = _ := (hN4.1 _ (by decide)).2.trans kC
  have rC : ad4 (0, 4) = _ := (hN4.1 _ (by decide)).1.trans rC
  have mC : dm4 (0, 4) := (hN4.2.2 _).mpr (Or.inr mC)
  have hn : ∀ z : Lb, z.1 < 7 → z ≠ (0, 0) → z ≠ (0, 1) → z ≠ (0, 2) → z ≠ (0, 4) → z ≠ (1, 0) → ¬ dm4 z := fun z h7 hO hP hL hC hG q => ((hN4.2.2 _).mp q).elim hG (hn z h7 hO hP hL hC)
  have hfr : ∀ z : Lb, 7 ≤ z.1 → ad4 z = ad z ∧ ct4 z = ct z ∧ (dm4 z ↔ dm z) := fun z h7 => by
    have h := hfr z h7
    have ne : z ≠ (1, 0) := by rintro rfl; simp at h7
    exact ⟨(hN4.1 z ne).1.trans h.1, (hN4.1 z ne).2.trans h.2.1, (hN4.2.2 z).trans ⟨fun q => q.elim (fun e => absurd e ne) h.2.2.mp, fun q => Or.inr (h.2.2.mpr q)⟩⟩
  have kG : ct4 (1, 0) = _ := hN4.2.1
  have rG : ad4 (1, 0) = ad4 (1, 0) := rfl
  have mG : dm4 (1, 0) := (hN4.2.2 _).mpr (Or.inl rfl)
  refine lv_dup hx hb dX2_init_38 rfl ?_
  refine lv_iconst (v := nI 0) hx hb dX2_init_39 (by decide) ?_
  refine lv_iconst (v := nI 0) hx hb dX2_init_40 (by decide) ?_
  refine lv_iconst (v := nI 0) hx hb dX2_init_41 (by decide) ?_
  refine lv_sipush (v := nI 200) hx hb dX2_init_42 (by decide) ?_
  refine kc_I 4 (c_X1_init l G A ad4 dm4 ct4 0 0 0 200 mG kG (hn _ (by decide) (by decide) (by decide) (by decide) (by decide) (by decide)) (hn _ (by decide) (by decide) (by decide) (by decide) (by decide) (by decide)) (hn _ (by decide) (by decide) (by decide) (by decide) (by decide) (by decide))) (As := [.int (nI 0), .int (nI 0), .int (nI 0), .int (nI 200)]) rfl F hE hW hS kw_58 kw_59 kw_5 kw_60 rfl (by decide +kernel) rfl ⟨rfl, rfl⟩ ⟨(Nat.le_of_ble_eq_true rfl), (Nat.le_of_ble_eq_true rfl)⟩ hl.1 rfl (Nat.le_of_ble_eq_true rfl) dX2_init_45 ⟨(Nat.le_of_ble_eq_true rfl), (Nat.le_of_ble_eq_true rfl)⟩ (fun _ _ _ _ _ h => h.elim) (fun v w' H locs hp hW hS => ?_)
  obtain ⟨rfl, ad5, dm5, ct5, rfl, hX, ha5, hPm⟩ := hp
  have xO := hX (0, 0) (Or.inl rfl)
  have kO : ct5 (0, 0) = _ := xO.2.1.trans kO
  have rO : ad5 (0, 0) = _ := xO.1.trans rO
  have mO : dm5 (0, 0) := xO.2.2.mpr mO
  have xP := hX (0, 1) (Or.inl rfl)
  have kP : ct5 (0, 1) = _ := xP.2.1.trans kP
  have rP : ad5 (0, 1) = _ := xP.1.trans rP
  have mP : dm5 (0, 1) := xP.2.2.mpr mP
  have xL := hX (0, 2) (Or.inl rfl)
  have kL : ct5 (0, 2) = _ := xL.2.1.trans kL
  have rL : ad5 (0, 2) = _ := xL.1.trans rL
  have mL : dm5 (0, 2) := xL.2.2.mpr mL
  have xC := hX (0, 4) (Or.inl rfl)
  have kC : ct5 (0, 4) = _ := xC.2.1.trans kC
  have rC : ad5 (0, 4) = _ := xC.1.trans rC
  have mC : dm5 (0, 4) := xC.2.2.mpr mC
  have hn5 : ∀ z : Lb, (z.1 = 0 ∨ 4 < z.1 ∨ z.2 ≠ 0) → z.1 < 7 → z ≠ (0, 0) → z ≠ (0, 1) → z ≠ (0, 2) → z ≠ (0, 4) → ¬ dm5 z := fun z hz h7 hO hP hL hC q => hn z h7 hO hP hL hC (by rintro rfl; simp at hz) ((hX z hz).2.2.mp q)
  have hfr : ∀ z : Lb, 7 ≤ z.1 → ad5 z = ad z ∧ ct5 z = ct z ∧ (dm5 z ↔ dm z) := fun z h7 => by
    have h := hfr z h7
    have h9 := hX z (Or.inr (Or.inl (by omega)))
    exact ⟨h9.1.trans h.1, h9.2.1.trans h.2.1, h9.2.2.trans h.2.2⟩
  refine kpF F hE hW hS hnm (0, 0) mO rO kO rfl inA_X2 tyX2 tyX2_ok nmX2 3 (by decide) kw_108 rfl rfl rfl rfl (Nat.le_of_ble_eq_true rfl) dX2_init_48 (fun ct5p H locs hW hc hf hS => ?_)
  have kO : ct5p (0, 0) = _ := hc
  have kP : ct5p (0, 1) = _ := (hf _ (by decide)).trans kP
  have kL : ct5p (0, 2) = _ := (hf _ (by decide)).trans kL
  have kC : ct5p (0, 4) = _ := (hf _ (by decide)).trans kC
  have hfr : ∀ z : Lb, 7 ≤ z.1 → ad5 z = ad z ∧ ct5p z = ct z ∧ (dm5 z ↔ dm z) := fun z h7 => by
    have h := hfr z h7
    exact ⟨h.1, (hf z (by rintro rfl; simp at h7)).trans h.2.1, h.2.2⟩
  have hPm := hPm.keep hf (Or.inl rfl)
  refine lv_aload_n hx hb dX2_init_51 rfl (lv_at hl 0 rfl) ?_
  refine kg F hE hW (0, 0) mO rO kO rfl inA_X2 0 (by decide) kw_105 (v := .ref (ad1 (0, 1))) rfl dX2_init_52 ?_
  refine lv_iconst (v := nI 0) hx hb dX2_init_55 (by decide) ?_
  refine lv_aload_n hx hb dX2_init_56 rfl (lv_at hl 0 rfl) ?_
  refine kg F hE hW (0, 0) mO rO kO rfl inA_X2 3 (by decide) kw_108 (v := .ref (ad4 (1, 0))) rfl dX2_init_57 ?_
  refine ks_a 2 (r := (RX1, TX1, 11)) F hE hW hS (0, 1) mP rP rfl kP (1, 0) hPm.1.1 ha5 hPm.2.1 rfl 0 rfl (by decide) (by decide) dX2_init_60 (fun ct6 H locs hW hc hf hS => ?_)
  have kO : ct6 (0, 0) = _ := (hf _ (by decide)).trans kO
  have kP : ct6 (0, 1) = _ := hc
  have kL : ct6 (0, 2) = _ := (hf _ (by decide)).trans kL
  have kC : ct6 (0, 4) = _ := (hf _ (by decide)).trans kC
  have hfr : ∀ z : Lb, 7 ≤ z.1 → ad5 z = ad z ∧ ct6 z = ct z ∧ (dm5 z ↔ dm z) := fun z h7 => by
    have h := hfr z h7
    exact ⟨h.1, (hf z (by rintro rfl; simp at h7)).trans h.2.1, h.2.2⟩
  have hPm := hPm.keep hf (Or.inl rfl)
  refine lv_aload_n hx hb dX2_init_61 rfl (lv_at hl 0 rfl) ?_
  refine lv_aload_n hx hb dX2_init_62 rfl (lv_at hl 0 rfl) ?_
  refine kg F hE hW (0, 0) mO rO kO rfl inA_X2 3 (by decide) kw_108 (v := .ref (ad4 (1, 0))) rfl dX2_init_63 ?_
  refine kp F hE hW hS (0, 0) mO rO kO rfl inA_X2 tyX2 tyX2_ok nmX2 4 (by decide) kw_109 rfl rfl rfl (Nat.le_of_ble_eq_true rfl) dX2_init_66 (fun ct7 H locs hW hc hf hS => ?_)
  have kO : ct7 (0, 0) = _ := hc
  have kP : ct7 (0, 1) = _ := (hf _ (by decide)).trans kP
  have kL : ct7 (0, 2) = _ := (hf _ (by decide)).trans kL
  have kC : ct7 (0, 4) = _ := (hf _ (by decide)).trans kC
  have hfr : ∀ z : Lb, 7 ≤ z.1 → ad5 z = ad z ∧ ct7 z = ct z ∧ (dm5 z ↔ dm z) := fun z h7 => by
    have h := hfr z h7
    exact ⟨h.1, (hf z (by rintro rfl; simp at h7)).trans h.2.1, h.2.2⟩
  have hPm := hPm.keep hf (Or.inl rfl)
  have hlv : ∀ n, va_up (fun _ => false) 0 true n = true → n = 0 := by
    intro n h
    by_cases e : n = 0
    · exact e
    · rw [va_up_ne _ _ e] at h; cases h
  have hR : HKF G ad5 dm5 ct7 (va_up (fun _ => false) 0 true) (va_up (fun _ => 0) 0 0) (va_up (fun _ => 0) 0 0) (va_up (fun _ => 0) 0 200) (va_up (fun _ => some 0) 0 none) (va_up (fun _ => 0) 0 0) (fun _ => 0) (fun _ => 0) (va_up (fun _ => some 0) 0 none) 0 0 (fun _ => 0) 0 0 (fun _ => false) (fun _ => 0) (fun _ => 1) (fun _ => 0) 0 1 := by
    refine ⟨⟨mO, mP, mC⟩, kO.trans ?_, kP.trans ?_, kC.trans ?_, ⟨nI 0, 0, fun _ => none, ⟨mL, Or.inl ⟨hn5 _ (Or.inl rfl) (by decide) (by decide) (by decide) (by decide) (by decide), rfl, rfl, kL⟩⟩, fun j hj => absurd hj (Nat.not_lt_zero _)⟩, ⟨fun c hc => absurd hc (Nat.not_lt_zero _), fun c _ => hn5 _ (Or.inr (Or.inl (by show 4 < 5; decide))) (by show 5 < 7; decide) (lb_ne (by decide)) (lb_ne (by decide)) (lb_ne (by decide)) (lb_ne (by decide))⟩, fun n hn9 => ?_, fun n hn9 k k1 k2 => ?_, hn5 _ (Or.inr (Or.inl (by decide))) (by decide) (by decide) (by decide) (by decide) (by decide)⟩
    · simp only [List.set, HO, rP, rL, rC, ha5]; rfl
    · congr 7
      funext n
      by_cases e : n = 0
      · subst e; rw [va_up_self, pfA_t (va_up_self _ _ _), ha5]
      · rw [va_up_ne _ _ e, pfA_f (va_up_ne _ _ e)]
    · congr 7
    · obtain rfl := hlv n hn9
      exact ⟨fun _ => 0, fun _ => 0, fun _ => none, 0, hPm, fun k hk => absurd hk (Nat.not_lt_zero _), fun e h => by cases h⟩
    · have e : n ≠ 0 := by rintro rfl; cases hn9
      exact hn5 _ (Or.inr (Or.inr e)) (by show k < 7; omega) (lb_ne (by omega)) (lb_ne (by omega)) (lb_ne (by omega)) (lb_ne (by omega))
  exact kr_v F hr hlk hE hW hS (Nat.le_of_ble_eq_true rfl) (Nat.le_of_ble_eq_true rfl) dX2_init_69 (⟨rfl, ad5, dm5, ct7, rfl, ⟨hfr, rO⟩, hR⟩)
