/-! A page splits. -/
section KV
variable {p : Program} {l : Launch} {e : Env} {R : Room} {s : State} {m : MethodId} {args : Array Value} {below : List Frame} {meth : Method} {c : Code} {H : Heap} {locs : List Loc} {cells slots : Nat} {Q : State → Prop}
variable {cc b : ByteArray} {pc nL n mc ms index : Nat} {ls : Array Slot} {rest st av : List Value} {own C : String} {y : MethodName} {ret : Option FieldType} {rm : Room} {G : GG} {A : Nat → Prop} {w w' : WS} {post : Option Value → WS → Prop} {px : String → Prop}
theorem kc_Va (np : Nat) (hM : CT l y b n ret rm av G A w post px mc ms) (F : Fx p m c cc nL s args own) (hE : VE G A s) (hW : wd G A w H) (hS : va_S A s.heap H locs)
    (x : Lb) (hd : w.2.1 x) {ci : Nat} {fs : List Value} (he : w.2.2 x = .inr (ci, fs)) {a : Nat} (ha : w.1 x = a) {T : u_T} {N : Nat} (hc : vwCl[ci]? = some (C, T, N)) (As : List Value) (hav : av = .ref (w.1 x) :: As)
    (k1 : Cond.methodLink own index y ∈ AL) (k2 : Cond.instanceMethod y ∈ AL) (k3 : Cond.selects C y y ∈ AL) (k4 : Cond.initialized C ∈ AL) (k5 : Cond.code y b n ret ∈ AL)
    (hd2 : y.cls = C ∧ y.cls ≠ "java/lang/invoke/MethodHandle" ∧ y.cls ≠ "java/lang/invoke/VarHandle" ∧ (parseMethodDescriptor y.desc).map (fun d => d.parameters.length) = some np) (hnp : As.length = np)
    (hrm : rm.cells = mc ∧ rm.slots = ms) (hR : rm.frames + 1 ≤ R.frames ∧ 8 + (n + 11) + rm.locals ≤ R.locals) (hls : ls.size = nL) (hst : st = As.reverse ++ .ref a :: rest) (hcat : (rest.map fun v => v.category).sum ≤ 8) (hdg : decode cc pc = .ok (.invokevirtual index, 3)) (hf : cells + mc ≤ R.cells ∧ slots + ms ≤ R.slots)
    (kx : ∀ (E : String) (q9 : Addr) (ce : Cell) (H1 : Heap) (locs1 : List Loc), px E → wd G A w H1 → va_S A s.heap H1 locs1 → H1[q9]? = some ce → ce.vm = .none → s.vm.findClass E = some ce.cls → vx_W p l e R s m args below meth c H1 locs1 (cells + mc) (slots + ms) Q (F0 m pc ls rest) q9)
    (kk : ∀ (v : Option Value) (w' : WS) (H1 : Heap) (locs1 : List Loc), post v w' → wd G A w' H1 → va_S A s.heap H1 locs1 → W p l e R s m args below meth c H1 locs1 (cells + mc) (slots + ms) Q (F0 m (pc + 3) ls (v.toList ++ rest))) :
    W p l e R s m args below meth c H locs cells slots Q (F0 m pc ls st) := by
  subst ha
  exact kc_V np hM F hE hW hS x hd he hc As hav k1 k2 k3 k4 k5 hd2 hnp hrm hR hls hst hcat hdg hf kx kk
end KV
section PN
variable {G : GG} {ad ad1 : Lb → Nat} {dm dm1 : Lb → Prop} {ct ct1 : Lb → va_E} {n m le lo sz hi : Nat} {ri : Option Nat} {de ta : Nat} {kf vf : Nat → Int32} {cf : Nat → Option Nat}
theorem PG.nx (hP : PG G ad dm ct n le lo sz hi ri de ta kf vf cf) (hN : NX m ad dm ct ad1 dm1 ct1) (h : n ≠ m) : PG G ad1 dm1 ct1 n le lo sz hi ri de ta kf vf cf := by
  have k : ∀ j, ad1 (j, n) = ad (j, n) ∧ ct1 (j, n) = ct (j, n) ∧ (dm1 (j, n) ↔ dm (j, n)) := fun j => hN (j, n) (Or.inr (Or.inr h))
  obtain ⟨⟨a1, a2, a3, a4⟩, b1, b2, b3, b4⟩ := hP
  refine ⟨⟨(k 1).2.2.mpr a1, (k 2).2.2.mpr a2, (k 3).2.2.mpr a3, (k 4).2.2.mpr a4⟩, (k 1).2.1.trans (b1.trans ?_), (k 2).2.1.trans b2, (k 3).2.1.trans b3, (k 4).2.1.trans b4⟩
  simp only [pgF, (k 2).1, (k 3).1, (k 4).1]
theorem isPg.nx {r : Option Nat} (hr : isPg ad dm ct r) (hm : ¬ dm (1, m)) (hN : NX m ad dm ct ad1 dm1 ct1) : isPg ad1 dm1 ct1 r := by
  intro v hv
  obtain ⟨k, vs, h1, h2, h3⟩ := hr v hv
  have hk : k ≠ m := by rintro rfl; exact hm h1
  obtain ⟨e1, e2, e3⟩ := hN (1, k) (Or.inr (Or.inr hk))
  exact ⟨k, vs, e3.mpr h1, e1.trans h2, e2.trans h3⟩
end PN
/-- two pages of the world: all else as it was -/
def NX2 (n m : Nat) (ad : Lb → Nat) (dm : Lb → Prop) (ct : Lb → va_E) (ad1 : Lb → Nat) (dm1 : Lb → Prop) (ct1 : Lb → va_E) : Prop :=
  (∀ z : Lb, (z.1 = 0 ∨ 4 < z.1 ∨ (z.2 ≠ n ∧ z.2 ≠ m)) → ad1 z = ad z ∧ ct1 z = ct z ∧ (dm1 z ↔ dm z)) ∧ ∀ k, ad1 (k, n) = ad (k, n) ∧ (dm1 (k, n) ↔ dm (k, n))
theorem NX2.of {n m : Nat} (hne : n ≠ m) {ad ad1 : Lb → Nat} {dm dm1 : Lb → Prop} {ct ct1 ct2 : Lb → va_E} (h1 : NX m ad dm ct ad1 dm1 ct1) (h2 : XP n ct1 ct2) : NX2 n m ad dm ct ad1 dm1 ct2 :=
  ⟨fun z hz => by
    have k1 := h1 z (by rcases hz with h | h | h <;> simp [h])
    exact ⟨k1.1, (h2 z (by rcases hz with h | h | h <;> simp [h])).trans k1.2.1, k1.2.2⟩, fun k => by
    have k1 := h1 (k, n) (Or.inr (Or.inr hne))
    exact ⟨k1.1, k1.2.2⟩⟩
section PRA
variable {p : Program} {l : Launch} {e : Env} {R : Room} {s : State} {m : MethodId} {args : Array Value} {below : List Frame} {meth : Method} {c : Code} {H : Heap} {locs : List Loc} {cells slots : Nat} {Q : State → Prop}
variable {cc : ByteArray} {pc nL index : Nat} {ls : Array Slot} {rest : List Value} {own : String} {G : GG} {A : Nat → Prop} {ad : Lb → Nat} {dm : Lb → Prop} {ct : Lb → va_E}
variable {n le lo sz hi : Nat} {ri : Option Nat} {de ta : Nat} {kf vf : Nat → Int32} {cf : Nat → Option Nat}
theorem pg_sizeA {v : Nat} {a : Nat} (ha : ad (1, n) = a) (F : Fx p m c cc nL s args own) (hE : VE G A s) (hW : wd G A (ad, dm, ct) H) (hS : va_S A s.heap H locs) (hP : PG G ad dm ct n le lo sz hi ri de ta kf vf cf) (hlink : Cond.fieldLink own index "Highkey$Page" "size" "I" ∈ AL) (hdg : decode cc pc = .ok (.putfield index, 3))
    (kk : ∀ (ct1 : Lb → va_E) (H1 : Heap) (locs1 : List Loc), wd G A (ad, dm, ct1) H1 → PG G ad dm ct1 n le lo v hi ri de ta kf vf cf → XP n ct ct1 → va_S A s.heap H1 locs1 → W p l e R s m args below meth c H1 locs1 cells slots Q (F0 m (pc + 3) ls rest)) :
    W p l e R s m args below meth c H locs cells slots Q (F0 m pc ls (.int (nI v) :: .ref a :: rest)) := by
  subst ha
  exact pg_size F hE hW hS hP hlink hdg kk
theorem pg_highA {v : Nat} {a : Nat} (ha : ad (1, n) = a) (F : Fx p m c cc nL s args own) (hE : VE G A s) (hW : wd G A (ad, dm, ct) H) (hS : va_S A s.heap H locs) (hP : PG G ad dm ct n le lo sz hi ri de ta kf vf cf) (hlink : Cond.fieldLink own index "Highkey$Page" "high" "I" ∈ AL) (hdg : decode cc pc = .ok (.putfield index, 3))
    (kk : ∀ (ct1 : Lb → va_E) (H1 : Heap) (locs1 : List Loc), wd G A (ad, dm, ct1) H1 → PG G ad dm ct1 n le lo sz v ri de ta kf vf cf → XP n ct ct1 → va_S A s.heap H1 locs1 → W p l e R s m args below meth c H1 locs1 cells slots Q (F0 m (pc + 3) ls rest)) :
    W p l e R s m args below meth c H locs cells slots Q (F0 m pc ls (.int (nI v) :: .ref a :: rest)) := by
  subst ha
  exact pg_high F hE hW hS hP hlink hdg kk
theorem pg_rightA {v : Option Nat} {vv : Value} (hv : va_rf v = vv) {a : Nat} (ha : ad (1, n) = a) (F : Fx p m c cc nL s args own) (hE : VE G A s) (hW : wd G A (ad, dm, ct) H) (hS : va_S A s.heap H locs) (hP : PG G ad dm ct n le lo sz hi ri de ta kf vf cf) (hlink : Cond.fieldLink own index "Highkey$Page" "right" "LHighkey$Page;" ∈ AL) (hdg : decode cc pc = .ok (.putfield index, 3))
    (kk : ∀ (ct1 : Lb → va_E) (H1 : Heap) (locs1 : List Loc), wd G A (ad, dm, ct1) H1 → PG G ad dm ct1 n le lo sz hi v de ta kf vf cf → XP n ct ct1 → va_S A s.heap H1 locs1 → W p l e R s m args below meth c H1 locs1 cells slots Q (F0 m (pc + 3) ls rest)) :
    W p l e R s m args below meth c H locs cells slots Q (F0 m pc ls (vv :: .ref a :: rest)) := by
  subst ha
  exact pg_right hv F hE hW hS hP hlink hdg kk
theorem pg_deadA  {a : Nat} (ha : ad (1, n) = a) (F : Fx p m c cc nL s args own) (hE : VE G A s) (hW : wd G A (ad, dm, ct) H) (hS : va_S A s.heap H locs) (hP : PG G ad dm ct n le lo sz hi ri de ta kf vf cf) (hlink : Cond.fieldLink own index "Highkey$Page" "dead" "Z" ∈ AL) (hdg : decode cc pc = .ok (.putfield index, 3))
    (kk : ∀ (ct1 : Lb → va_E) (H1 : Heap) (locs1 : List Loc), wd G A (ad, dm, ct1) H1 → PG G ad dm ct1 n le lo sz hi ri 1 ta kf vf cf → XP n ct ct1 → va_S A s.heap H1 locs1 → W p l e R s m args below meth c H1 locs1 cells slots Q (F0 m (pc + 3) ls rest)) :
    W p l e R s m args below meth c H locs cells slots Q (F0 m pc ls (.int (nI 1) :: .ref a :: rest)) := by
  subst ha
  exact pg_dead F hE hW hS hP hlink hdg kk
theorem pg_takA {v : Nat} {a : Nat} (ha : ad (1, n) = a) (F : Fx p m c cc nL s args own) (hE : VE G A s) (hW : wd G A (ad, dm, ct) H) (hS : va_S A s.heap H locs) (hP : PG G ad dm ct n le lo sz hi ri de ta kf vf cf) (hlink : Cond.fieldLink own index "Highkey$Page" "takenOutIn" "I" ∈ AL) (hdg : decode cc pc = .ok (.putfield index, 3))
    (kk : ∀ (ct1 : Lb → va_E) (H1 : Heap) (locs1 : List Loc), wd G A (ad, dm, ct1) H1 → PG G ad dm ct1 n le lo sz hi ri de v kf vf cf → XP n ct ct1 → va_S A s.heap H1 locs1 → W p l e R s m args below meth c H1 locs1 cells slots Q (F0 m (pc + 3) ls rest)) :
    W p l e R s m args below meth c H locs cells slots Q (F0 m pc ls (.int (nI v) :: .ref a :: rest)) := by
  subst ha
  exact pg_tak F hE hW hS hP hlink hdg kk
end PRA
set_option maxRecDepth 100000 in
set_option maxHeartbeats 4000000 in
theorem c_X1_split (l : Launch) (G : GG) (A : Nat → Prop) (ad : Lb → Nat) (dm : Lb → Prop) (ct : Lb → va_E) (n le lo hi : Nat) (ri : Option Nat) (de ta : Nat) (kf vf : Nat → Int32) (cf : Nat → Option Nat) (hP : PG G ad dm ct n le lo 5 hi ri de ta kf vf cf) (m0 lo2 : Nat) (hne : n ≠ m0) (h1 : ¬ dm (1, m0)) (h2 : ¬ dm (2, m0)) (h3 : ¬ dm (3, m0)) (h4 : ¬ dm (4, m0)) (hlo2 : kf 3 = nI lo2) (hk34 : kf 3 < kf 4) (hc3 : isPg ad dm ct (cf 3)) (hc4 : isPg ad dm ct (cf 4)) :
    CT l yX1_split cX1_split 4 (some (FieldType.object "Highkey$Page")) { frames := 2, cells := 4, slots := 26, locals := 47 } [.ref (ad (1, n)), .int (nI m0)] G A (ad, dm, ct) (fun v w' => ∃ ad' dm' ct' kf' vf' cf', w' = (ad', dm', ct') ∧ v = some (.ref (ad' (1, m0))) ∧ NX2 n m0 ad dm ct ad' dm' ct' ∧ PG G ad' dm' ct' n le lo 3 lo2 (some (ad' (1, m0))) de ta kf vf cf ∧ PG G ad' dm' ct' m0 le lo2 2 hi ri 0 0 kf' vf' cf' ∧ (kf' 0 = kf 3 ∧ kf' 1 = kf 4) ∧ (vf' 0 = vf 3 ∧ vf' 1 = vf 4) ∧ (cf' 0 = cf 3 ∧ cf' 1 = cf 4)) (fun _ => False) (4) (26) := by
  refine ct_of (by decide) (Nat.le_of_ble_eq_true rfl) ?_
  intro p e s m below meth c ls F hr hlk hnm hex hE hW hl
  have hx := F.1
  have hb := F.2.1
  have hS : va_S A s.heap s.heap [] := va_S.rf
  have hl : lv_has ls 4 [(0, .ref (ad (1, n))), (1, .int (nI m0))] := hl
  have hc40 := hc4
  have hc30 := hc3
  obtain ⟨a0, ha0⟩ : ∃ a, ad (1, n) = a := ⟨_, rfl⟩
  have hl : lv_has ls 4 [(0, .ref a0), (1, .int (nI m0))] := by rw [← ha0]; exact hl
  refine no (ci := 2) F hE hW hS (1, m0) h1 rfl inA_X1 tyX1 tyX1_ok kw_62 kw_57 kw_5 [.int 0, .int 0, .int 0, .null, .null, .null, .int 0, .int 0, .null, .int 0, .int 0] (fun j hj => by rcases (show j = 0 ∨ j = 1 ∨ j = 2 ∨ j = 3 ∨ j = 4 ∨ j = 5 ∨ j = 6 ∨ j = 7 ∨ j = 8 ∨ j = 9 ∨ j = 10 by omega) with rfl | rfl | rfl | rfl | rfl | rfl | rfl | rfl | rfl | rfl | rfl <;> rfl) (Nat.le_of_ble_eq_true rfl) (Nat.le_of_ble_eq_true rfl) dX1_split_0 (fun ad1 dm1 ct1 H hW hN1 hS => ?_)
  have hx1 := NX.ofN (by decide) (by decide) hN1
  have hP1 := hP.nx hx1 hne
  have hc3 := hc3.nx h1 hx1
  have hc4 := hc4.nx h1 hx1
  have ha1 : ad1 (1, n) = a0 := (hx1 (1, n) (Or.inr (Or.inr hne))).1.trans ha0
  obtain ⟨am, ham⟩ : ∃ a, ad1 (1, m0) = a := ⟨_, rfl⟩
  rw [ham]
  refine lv_dup hx hb dX1_split_3 rfl ?_
  refine lv_iload_n hx hb dX1_split_4 rfl (lv_at hl 1 rfl) ?_
  refine lv_aload_n hx hb dX1_split_5 rfl (lv_at hl 0 rfl) ?_
  refine kg F hE hW (1, n) hP1.1.1 ha1 hP1.2.1 rfl inA_X1 1 (by decide) kw_65 (v := .int (nI le)) rfl dX1_split_6 ?_
  refine lv_aload_n hx hb dX1_split_9 rfl (lv_at hl 0 rfl) ?_
  refine lv_iconst (v := nI 3) hx hb dX1_split_10 (by decide) ?_
  refine kc_Va 1 (c_X1_keyIn l G A ad1 dm1 ct1 n le lo 5 hi ri de ta kf vf cf hP1 (by omega) (nI 3)) F hE hW hS (1, n) hP1.1.1 hP1.2.1 ha1 rfl [.int (nI 3)] rfl kw_203 kw_204 kw_205 kw_5 kw_206 (by decide +kernel) rfl ⟨rfl, rfl⟩ ⟨Nat.le_of_ble_eq_true rfl, Nat.le_of_ble_eq_true rfl⟩ hl.1 rfl (Nat.le_of_ble_eq_true rfl) dX1_split_11 ⟨Nat.le_of_ble_eq_true rfl, Nat.le_of_ble_eq_true rfl⟩ (fun _ _ _ _ _ h => h.elim) (fun v w' H locs hp hW hS => ?_)
  obtain ⟨rfl, ⟨j, hj, hj3, rfl⟩ | ⟨rfl, hno⟩⟩ := hp
  · have hj3 := nI_inj (by omega) (by omega) hj3
    subst hj3
    refine ktop hlo2 ?_
    refine lv_aload_n hx hb dX1_split_14 rfl (lv_at hl 0 rfl) ?_
    refine kg F hE hW (1, n) hP1.1.1 ha1 hP1.2.1 rfl inA_X1 7 (by decide) kw_74 (v := .int (nI hi)) rfl dX1_split_15 ?_
    refine kc_I 4 (c_X1_init l G A ad1 dm1 ct1 m0 le lo2 hi ((hN1.2.2 _).mpr (Or.inl rfl)) hN1.2.1 (fun q => ((hN1.2.2 _).mp q).elim (lb_ne (by decide)) h2) (fun q => ((hN1.2.2 _).mp q).elim (lb_ne (by decide)) h3) (fun q => ((hN1.2.2 _).mp q).elim (lb_ne (by decide)) h4)) (As := [.int (nI m0), .int (nI le), .int (nI lo2), .int (nI hi)]) (by rw [ham]) F hE hW hS kw_207 kw_59 kw_5 kw_60 rfl (by decide +kernel) rfl ⟨rfl, rfl⟩ ⟨(Nat.le_of_ble_eq_true rfl), (Nat.le_of_ble_eq_true rfl)⟩ hl.1 rfl (Nat.le_of_ble_eq_true rfl) dX1_split_18 ⟨(Nat.le_of_ble_eq_true rfl), (Nat.le_of_ble_eq_true rfl)⟩ (fun _ _ _ _ _ h => h.elim) (fun v w' H locs hp hW hS => ?_)
    obtain ⟨rfl, ad2, dm2, ct2, rfl, hN2, ham2, hPm⟩ := hp
    have hx2 := hx1.tr hN2
    have hP2 := hP.nx hx2 hne
    have ha2 : ad2 (1, n) = a0 := (hx2 (1, n) (Or.inr (Or.inr hne))).1.trans ha0
    have ham2 := ham2.trans ham
    have hc3 : isPg ad2 dm2 ct2 (cf 3) := hc30.nx h1 hx2
    have hc4 : isPg ad2 dm2 ct2 (cf 4) := hc40.nx h1 hx2
    have hi1 : lv_has ls 4 [(0, .ref a0), (1, .int (nI m0))] := hl
    refine lv_astore_n (lv' := [(2, .ref am), (0, .ref a0), (1, .int (nI m0))]) hx hb dX1_split_21 rfl hl (by decide) rfl (fun ls hl => ?_)
    refine lv_iconst (v := nI 3) hx hb dX1_split_22 (by decide) ?_
    refine lv_istore_n (lv' := [(3, .int (nI 3)), (2, .ref am), (0, .ref a0), (1, .int (nI m0))]) hx hb dX1_split_23 rfl hl (by decide) rfl (fun ls hl => ?_)
    refine lv_iload_n hx hb dX1_split_24 rfl (lv_at hl 0 rfl) ?_
    refine lv_aload_n hx hb dX1_split_25 rfl (lv_at hl 2 rfl) ?_
    refine kg F hE hW (1, n) hP2.1.1 ha2 hP2.2.1 rfl inA_X1 6 (by decide) kw_72 (v := .int (nI 5)) rfl dX1_split_26 ?_
    refine nc_ge (tgt := 65) hx hb dX1_split_29 (by decide) (by omega) (by omega) (fun c3 => ?_) (fun c3 => ?_)
    · exact absurd c3 (by omega)
    · refine lv_iload_n hx hb dX1_split_32 rfl (lv_at hl 0 rfl) ?_
      refine lv_iconst (v := nI 5) hx hb dX1_split_33 (by decide) ?_
      refine nc_ge (tgt := 65) hx hb dX1_split_34 (by decide) (by omega) (by omega) (fun d3 => ?_) (fun d3 => ?_)
      · exact absurd d3 (by omega)
      · refine lv_aload_n hx hb dX1_split_37 rfl (lv_at hl 1 rfl) ?_
        refine lv_aload_n hx hb dX1_split_38 rfl (lv_at hl 2 rfl) ?_
        refine kg F hE hW (1, n) hP2.1.1 ha2 hP2.2.1 rfl inA_X1 3 (by decide) kw_69 (v := .ref (ad2 (2, n))) rfl dX1_split_39 ?_
        refine lv_iload_n hx hb dX1_split_42 rfl (lv_at hl 0 rfl) ?_
        refine kl_i F hE hW (2, n) hP2.1.2.1 rfl hP2.2.2.1 3 rfl (by omega) (by decide) dX1_split_43 ?_
        refine lv_aload_n hx hb dX1_split_44 rfl (lv_at hl 2 rfl) ?_
        refine kg F hE hW (1, n) hP2.1.1 ha2 hP2.2.1 rfl inA_X1 4 (by decide) kw_70 (v := .ref (ad2 (3, n))) rfl dX1_split_45 ?_
        refine lv_iload_n hx hb dX1_split_48 rfl (lv_at hl 0 rfl) ?_
        refine kl_i F hE hW (3, n) hP2.1.2.2.1 rfl hP2.2.2.2.1 3 rfl (by omega) (by decide) dX1_split_49 ?_
        refine lv_aload_n hx hb dX1_split_50 rfl (lv_at hl 2 rfl) ?_
        refine kg F hE hW (1, n) hP2.1.1 ha2 hP2.2.1 rfl inA_X1 5 (by decide) kw_71 (v := .ref (ad2 (4, n))) rfl dX1_split_51 ?_
        refine lv_iload_n hx hb dX1_split_54 rfl (lv_at hl 0 rfl) ?_
        refine kl_a 2 F hE hW (4, n) hP2.1.2.2.2 rfl rfl hP2.2.2.2.2 3 rfl (by omega) (by decide) (v := va_rf (cf 3)) rfl dX1_split_55 ?_
        refine kc_Va 3 (c_X1_insert l G A ad2 dm2 ct2 m0 le lo2 0 hi none 0 0 (fun _ => 0) (fun _ => 0) (fun _ => none) hPm (by omega) (kf 3) (vf 3) (cf 3) _ rfl hc3 (fun k hk => absurd hk (Nat.not_lt_zero _))) F hE hW hS (1, m0) hPm.1.1 hPm.2.1 ham2 rfl [.int (kf 3), .int (vf 3), va_rf (cf 3)] rfl kw_208 kw_168 kw_169 kw_5 kw_170 (by decide +kernel) rfl ⟨rfl, rfl⟩ ⟨Nat.le_of_ble_eq_true rfl, Nat.le_of_ble_eq_true rfl⟩ hl.1 rfl (Nat.le_of_ble_eq_true rfl) dX1_split_56 ⟨Nat.le_of_ble_eq_true rfl, Nat.le_of_ble_eq_true rfl⟩ (fun _ _ _ _ _ h => h.elim) (fun v w' H locs hp hW hS => ?_)
        obtain ⟨ct3, rfl, rfl, qz, hqz, hq1, hq2, kf1, vf1, cf1, hPm, hXm, hi1, hi2, hi3⟩ := hp
        obtain rfl : qz = 0 := by omega
        have k0 := hi1.2.1
        have v0 := hi2.2.1
        have c0 := hi3.2.1
        have hP2 := hP2.other hXm hne
        have hc3 := hc3.keep hPm hXm
        have hc4 := hc4.keep hPm hXm
        refine lv_iinc (v := nI (3 + 1)) (lv' := [(3, .int (nI (3 + 1))), (2, .ref am), (0, .ref a0), (1, .int (nI m0))]) hx hb dX1_split_59 hl (k := 0) rfl (ki1 _) (by decide) rfl (fun ls hl => ?_)
        refine lv_goto (tgt := 24) hx hb dX1_split_62 (by decide) ?_
        refine lv_iload_n hx hb dX1_split_24 rfl (lv_at hl 0 rfl) ?_
        refine lv_aload_n hx hb dX1_split_25 rfl (lv_at hl 2 rfl) ?_
        refine kg F hE hW (1, n) hP2.1.1 ha2 hP2.2.1 rfl inA_X1 6 (by decide) kw_72 (v := .int (nI 5)) rfl dX1_split_26 ?_
        refine nc_ge (tgt := 65) hx hb dX1_split_29 (by decide) (by omega) (by omega) (fun c4 => ?_) (fun c4 => ?_)
        · exact absurd c4 (by omega)
        · refine lv_iload_n hx hb dX1_split_32 rfl (lv_at hl 0 rfl) ?_
          refine lv_iconst (v := nI 5) hx hb dX1_split_33 (by decide) ?_
          refine nc_ge (tgt := 65) hx hb dX1_split_34 (by decide) (by omega) (by omega) (fun d4 => ?_) (fun d4 => ?_)
          · exact absurd d4 (by omega)
          · refine lv_aload_n hx hb dX1_split_37 rfl (lv_at hl 1 rfl) ?_
            refine lv_aload_n hx hb dX1_split_38 rfl (lv_at hl 2 rfl) ?_
            refine kg F hE hW (1, n) hP2.1.1 ha2 hP2.2.1 rfl inA_X1 3 (by decide) kw_69 (v := .ref (ad2 (2, n))) rfl dX1_split_39 ?_
            refine lv_iload_n hx hb dX1_split_42 rfl (lv_at hl 0 rfl) ?_
            refine kl_i F hE hW (2, n) hP2.1.2.1 rfl hP2.2.2.1 (3 + 1) rfl (by omega) (by decide) dX1_split_43 ?_
            refine lv_aload_n hx hb dX1_split_44 rfl (lv_at hl 2 rfl) ?_
            refine kg F hE hW (1, n) hP2.1.1 ha2 hP2.2.1 rfl inA_X1 4 (by decide) kw_70 (v := .ref (ad2 (3, n))) rfl dX1_split_45 ?_
            refine lv_iload_n hx hb dX1_split_48 rfl (lv_at hl 0 rfl) ?_
            refine kl_i F hE hW (3, n) hP2.1.2.2.1 rfl hP2.2.2.2.1 (3 + 1) rfl (by omega) (by decide) dX1_split_49 ?_
            refine lv_aload_n hx hb dX1_split_50 rfl (lv_at hl 2 rfl) ?_
            refine kg F hE hW (1, n) hP2.1.1 ha2 hP2.2.1 rfl inA_X1 5 (by decide) kw_71 (v := .ref (ad2 (4, n))) rfl dX1_split_51 ?_
            refine lv_iload_n hx hb dX1_split_54 rfl (lv_at hl 0 rfl) ?_
            refine kl_a 2 F hE hW (4, n) hP2.1.2.2.2 rfl rfl hP2.2.2.2.2 (3 + 1) rfl (by omega) (by decide) (v := va_rf (cf (3 + 1))) rfl dX1_split_55 ?_
            refine kc_Va 3 (c_X1_insert l G A ad2 dm2 ct3 m0 le lo2 (0 + 1) hi none 0 0 kf1 vf1 cf1 hPm (by omega) (kf 4) (vf 4) (cf 4) _ rfl hc4 (fun k hk => by obtain rfl : k = 0 := (by omega); rw [c0]; exact hc3)) F hE hW hS (1, m0) hPm.1.1 hPm.2.1 ham2 rfl [.int (kf (3 + 1)), .int (vf (3 + 1)), va_rf (cf (3 + 1))] rfl kw_208 kw_168 kw_169 kw_5 kw_170 (by decide +kernel) rfl ⟨rfl, rfl⟩ ⟨Nat.le_of_ble_eq_true rfl, Nat.le_of_ble_eq_true rfl⟩ hl.1 rfl (Nat.le_of_ble_eq_true rfl) dX1_split_56 ⟨Nat.le_of_ble_eq_true rfl, Nat.le_of_ble_eq_true rfl⟩ (fun _ _ _ _ _ h => h.elim) (fun v w' H locs hp hW hS => ?_)
            obtain ⟨ct4, rfl, rfl, qz, hqz, hq1, hq2, kf2, vf2, cf2, hPm, hXm2, hj1, hj2, hj3⟩ := hp
            obtain rfl : qz = 1 := by
              rcases Nat.lt_or_ge qz 1 with h | h
              · obtain rfl : qz = 0 := by omega
                exact absurd (by rw [k0]; exact hk34) (hq2 (by omega))
              · omega
            have hP2 := hP2.other hXm2 hne
            have hXm := hXm.tr hXm2
            refine lv_iinc (v := nI (3 + 1 + 1)) (lv' := [(3, .int (nI (3 + 1 + 1))), (2, .ref am), (0, .ref a0), (1, .int (nI m0))]) hx hb dX1_split_59 hl (k := 0) rfl (ki1 _) (by decide) rfl (fun ls hl => ?_)
            refine lv_goto (tgt := 24) hx hb dX1_split_62 (by decide) ?_
            refine lv_iload_n hx hb dX1_split_24 rfl (lv_at hl 0 rfl) ?_
            refine lv_aload_n hx hb dX1_split_25 rfl (lv_at hl 2 rfl) ?_
            refine kg F hE hW (1, n) hP2.1.1 ha2 hP2.2.1 rfl inA_X1 6 (by decide) kw_72 (v := .int (nI 5)) rfl dX1_split_26 ?_
            refine nc_ge (tgt := 65) hx hb dX1_split_29 (by decide) (by omega) (by omega) (fun c5 => ?_) (fun c5 => ?_)
            · have hX : XP m0 ct2 ct4 := hXm
              refine lv_aload_n hx hb dX1_split_65 rfl (lv_at hl 1 rfl) ?_
              refine lv_aload_n hx hb dX1_split_66 rfl (lv_at hl 2 rfl) ?_
              refine kg F hE hW (1, n) hP2.1.1 ha2 hP2.2.1 rfl inA_X1 8 (by decide) kw_78 (v := va_rf ri) rfl dX1_split_67 ?_
              refine pg_rightA (v := ri) rfl ham2 F hE hW hS hPm kw_78 dX1_split_70 (fun ct5 H locs hW hPm hX0 hS => ?_)
              have hX := hX.tr hX0
              have hP2 := hP2.other hX0 hne
              refine lv_aload_n hx hb dX1_split_73 rfl (lv_at hl 2 rfl) ?_
              refine lv_iconst (v := nI 3) hx hb dX1_split_74 (by decide) ?_
              refine pg_sizeA ha2 F hE hW hS hP2 kw_72 dX1_split_75 (fun ct6 H locs hW hP2 hX0 hS => ?_)
              have hY := hX0
              have hPm := hPm.other hX0 (Ne.symm hne)
              refine lv_aload_n hx hb dX1_split_78 rfl (lv_at hl 2 rfl) ?_
              refine lv_aload_n hx hb dX1_split_79 rfl (lv_at hl 1 rfl) ?_
              refine kg F hE hW (1, m0) hPm.1.1 ham2 hPm.2.1 rfl inA_X1 2 (by decide) kw_67 (v := .int (nI lo2)) rfl dX1_split_80 ?_
              refine pg_highA ha2 F hE hW hS hP2 kw_74 dX1_split_83 (fun ct7 H locs hW hP2 hX0 hS => ?_)
              have hY := hY.tr hX0
              have hPm := hPm.other hX0 (Ne.symm hne)
              refine lv_aload_n hx hb dX1_split_86 rfl (lv_at hl 2 rfl) ?_
              refine lv_aload_n hx hb dX1_split_87 rfl (lv_at hl 1 rfl) ?_
              refine pg_rightA (v := some am) rfl ha2 F hE hW hS hP2 kw_78 dX1_split_88 (fun ct8 H locs hW hP2 hX0 hS => ?_)
              have hY := hY.tr hX0
              have hPm := hPm.other hX0 (Ne.symm hne)
              refine lv_aload_n hx hb dX1_split_91 rfl (lv_at hl 1 rfl) ?_
              exact kr_a F hr hlk hE hW hS (by decide) (by decide) (Or.inl ⟨_, rfl⟩) (Or.inr ⟨_, rfl⟩) dX1_split_92 (by rw [← ham2] at hP2 ⊢; exact ⟨ad2, dm2, ct8, kf2, vf2, cf2, rfl, rfl, NX2.of hne (hx2.tr (NX.ofX hX)) hY, hP2, hPm, ⟨(hj1.1 0 (by omega)).trans k0, hj1.2.1⟩, ⟨(hj2.1 0 (by omega)).trans v0, hj2.2.1⟩, ⟨(hj3.1 0 (by omega)).trans c0, hj3.2.1⟩⟩)
            · exact absurd c5 (by omega)
  · exact absurd rfl (hno 3 (by omega))
