/-! THE CLAIM OUT OF ONE WALK OF THE LAW'S BODY. Your part is whole_start (and what it stands on); all else here is the same for every law, but numbers. -/
def R_law : String := "HighkeyLaw"
def lw_P (b : Addr) (xs : List Int32) (args : Array Value) (s : State) : Prop := args = #[.ref b] ∧ s.IntsAt b xs ∧ xs.length ≤ 1536 ∧ (Jvm.Cond.and given_1 narrow_1).before args s = true
def lw_Q (_ : Array Value) (s : State) (o : Outcome) (t : State) : Prop := o = .returned (some (.int 1)) ∧ Framed s o t [] 601024 7293034
def lw_Z (below : List Frame) (a : Array Value) (s : State) : State → Prop := fun t => ∃ o, t.status = .running ∧ Ended t below o ∧ lw_Q a s o t
/-- the law's own end, with 1 on the stack, nothing written that was there before, its room as the claim has it -/
theorem lw_ret {p : Program} {l : Launch} {e : Env} {s : State} {m : MethodId} {below : List Frame} {meth : Method} {c : Code} {b : Nat} (hx : p.tables.exec = Jvm.exec) (hb : c.code = code) (hr : meth.sig.returnType = ret) (hlocks : meth.locks = false) {pc : Nat} {H : Heap} {ls : Array Slot} (hdg : decode code pc = .ok (.ireturn, 1)) : W p l e room_1 s m #[Value.ref b] below meth c H [] 601024 7293034 (lw_Z below #[Value.ref b] s) (F0 m pc ls [.int 1]) := by
  intro T hT X
  obtain ⟨fs, hret, hrun, hended, hW, hframe⟩ := X.leave (v := some (.int 1)) (hlocks := hlocks) (fun h => by rw [hr] at h; cases h)
  have hmeth' : T.vm.method? m = some meth := X.method'
  refine ⟨T.setFrames fs, ?_, .returned (some (.int 1)), hrun, hended, rfl, ⟨_, rfl⟩, hW, hframe⟩
  jvm_step X.here [X.here.top, hx, hb, hdg, hmeth', hr, ret, narrow_b1]
  (try refine ⟨rfl, ?_⟩); (try refine ⟨rfl, ?_⟩)
  first | (intro acts; rw [hret _ acts rfl rfl rfl]) | rw [hret _ _ rfl rfl rfl]
  exact Steps.refl _
/-- what holds at the law's entry: the machine, the code, the tables' words (any of lw_tbl by 'hts w (by decide +kernel)'), the script of L ints xs at the cell b, what the Statement gives of the start (any of its parts by flat_of_before) -/
def lw_At (p : Program) (s : State) (m : MethodId) (meth : Method) (c : Code) (b L : Nat) (xs : Nat → Int32) : Prop :=
  p.tables.exec = Jvm.exec ∧ c.code = code ∧ meth.sig.returnType = ret ∧ c.maxLocals = 7 ∧ s.vm.findClass R_law = some m.cls ∧ (∀ w ∈ lw_tbl, w.before #[Value.ref b] s = true) ∧ va_X b L xs s s.heap ∧ b < s.heap.size ∧ meth.locks = false ∧ (Jvm.Cond.and given_1 narrow_1).before #[Value.ref b] s = true
set_option maxRecDepth 100000 in
set_option maxHeartbeats 4000000 in
theorem whole_start {p : Program} {e : Env} {s : State} {m : MethodId} {below : List Frame} {meth : Method} {c : Code} (l : Launch) (hflags : l.flags = flags0) {b L : Nat} {xs : Nat → Int32} (hL : L ≤ 1536) (C0 : lw_At p s m meth c b L xs) : W p l e room_1 s m #[Value.ref b] below meth c s.heap [] 0 0 (lw_Z below #[Value.ref b] s) (entryFrame m ([Value.ref b] : List Value).toArray 7) := by
  obtain ⟨hx, hb, hr, hml, hown, hts, hXs, hbl, hlocks, hgv⟩ := id C0
  have hst : l.stackTraces = false := by unfold Launch.stackTraces; rw [hflags]; decide
  obtain ⟨G, hE⟩ := st_VE hts hgv
  have hbA : ¬ (fun q : Nat => s.heap.size ≤ q) b := Nat.not_le.mpr hbl
  generalize hAA : (fun q : Nat => s.heap.size ≤ q) = A at hE hbA
  have hAd : ∀ q, A q → s.heap.size ≤ q := by rw [← hAA]; exact fun q h => h
  have F : Fx p m c cL_law 7 s #[Value.ref b] RL := ⟨hx, hb, hml, hown, fun w hw => hts w (al_sub hw)⟩
  have hb : c.code = cL_law := hb
  have hS : va_S A s.heap s.heap [] := va_S.rf
  have hW : wd G A (fun _ => 0, fun _ => False, fun _ => .inr (0, [])) s.heap := ⟨fun _ h => h.elim, fun _ _ h => h.elim, fun _ h => h.elim⟩
  have hl := lv_entry ([.ref b]) (n := 7) (Nat.le_of_ble_eq_true rfl)
  rw [lg_entry_eq]
  generalize (lg_sl ([.ref b]) ++ List.replicate (7 - (lg_sl ([.ref b])).length) Slot.unset).toArray = ls at hl ⊢
  have hl : lv_has ls 7 [(0, .ref b)] := hl
  refine no (ci := 3) F hE hW hS (0, 0) (fun h => h) rfl inA_X2 tyX2 tyX2_ok kw_20 kw_21 kw_1 [.null, .null, .null, .null, .null, .int 0, .int 0, .int 0] (fun j hj => by rcases (show j = 0 ∨ j = 1 ∨ j = 2 ∨ j = 3 ∨ j = 4 ∨ j = 5 ∨ j = 6 ∨ j = 7 by omega) with rfl | rfl | rfl | rfl | rfl | rfl | rfl | rfl <;> rfl) (Nat.le_of_ble_eq_true rfl) (Nat.le_of_ble_eq_true rfl) dL_law_0 (fun ad1 dm1 ct1 H hW hN1 hS => ?_)
  refine lv_dup hx hb dL_law_3 rfl ?_
  refine kc_I 0 (c_X2_init l G A ad1 dm1 ct1 ((hN1.2.2 _).mpr (Or.inl rfl)) hN1.2.1 (fun z _ hz q => ((hN1.2.2 z).mp q).elim hz (fun h => h))) (As := []) rfl F hE hW hS kw_22 kw_23 kw_1 kw_24 rfl (by decide +kernel) rfl ⟨rfl, rfl⟩ ⟨(Nat.le_of_ble_eq_true rfl), (Nat.le_of_ble_eq_true rfl)⟩ hl.1 rfl (Nat.le_of_ble_eq_true rfl) dL_law_4 ⟨(Nat.le_of_ble_eq_true rfl), (Nat.le_of_ble_eq_true rfl)⟩ (fun _ _ _ _ _ h => h.elim) (fun v w' H locs hp hW hS => ?_)
  obtain ⟨rfl, ad2, dm2, ct2, rfl, hF2, hK2⟩ := hp
  have hd2 : ∀ z : Lb, 7 ≤ z.1 → ¬ dm2 z := fun z hz q => ((hN1.2.2 z).mp ((hF2.1 z hz).2.2.mp q)).elim (by rintro rfl; simp at hz) (fun h => h)
  refine lv_astore_n (lv' := [(1, .ref (ad1 (0, 0))), (0, .ref b)]) hx hb dL_law_7 rfl hl (by decide) rfl (fun ls hl => ?_)
  refine no (ci := 4) F hE hW hS (10, 0) (hd2 _ (by decide)) rfl inA_X3 tyX3 tyX3_ok kw_596 kw_597 kw_6 [.int 0, .null, .null, .null, .null, .null, .null, .null, .null, .null, .int 0, .int 0, .null, .int 0, .int 0, .null, .null, .null, .null, .int 0] (fun j hj => by rcases (show j = 0 ∨ j = 1 ∨ j = 2 ∨ j = 3 ∨ j = 4 ∨ j = 5 ∨ j = 6 ∨ j = 7 ∨ j = 8 ∨ j = 9 ∨ j = 10 ∨ j = 11 ∨ j = 12 ∨ j = 13 ∨ j = 14 ∨ j = 15 ∨ j = 16 ∨ j = 17 ∨ j = 18 ∨ j = 19 by omega) with rfl | rfl | rfl | rfl | rfl | rfl | rfl | rfl | rfl | rfl | rfl | rfl | rfl | rfl | rfl | rfl | rfl | rfl | rfl | rfl <;> rfl) (Nat.le_of_ble_eq_true rfl) (Nat.le_of_ble_eq_true rfl) dL_law_8 (fun ad3 dm3 ct3 H hW hN3 hS => ?_)
  refine lv_dup hx hb dL_law_11 rfl ?_
  refine kc_I 0 (c_X3_init l G A ad3 dm3 ct3 ((hN3.2.2 _).mpr (Or.inl rfl)) hN3.2.1 (fun k h0 _ q => ((hN3.2.2 _).mp q).elim (fun e => absurd (congrArg Prod.snd e) (by show ¬ k = 0; omega)) (hd2 _ (by show 7 ≤ 10; decide)))) (As := []) rfl F hE hW hS kw_598 kw_599 kw_6 kw_600 rfl (by decide +kernel) rfl ⟨rfl, rfl⟩ ⟨(Nat.le_of_ble_eq_true rfl), (Nat.le_of_ble_eq_true rfl)⟩ hl.1 rfl (Nat.le_of_ble_eq_true rfl) dL_law_12 ⟨(Nat.le_of_ble_eq_true rfl), (Nat.le_of_ble_eq_true rfl)⟩ (fun _ _ _ _ _ h => h.elim) (fun v w' H locs hp hW hS => ?_)
  obtain ⟨rfl, ad4, dm4, ct4, rfl, hNM, ha4, hM4⟩ := hp
  have hd4 : ∀ z : Lb, 7 ≤ z.1 → z.1 ≠ 10 → ¬ dm4 z := fun z hz h10 q => ((hN3.2.2 z).mp ((hNM z h10).2.2.mp q)).elim (by rintro rfl; exact h10 rfl) (hd2 z hz)
  refine lv_astore_n (lv' := [(2, .ref (ad3 (10, 0))), (1, .ref (ad1 (0, 0))), (0, .ref b)]) hx hb dL_law_15 rfl hl (by decide) rfl (fun ls hl => ?_)
  refine lv_iconst (v := nI 1) hx hb dL_law_16 (by decide) ?_
  refine na 5 .long F hE hW hS (20, 0) (hd4 _ (by decide) (by decide)) kw_834 rfl rfl 1 (1, .inr (.inl (fun _ => 0))) (fun _ => rfl) rfl (by decide) (by decide) (Nat.le_of_ble_eq_true rfl) (Nat.le_of_ble_eq_true rfl) dL_law_17 (fun ad5 dm5 ct5 H hW hN5 hS => ?_)
  refine lv_astore_n (lv' := [(3, .ref (ad5 (20, 0))), (2, .ref (ad3 (10, 0))), (1, .ref (ad1 (0, 0))), (0, .ref b)]) hx hb dL_law_19 rfl hl (by decide) rfl (fun ls hl => ?_)
  refine lv_iconst (v := nI 0) hx hb dL_law_20 (by decide) ?_
  refine lv_istore (lv' := [(4, .int (nI 0)), (3, .ref (ad5 (20, 0))), (2, .ref (ad3 (10, 0))), (1, .ref (ad1 (0, 0))), (0, .ref b)]) hx hb dL_law_21 hl (by decide) rfl (fun ls hl => ?_)
  have k4 : ∀ z : Lb, z.1 ≠ 10 → z ≠ (20, 0) → ad5 z = ad2 z ∧ ct5 z = ct2 z ∧ (dm5 z ↔ dm2 z) := fun z h1 h2 => by
    have hz10 : z ≠ (10, 0) := by rintro rfl; exact h1 rfl
    exact ⟨(hN5.1 z h2).1.trans ((hNM z h1).1.trans (hN3.1 z hz10).1), (hN5.1 z h2).2.trans ((hNM z h1).2.1.trans (hN3.1 z hz10).2), by rw [hN5.2.2, (hNM z h1).2.2, hN3.2.2]; simp [h2, hz10]⟩
  have hK5 : HK G ad5 dm5 ct5 iniS := hK2.far (fun z hz => k4 z (by omega) (by rintro rfl; simp at hz))
  have hM5 : MD G ad5 dm5 ct5 iniS 0 0 := hM4.far (fun k => ⟨(hN5.1 _ (lb_ne (by decide))).1, (hN5.1 _ (lb_ne (by decide))).2, by rw [hN5.2.2]; simp⟩)
  have q00 := k4 (0, 0) (by decide) (by decide)
  have q7 := k4 (7, 0) (by decide) (by decide)
  have hJ : JN G (ad1 (0, 0)) (ad3 (10, 0)) (ad5 (20, 0)) ad5 dm5 ct5 iniS 0 (0 + 1 + 7 + 1 + 14 + 1) (0 + 8 + 1073 + 20 + 14480 + 1) := by
    refine ⟨hK5, ⟨_, _, hM5⟩, iniS_inv, ⟨q00.1.trans hF2.2, (hN5.1 _ (by decide)).1.trans ha4, rfl⟩, ⟨(hN5.2.2 _).mpr (Or.inl rfl), _, hN5.2.1⟩, fun q => hd2 _ (by decide) (q7.2.2.mp q), ?_, ?_⟩
    · have h1 : waits iniS = 0 := rfl
      have h2 : nbS iniS = 1 := rfl
      rw [h1, h2]; decide
    · have h1 : waits iniS = 0 := rfl
      have h2 : nbS iniS = 1 := rfl
      rw [h1, h2]; decide
  refine law_loop F hst hE hXs hbl hbA hL (fun H locs ls cells slots hS hc9 hs9 => ?_) 512 0 _ _ _ _ _ _ _ _ _ (by omega) (Nat.zero_le _) hW hS hJ (lv_sub hl [0, 1, 2, 3, 4] rfl)
  refine va_forget (fun q hq => hAd _ (hS.2.2 q hq)) ?_
  refine W.widen (k := 601024) (n := 7293034) hc9 hs9 ?_
  refine lv_iconst (v := 1) hx hb dL_law_1195 (by decide) ?_
  exact lw_ret hx hb hr hlocks dL_law_1196
set_option maxHeartbeats 4000000 in
theorem lw_walk (l : Launch) (hflags : l.flags = flags0) (b : Addr) (xs : List Int32) : MetFree l x (headSpec (Jvm.Cond.code x code maxLocals ret :: tables_1) room_1) (lw_P b xs) (fun _ _ _ _ _ => True) lw_Q := by
  refine MetFree.of_bodyS (code := code) (maxLocals := maxLocals) (ret := ret) (by decide) ?_ ?_
  · intro args s m h hn
    obtain ⟨meth, c, h1, h2, h3, h4, h5, h6, -, -⟩ := Cond.code_spec hn (atoms_spec (ws := Jvm.Cond.code x code maxLocals ret :: tables_1) h _ List.mem_cons_self)
    exact ⟨meth, c, h1, h2, h3, h4, h5, h6⟩
  · intro p e s m args below meth c s₁ B hml0 hP _
    obtain ⟨rfl, hx, hbd, hgv⟩ := hP
    obtain ⟨scr, harrAt, hlist, hof, hsmall⟩ := hx
    obtain ⟨hcb, hkn, -, -⟩ := State.arrayAt?_spec harrAt
    have hown : s.vm.findClass R_law = some m.cls := findClass_of_methodNamed B.named
    have hts0 : ∀ c ∈ (Jvm.Cond.code x code maxLocals ret :: tables_1), c.before #[Value.ref b] s = true := atoms_spec (ws := Jvm.Cond.code x code maxLocals ret :: tables_1) B.pre
    have hts : ∀ w ∈ lw_tbl, w.before #[Value.ref b] s = true := k2_hts_sels lw_privs (fun w hw => hts0 w (List.mem_cons_of_mem _ hw)) lw_privs_ok
    have hml : c.maxLocals = 7 := B.maxLocals_eq (hts0 _ List.mem_cons_self)
    have X₀ : Stand p l e room_1 s m #[Value.ref b] below meth c s₁ [] 0 0 := Stand.of_body B
    have hh0 : s₁.heap = s.heap := by rw [B.state]; rfl
    have hsz : scr.slots.size = xs.length := by rw [← Array.length_toList, hlist, List.length_map]
    have hval : ∀ j : Nat, j < xs.length → scr.slots[j]? = some (.int (xs.getD j 0)) := fun j hj => by
      rw [← Array.getElem?_toList, hlist]
      simp [hj]
    have hbl : b < s.heap.size := (Array.getElem?_eq_some_iff.mp hcb).1
    have hX : va_X b xs.length (fun j => xs.getD j 0) s s.heap := ⟨scr, hcb, hof, hkn, hsz, hval⟩
    have K : W p l e room_1 s m #[Value.ref b] below meth c s₁.heap [] 0 0 (lw_Z below #[Value.ref b] s) (entryFrame m ([Value.ref b] : List Value).toArray 7) := by
      rw [hh0]
      exact whole_start l hflags hbd ⟨B.exec, B.bytes, B.returns, hml, hown, hts, hX, hbl, B.notSynchronized, hgv⟩
    obtain ⟨t, a1, o, b1, b2, b3⟩ := K s₁ rfl X₀
    exact ⟨t, o, a1, b1, b2, b3⟩
theorem lw_pre_spec {args : Array Value} {s : State} (h : (Jvm.Cond.and given_1 narrow_1).before args s = true) (hr : rest_1_c.before args s = true) : ∃ (b : Addr) (xs : List Int32), lw_P b xs args s := by
  have hs := flat_of_before _ h
  have hq := flat_of_before _ hr
  have hc : (Cond.count 1).before args s = true := hs _ (by decide +kernel)
  have harr : (Cond.arrayOf (.arg 0) .int).before args s = true := hs _ (by decide +kernel)
  have hle : (Cond.le (.length (.arg 0)) (.int 1536)).before args s = true := hs _ (by decide +kernel)
  have hlen : (Cond.isInt (.length (.arg 0))).before args s = true := hq _ (by decide +kernel)
  have hall : (Cond.all (.arg 0) (.isInt (.elem (.arg 0) (.index 0)))).before args s = true := hq _ (by decide +kernel)
  obtain ⟨b, xs, hb, hx⟩ := State.ints_of_pre rfl harr hlen hall
  have hsm : xs.length < 2 ^ 31 := hx.choose_spec.2.2.2
  have hev : (Term.length (.arg 0)).eval args s none [] s = some (.int xs.length.toInt32) := hx.length_eval hb
  have hv := Cond.le_ints hev (show (Term.int 1536).eval args s none [] s = some (.int 1536) from rfl)
  have hd : xs.length.toInt32 ≤ 1536 := by
    simpa [Cond.before, Cond.holds, hv] using hle
  have hN : xs.length ≤ 1536 := (Int32.ofNat_le_ofNat hsm (by decide)).mp (show Int32.ofNat xs.length ≤ Int32.ofNat 1536 from hd)
  exact ⟨b, xs, Cond.one_arg hc (show args[0]? = some (.ref b) from hb), hx, hN, h⟩
theorem lw_comes (l : Launch) (hflags : l.flags = flags0) : Comes l x (Jvm.Cond.code x code maxLocals ret :: tables_1) room_1 (fun tb e args s => Calls_1 tb e args s ∧ rest_1 tb e args s ∧ Pre_1 tb e args s)
    (fun _ _ args s o t => lw_Q args s o t) := by
  intro p e ha hc hk s m args below hf hfit hheap happ hpre
  obtain ⟨b, xs, hP⟩ := lw_pre_spec hpre.2.2 hpre.2.1
  obtain ⟨k, o, h1, h2, h3, hQ⟩ := lw_walk l hflags b xs p e ha hc hk s m args below hf ((Spec.applies_iff_loose hf).mp happ).1 hP trivial
  exact ⟨k, o, h1, h2, h3, hQ⟩
theorem lw_frame {s t : State} {o : Outcome} {args : Array Value} (h : Framed s o t [] 601024 7293034) :
    Framed s o t (fieldLocs frame_1_writes args s ++ arrayLocs frame_1_arrays args s ++ staticLocs frame_1_statics s) 601024 7293034 := h
theorem lw_limb (L : Cond) (hL : ∀ (args : Array Value) (s t : State), L.after args s (.returned (some (.int 1))) t = true) :
    ArmFor flags0 classFile x code maxLocals ret World_1 tables_1 room_1 Calls_1 rest_1 Pre_1
      (fun tb e a s o t => postC L tb e a s o t ∧ Framed s o t (fieldLocs frame_1_writes a s ++ arrayLocs frame_1_arrays a s ++ staticLocs frame_1_statics s) 601024 7293034) := by
  intro l hflags _ _ p e ha hc hk s m args below hf hfit hheap happ hpre
  obtain ⟨k, o, h1, h2, h3, rfl, hF⟩ := lw_comes l hflags p e ha hc hk s m args below hf hfit hheap happ hpre
  exact ⟨k, _, h1, h2, h3, hL args s _, lw_frame hF⟩
theorem i_vc : Claimed_1_1 ∧ Claimed_1_2 := ⟨lw_limb limb_1_1 (fun args s t => by simp [limb_1_1, Cond.after, Cond.holds, Cond.value]), lw_limb limb_1_2 (fun args s t => Cond.after_iff.mpr (by
  first | (rw [show limb_1_2 = Cond.eq .result (.int 1) from rfl, Cond.eq_ints (x := 1) (y := 1) rfl rfl]; simp; done) | (simp [limb_1_2, Cond.value, Term.eval]; done)))⟩
