/-! The law: methods with handlers, called; caught. -/
def CTH (l : Launch) (y : MethodName) (b : ByteArray) (n : Nat) (ret : Option FieldType) (hh : List (Nat × Nat × Nat × Nat)) (rm : Room) (av : List Value) (G : GG) (A : Nat → Prop) (w : WS) (post : Option Value → WS → Prop) (mc ms : Nat) : Prop :=
  vx_Met l y (.codeWith y b n ret hh :: AL) rm (va_Pc av (WR G A w)) (QK G A post) (XK G A w (fun _ => False)) mc ms A
theorem cth_of {l : Launch} {y : MethodName} {b : ByteArray} {n : Nat} {ret : Option FieldType} {hh : List (Nat × Nat × Nat × Nat)} {rm : Room} {av : List Value} {G : GG} {A : Nat → Prop} {w : WS} {post : Option Value → WS → Prop} {mc ms : Nat}
    (hy : plainName y.cls = true) (hn : (lg_sl av).length ≤ n)
    (body : ∀ (p : Program) (e : Env) (s : State) (m : MethodId) (below : List Frame) (meth : Method) (c : Code) (ls : Array Slot), Fx p m c b n s av.toArray y.cls → meth.sig.returnType = ret → meth.locks = false → c.exceptionTable.toList = tableOf hh → VE G A s → wd G A w s.heap → lv_has ls n (lv_args 0 av) →
      W p l e rm s m av.toArray below meth c s.heap [] 0 0 (vx_MQ below (QK G A post) (XK G A w (fun _ => False)) av.toArray s mc ms A) (F0 m 0 ls [])) : CTH l y b n ret hh rm av G A w post mc ms := by
  refine vx_ofWH (cc := b) (maxL := n) (ret := ret) (hh := hh) hy rfl ?_
  intro p e s m args below meth c s₁ B hml hv
  obtain ⟨rfl, hV⟩ := hv
  rw [lg_entry_eq]
  exact body p e s m below meth c _ ⟨B.exec, B.bytes, hml, findClass_of_methodNamed B.named, fun w hw => atoms_spec B.pre w (List.mem_cons_of_mem _ hw)⟩ B.returns B.notSynchronized (vx_table (x := y) B (atoms_spec B.pre _ List.mem_cons_self)) hV.1 hV.2 (lv_entry av hn)
section KH
variable {p : Program} {l : Launch} {e : Env} {R : Room} {s : State} {m : MethodId} {args : Array Value} {below : List Frame} {meth : Method} {c : Code} {H : Heap} {locs : List Loc} {cells slots : Nat} {Q : State → Prop}
variable {cc b : ByteArray} {pc nL n mc ms index : Nat} {ls : Array Slot} {rest st As av : List Value} {own C : String} {y : MethodName} {ret : Option FieldType} {hh : List (Nat × Nat × Nat × Nat)} {rm : Room} {G : GG} {A : Nat → Prop} {w w' : WS} {post : Option Value → WS → Prop}
theorem kc_SH (np : Nat) (hM : CTH l y b n ret hh rm As G A w post mc ms) (F : Fx p m c cc nL s args own) (hE : VE G A s) (hW : wd G A w H) (hS : va_S A s.heap H locs)
    (k1 : Cond.methodLink own index y ∈ AL) (k2 : Cond.static y ∈ AL) (k4 : Cond.initialized y.cls ∈ AL) (k5 : Cond.codeWith y b n ret hh ∈ AL)
    (hd2 : y.cls ≠ "java/lang/invoke/MethodHandle" ∧ y.cls ≠ "java/lang/invoke/VarHandle" ∧ (parseMethodDescriptor y.desc).map (fun d => d.parameters.length) = some np) (hnp : As.length = np)
    (hrm : rm.cells = mc ∧ rm.slots = ms) (hR : rm.frames + 1 ≤ R.frames ∧ 8 + (n + 11) + rm.locals ≤ R.locals) (hls : ls.size = nL) (hst : st = As.reverse ++ rest) (hcat : (rest.map fun v => v.category).sum ≤ 8) (hdg : decode cc pc = .ok (.invokestatic index, 3)) (hf : cells + mc ≤ R.cells ∧ slots + ms ≤ R.slots)
    (kk : ∀ (v : Option Value) (w' : WS) (H1 : Heap) (locs1 : List Loc), post v w' → wd G A w' H1 → va_S A s.heap H1 locs1 → W p l e R s m args below meth c H1 locs1 (cells + mc) (slots + ms) Q (F0 m (pc + 3) ls (v.toList ++ rest))) :
    W p l e R s m args below meth c H locs cells slots Q (F0 m pc ls st) := by
  have hG : GoodIn AL (va_wsS own index y (.codeWith y b n ret hh :: AL)) := by
    intro w hw
    unfold va_wsS at hw
    rcases List.mem_append.mp hw with h | h
    · simp only [List.mem_cons, List.not_mem_nil, or_false] at h
      rcases h with rfl | rfl | rfl <;> exact gAL _ (by assumption)
    · rcases List.mem_cons.mp h with rfl | h
      · exact gAL _ k5
      · exact gAL _ h
  exact kc_run (vx_runSX (hh := hh) (As := As) (rest := rest) F hM (vx_cwSW np F.2.2.2.2 hG rfl hrm.1 hrm.2 hd2 hR)
    ⟨fun a U g mk h => ⟨h.1, h.2.blind⟩, fun U hU hw => ⟨rfl, WR.at hE hS hW hU hw⟩⟩ rfl hnp hls hst (by simpa [JFrame.monitorRoom] using hcat) hdg hf) hS (fun _ _ _ _ _ h => h.elim) kk
theorem kr_c {E : String} {q9 : Addr} {ce : Cell} (F : Fx p m c cc nL s args own) (hE : VE G A s) (pre : List ExceptionTableEntry) (x : ExceptionTableEntry) (suf : List ExceptionTableEntry) (hsplit : c.exceptionTable.toList = pre ++ x :: suf)
    (hpass : ∀ z ∈ pre, covers z pc = false ∨ (z.catchType ≠ 0 ∧ ∃ nm : String, (Cond.classLink own z.catchType nm).before args s = true ∧ va_Nc E nm s)) (hx : covers x pc = true) (h0 : x.catchType ≠ 0) (hlink : Cond.classLink own x.catchType E ∈ AL) (hcast : Cond.castable E E ∈ lw_tbl)
    (hce : H[q9]? = some ce) (hcv : ce.vm = .none) (hcl : s.vm.findClass E = some ce.cls) (kk : W p l e R s m args below meth c H locs cells slots Q (F0 m x.handlerPc ls [.ref q9])) : vx_W p l e R s m args below meth c H locs cells slots Q (F0 m pc ls rest) q9 :=
  vx_catch F.2.2.2.1 pre x suf hsplit hpass hx h0 (F.2.2.2.2 _ hlink) (va_Nw.use rfl (hE.2.1.2.1 _ _ hcast)) hce hcv hcl kk
theorem lq_lcmp (hexec : p.tables.exec = Jvm.exec) (hb : c.code = cc) {x : Int64} (hdg : decode cc pc = .ok (.lcmp, 1))
    (k : W p l e R s m args below meth c H locs cells slots Q (F0 m (pc + 1) ls (.int (nI 0) :: rest))) : W p l e R s m args below meth c H locs cells slots Q (F0 m pc ls (.long x :: .long x :: rest)) := by
  intro T hT X
  obtain ⟨t, a, b⟩ := k T hT X
  refine ⟨t, ?_, b⟩
  have h1 : ¬ x > x := Int64.lt_irrefl
  jvm_step X.here [X.here.top, hexec, hb, hdg, h1]
  exact a
end KH
/-- what a caught call gives: its answer in the array at (20, 0), or the exception's number -/
def WP (post : Option Value → WS → Prop) (px : String → Prop) (code : String → Nat) (G : GG) (w : WS) : Option Value → WS → Prop := fun v w' =>
  (∃ ans w1 f1, post (some (.int ans)) w1 ∧ w'.1 = w1.1 ∧ w'.2.1 = w1.2.1 ∧ w'.2.2 (20, 0) = .inl (G.2.1 5, 1, .inr (.inl (va_up f1 0 ans.toInt64))) ∧ (∀ z, z ≠ (20, 0) → w'.2.2 z = w1.2.2 z) ∧ v = some (.int (nI 0))) ∨
  (∃ E, px E ∧ w' = w ∧ v = some (.int (nI (code E))))
set_option maxRecDepth 100000 in
set_option maxHeartbeats 4000000 in
theorem w_put (l : Launch) (G : GG) (A : Nat → Prop) (ad : Lb → Nat) (dm : Lb → Prop) (ct : Lb → va_E) (x y : Int32) {post : Option Value → WS → Prop} {px : String → Prop} {mc ms : Nat} {fs : List Value} (hd0 : dm (0, 0)) (he0 : ct (0, 0) = .inr (3, fs))
    (hM : CT l yX2_put cX2_put 5 (some FieldType.int) { frames := 10, cells := mc, slots := ms, locals := 197 } [.ref (ad (0, 0)), .int x, .int y] G A (ad, dm, ct) post px mc ms)
    (hfr : ∀ v w1, post v w1 → w1.2.1 (20, 0) ∧ w1.1 (20, 0) = ad (20, 0) ∧ (∃ f1, w1.2.2 (20, 0) = .inl (G.2.1 5, 1, .inr (.inl f1))) ∧ ∃ ans, v = some (.int ans)) (hpx : ∀ E, px E → E = "java/lang/IllegalArgumentException") :
    CTH l yL_put cL_put 5 (some .int) [(0, 10, 13, 13)] { frames := 11, cells := mc, slots := ms, locals := 221 } [.ref (ad (0, 0)), .int x, .int y, .ref (ad (20, 0))] G A (ad, dm, ct) (WP post px (fun _ => 1) G (ad, dm, ct)) mc ms := by
  refine cth_of (by decide) (Nat.le_of_ble_eq_true rfl) ?_
  intro p e s m below meth c ls F hr hlk hex hE hW hl
  have hx := F.1
  have hb := F.2.1
  have hS : va_S A s.heap s.heap [] := va_S.rf
  have hl : lv_has ls 5 [(0, .ref (ad (0, 0))), (1, .int x), (2, .int y), (3, .ref (ad (20, 0)))] := hl
  refine lv_aload_n hx hb dL_put_0 rfl (lv_at hl 3 rfl) ?_
  refine lv_iconst (v := nI 0) hx hb dL_put_1 (by decide) ?_
  refine lv_aload_n hx hb dL_put_2 rfl (lv_at hl 0 rfl) ?_
  refine lv_iload_n hx hb dL_put_3 rfl (lv_at hl 1 rfl) ?_
  refine lv_iload_n hx hb dL_put_4 rfl (lv_at hl 2 rfl) ?_
  refine kc_V 2 (hM) F hE hW hS (0, 0) hd0 he0 rfl [.int x, .int y] rfl kw_320 kw_321 kw_322 kw_1 kw_323 (by decide +kernel) rfl ⟨rfl, rfl⟩ ⟨Nat.le_of_ble_eq_true rfl, Nat.le_of_ble_eq_true rfl⟩ hl.1 rfl (Nat.le_of_ble_eq_true rfl) dL_put_5 ⟨(by show 0 + mc ≤ mc; omega), (by show 0 + ms ≤ ms; omega)⟩ (fun E q9 ce H locs hpx9 hW hS hce hcv hcl => ?_) (fun v w1 H locs hp hW hS => ?_)
  · obtain rfl := hpx E hpx9
    refine kr_c F hE [] ⟨0, 10, 13, 13⟩ [] (by rw [hex]; rfl) (fun z hz => by cases hz) (by decide) (by decide) kw_319 kn_329 hce hcv hcl ?_
    refine lv_astore (lv' := [(4, .ref q9), (0, .ref (ad (0, 0))), (1, .int x), (2, .int y), (3, .ref (ad (20, 0)))]) hx hb dL_put_13 hl (by decide) rfl (fun ls hl => ?_)
    refine lv_iconst (v := nI 1) hx hb dL_put_15 (by decide) ?_
    exact kr_i F hr hlk hE hW hS (by show 0 + mc ≤ mc; omega) (by show 0 + ms ≤ ms; omega) dL_put_16 (Or.inr ⟨_, hpx9, rfl, rfl⟩)
  · obtain ⟨hq1, hq2, ⟨f1, hq3⟩, ans, rfl⟩ := hfr _ _ hp
    refine lv_i2l hx hb dL_put_8 rfl ?_
    refine ks_l F hE hW hS (20, 0) hq1 hq2 hq3 0 rfl (by decide) (by decide) dL_put_9 (fun ct5 H locs hW hc5 hf5 hS => ?_)
    refine lv_goto (tgt := 17) hx hb dL_put_10 (by decide) ?_
    refine lv_iconst (v := nI 0) hx hb dL_put_17 (by decide) ?_
    exact kr_i F hr hlk hE hW hS (by show 0 + mc ≤ mc; omega) (by show 0 + ms ≤ ms; omega) dL_put_18 (Or.inl ⟨ans, w1, f1, hp, rfl, rfl, hc5, hf5, rfl⟩)
set_option maxRecDepth 100000 in
set_option maxHeartbeats 4000000 in
theorem w_take (l : Launch) (G : GG) (A : Nat → Prop) (ad : Lb → Nat) (dm : Lb → Prop) (ct : Lb → va_E) (x : Int32) {post : Option Value → WS → Prop} {px : String → Prop} {mc ms : Nat} {fs : List Value} (hd0 : dm (0, 0)) (he0 : ct (0, 0) = .inr (3, fs))
    (hM : CT l yX2_take cX2_take 5 (some FieldType.int) { frames := 7, cells := mc, slots := ms, locals := 120 } [.ref (ad (0, 0)), .int x] G A (ad, dm, ct) post px mc ms)
    (hfr : ∀ v w1, post v w1 → w1.2.1 (20, 0) ∧ w1.1 (20, 0) = ad (20, 0) ∧ (∃ f1, w1.2.2 (20, 0) = .inl (G.2.1 5, 1, .inr (.inl f1))) ∧ ∃ ans, v = some (.int ans)) (hpx : ∀ E, px E → E = "java/lang/IllegalArgumentException") :
    CTH l yL_take cL_take 4 (some .int) [(0, 9, 12, 13)] { frames := 8, cells := mc, slots := ms, locals := 144 } [.ref (ad (0, 0)), .int x, .ref (ad (20, 0))] G A (ad, dm, ct) (WP post px (fun _ => 1) G (ad, dm, ct)) mc ms := by
  refine cth_of (by decide) (Nat.le_of_ble_eq_true rfl) ?_
  intro p e s m below meth c ls F hr hlk hex hE hW hl
  have hx := F.1
  have hb := F.2.1
  have hS : va_S A s.heap s.heap [] := va_S.rf
  have hl : lv_has ls 4 [(0, .ref (ad (0, 0))), (1, .int x), (2, .ref (ad (20, 0)))] := hl
  refine lv_aload_n hx hb dL_take_0 rfl (lv_at hl 2 rfl) ?_
  refine lv_iconst (v := nI 0) hx hb dL_take_1 (by decide) ?_
  refine lv_aload_n hx hb dL_take_2 rfl (lv_at hl 0 rfl) ?_
  refine lv_iload_n hx hb dL_take_3 rfl (lv_at hl 1 rfl) ?_
  refine kc_V 1 (hM) F hE hW hS (0, 0) hd0 he0 rfl [.int x] rfl kw_410 kw_411 kw_412 kw_1 kw_413 (by decide +kernel) rfl ⟨rfl, rfl⟩ ⟨Nat.le_of_ble_eq_true rfl, Nat.le_of_ble_eq_true rfl⟩ hl.1 rfl (Nat.le_of_ble_eq_true rfl) dL_take_4 ⟨(by show 0 + mc ≤ mc; omega), (by show 0 + ms ≤ ms; omega)⟩ (fun E q9 ce H locs hpx9 hW hS hce hcv hcl => ?_) (fun v w1 H locs hp hW hS => ?_)
  · obtain rfl := hpx E hpx9
    refine kr_c F hE [] ⟨0, 9, 12, 13⟩ [] (by rw [hex]; rfl) (fun z hz => by cases hz) (by decide) (by decide) kw_319 kn_329 hce hcv hcl ?_
    refine lv_astore_n (lv' := [(3, .ref q9), (0, .ref (ad (0, 0))), (1, .int x), (2, .ref (ad (20, 0)))]) hx hb dL_take_12 rfl hl (by decide) rfl (fun ls hl => ?_)
    refine lv_iconst (v := nI 1) hx hb dL_take_13 (by decide) ?_
    exact kr_i F hr hlk hE hW hS (by show 0 + mc ≤ mc; omega) (by show 0 + ms ≤ ms; omega) dL_take_14 (Or.inr ⟨_, hpx9, rfl, rfl⟩)
  · obtain ⟨hq1, hq2, ⟨f1, hq3⟩, ans, rfl⟩ := hfr _ _ hp
    refine lv_i2l hx hb dL_take_7 rfl ?_
    refine ks_l F hE hW hS (20, 0) hq1 hq2 hq3 0 rfl (by decide) (by decide) dL_take_8 (fun ct5 H locs hW hc5 hf5 hS => ?_)
    refine lv_goto (tgt := 15) hx hb dL_take_9 (by decide) ?_
    refine lv_iconst (v := nI 0) hx hb dL_take_15 (by decide) ?_
    exact kr_i F hr hlk hE hW hS (by show 0 + mc ≤ mc; omega) (by show 0 + ms ≤ ms; omega) dL_take_16 (Or.inl ⟨ans, w1, f1, hp, rfl, rfl, hc5, hf5, rfl⟩)
set_option maxRecDepth 100000 in
set_option maxHeartbeats 4000000 in
theorem w_get (l : Launch) (G : GG) (A : Nat → Prop) (ad : Lb → Nat) (dm : Lb → Prop) (ct : Lb → va_E) (x : Int32) {post : Option Value → WS → Prop} {px : String → Prop} {mc ms : Nat} {fs : List Value} (hd0 : dm (0, 0)) (he0 : ct (0, 0) = .inr (3, fs))
    (hM : CT l yX2_get cX2_get 3 (some FieldType.int) { frames := 7, cells := mc, slots := ms, locals := 120 } [.ref (ad (0, 0)), .int x] G A (ad, dm, ct) post px mc ms)
    (hfr : ∀ v w1, post v w1 → w1.2.1 (20, 0) ∧ w1.1 (20, 0) = ad (20, 0) ∧ (∃ f1, w1.2.2 (20, 0) = .inl (G.2.1 5, 1, .inr (.inl f1))) ∧ ∃ ans, v = some (.int ans)) (hpx : ∀ E, px E → E = "java/lang/IllegalArgumentException") :
    CTH l yL_get cL_get 4 (some .int) [(0, 9, 12, 13)] { frames := 8, cells := mc, slots := ms, locals := 142 } [.ref (ad (0, 0)), .int x, .ref (ad (20, 0))] G A (ad, dm, ct) (WP post px (fun _ => 1) G (ad, dm, ct)) mc ms := by
  refine cth_of (by decide) (Nat.le_of_ble_eq_true rfl) ?_
  intro p e s m below meth c ls F hr hlk hex hE hW hl
  have hx := F.1
  have hb := F.2.1
  have hS : va_S A s.heap s.heap [] := va_S.rf
  have hl : lv_has ls 4 [(0, .ref (ad (0, 0))), (1, .int x), (2, .ref (ad (20, 0)))] := hl
  refine lv_aload_n hx hb dL_get_0 rfl (lv_at hl 2 rfl) ?_
  refine lv_iconst (v := nI 0) hx hb dL_get_1 (by decide) ?_
  refine lv_aload_n hx hb dL_get_2 rfl (lv_at hl 0 rfl) ?_
  refine lv_iload_n hx hb dL_get_3 rfl (lv_at hl 1 rfl) ?_
  refine kc_V 1 (hM) F hE hW hS (0, 0) hd0 he0 rfl [.int x] rfl kw_421 kw_422 kw_423 kw_1 kw_424 (by decide +kernel) rfl ⟨rfl, rfl⟩ ⟨Nat.le_of_ble_eq_true rfl, Nat.le_of_ble_eq_true rfl⟩ hl.1 rfl (Nat.le_of_ble_eq_true rfl) dL_get_4 ⟨(by show 0 + mc ≤ mc; omega), (by show 0 + ms ≤ ms; omega)⟩ (fun E q9 ce H locs hpx9 hW hS hce hcv hcl => ?_) (fun v w1 H locs hp hW hS => ?_)
  · obtain rfl := hpx E hpx9
    refine kr_c F hE [] ⟨0, 9, 12, 13⟩ [] (by rw [hex]; rfl) (fun z hz => by cases hz) (by decide) (by decide) kw_319 kn_329 hce hcv hcl ?_
    refine lv_astore_n (lv' := [(3, .ref q9), (0, .ref (ad (0, 0))), (1, .int x), (2, .ref (ad (20, 0)))]) hx hb dL_get_12 rfl hl (by decide) rfl (fun ls hl => ?_)
    refine lv_iconst (v := nI 1) hx hb dL_get_13 (by decide) ?_
    exact kr_i F hr hlk hE hW hS (by show 0 + mc ≤ mc; omega) (by show 0 + ms ≤ ms; omega) dL_get_14 (Or.inr ⟨_, hpx9, rfl, rfl⟩)
  · obtain ⟨hq1, hq2, ⟨f1, hq3⟩, ans, rfl⟩ := hfr _ _ hp
    refine lv_i2l hx hb dL_get_7 rfl ?_
    refine ks_l F hE hW hS (20, 0) hq1 hq2 hq3 0 rfl (by decide) (by decide) dL_get_8 (fun ct5 H locs hW hc5 hf5 hS => ?_)
    refine lv_goto (tgt := 15) hx hb dL_get_9 (by decide) ?_
    refine lv_iconst (v := nI 0) hx hb dL_get_15 (by decide) ?_
    exact kr_i F hr hlk hE hW hS (by show 0 + mc ≤ mc; omega) (by show 0 + ms ≤ ms; omega) dL_get_16 (Or.inl ⟨ans, w1, f1, hp, rfl, rfl, hc5, hf5, rfl⟩)
set_option maxRecDepth 100000 in
set_option maxHeartbeats 4000000 in
theorem w_getByLeaves (l : Launch) (G : GG) (A : Nat → Prop) (ad : Lb → Nat) (dm : Lb → Prop) (ct : Lb → va_E) (x : Int32) {post : Option Value → WS → Prop} {px : String → Prop} {mc ms : Nat} {fs : List Value} (hd0 : dm (0, 0)) (he0 : ct (0, 0) = .inr (3, fs))
    (hM : CT l yX2_getByLeaves cX2_getByLeaves 4 (some FieldType.int) { frames := 7, cells := mc, slots := ms, locals := 120 } [.ref (ad (0, 0)), .int x] G A (ad, dm, ct) post px mc ms)
    (hfr : ∀ v w1, post v w1 → w1.2.1 (20, 0) ∧ w1.1 (20, 0) = ad (20, 0) ∧ (∃ f1, w1.2.2 (20, 0) = .inl (G.2.1 5, 1, .inr (.inl f1))) ∧ ∃ ans, v = some (.int ans)) (hpx : ∀ E, px E → E = "java/lang/IllegalArgumentException") :
    CTH l yL_getByLeaves cL_getByLeaves 4 (some .int) [(0, 9, 12, 13)] { frames := 8, cells := mc, slots := ms, locals := 143 } [.ref (ad (0, 0)), .int x, .ref (ad (20, 0))] G A (ad, dm, ct) (WP post px (fun _ => 1) G (ad, dm, ct)) mc ms := by
  refine cth_of (by decide) (Nat.le_of_ble_eq_true rfl) ?_
  intro p e s m below meth c ls F hr hlk hex hE hW hl
  have hx := F.1
  have hb := F.2.1
  have hS : va_S A s.heap s.heap [] := va_S.rf
  have hl : lv_has ls 4 [(0, .ref (ad (0, 0))), (1, .int x), (2, .ref (ad (20, 0)))] := hl
  refine lv_aload_n hx hb dL_getByLeaves_0 rfl (lv_at hl 2 rfl) ?_
  refine lv_iconst (v := nI 0) hx hb dL_getByLeaves_1 (by decide) ?_
  refine lv_aload_n hx hb dL_getByLeaves_2 rfl (lv_at hl 0 rfl) ?_
  refine lv_iload_n hx hb dL_getByLeaves_3 rfl (lv_at hl 1 rfl) ?_
  refine kc_V 1 (hM) F hE hW hS (0, 0) hd0 he0 rfl [.int x] rfl kw_428 kw_429 kw_430 kw_1 kw_431 (by decide +kernel) rfl ⟨rfl, rfl⟩ ⟨Nat.le_of_ble_eq_true rfl, Nat.le_of_ble_eq_true rfl⟩ hl.1 rfl (Nat.le_of_ble_eq_true rfl) dL_getByLeaves_4 ⟨(by show 0 + mc ≤ mc; omega), (by show 0 + ms ≤ ms; omega)⟩ (fun E q9 ce H locs hpx9 hW hS hce hcv hcl => ?_) (fun v w1 H locs hp hW hS => ?_)
  · obtain rfl := hpx E hpx9
    refine kr_c F hE [] ⟨0, 9, 12, 13⟩ [] (by rw [hex]; rfl) (fun z hz => by cases hz) (by decide) (by decide) kw_319 kn_329 hce hcv hcl ?_
    refine lv_astore_n (lv' := [(3, .ref q9), (0, .ref (ad (0, 0))), (1, .int x), (2, .ref (ad (20, 0)))]) hx hb dL_getByLeaves_12 rfl hl (by decide) rfl (fun ls hl => ?_)
    refine lv_iconst (v := nI 1) hx hb dL_getByLeaves_13 (by decide) ?_
    exact kr_i F hr hlk hE hW hS (by show 0 + mc ≤ mc; omega) (by show 0 + ms ≤ ms; omega) dL_getByLeaves_14 (Or.inr ⟨_, hpx9, rfl, rfl⟩)
  · obtain ⟨hq1, hq2, ⟨f1, hq3⟩, ans, rfl⟩ := hfr _ _ hp
    refine lv_i2l hx hb dL_getByLeaves_7 rfl ?_
    refine ks_l F hE hW hS (20, 0) hq1 hq2 hq3 0 rfl (by decide) (by decide) dL_getByLeaves_8 (fun ct5 H locs hW hc5 hf5 hS => ?_)
    refine lv_goto (tgt := 15) hx hb dL_getByLeaves_9 (by decide) ?_
    refine lv_iconst (v := nI 0) hx hb dL_getByLeaves_15 (by decide) ?_
    exact kr_i F hr hlk hE hW hS (by show 0 + mc ≤ mc; omega) (by show 0 + ms ≤ ms; omega) dL_getByLeaves_16 (Or.inl ⟨ans, w1, f1, hp, rfl, rfl, hc5, hf5, rfl⟩)
set_option maxRecDepth 100000 in
set_option maxHeartbeats 4000000 in
theorem w_post (l : Launch) (G : GG) (A : Nat → Prop) (ad : Lb → Nat) (dm : Lb → Prop) (ct : Lb → va_E)  {post : Option Value → WS → Prop} {px : String → Prop} {mc ms : Nat} {fs : List Value} (hd0 : dm (0, 0)) (he0 : ct (0, 0) = .inr (3, fs))
    (hM : CT l yX2_post cX2_post 1 (some FieldType.int) { frames := 11, cells := mc, slots := ms, locals := 218 } [.ref (ad (0, 0))] G A (ad, dm, ct) post px mc ms)
    (hfr : ∀ v w1, post v w1 → w1.2.1 (20, 0) ∧ w1.1 (20, 0) = ad (20, 0) ∧ (∃ f1, w1.2.2 (20, 0) = .inl (G.2.1 5, 1, .inr (.inl f1))) ∧ ∃ ans, v = some (.int ans)) (hpx : ∀ E, px E → E = "java/lang/IllegalStateException") :
    CTH l yL_post cL_post 3 (some .int) [(0, 8, 11, 29)] { frames := 12, cells := mc, slots := ms, locals := 238 } [.ref (ad (0, 0)), .ref (ad (20, 0))] G A (ad, dm, ct) (WP post px (fun _ => 1) G (ad, dm, ct)) mc ms := by
  refine cth_of (by decide) (Nat.le_of_ble_eq_true rfl) ?_
  intro p e s m below meth c ls F hr hlk hex hE hW hl
  have hx := F.1
  have hb := F.2.1
  have hS : va_S A s.heap s.heap [] := va_S.rf
  have hl : lv_has ls 3 [(0, .ref (ad (0, 0))), (1, .ref (ad (20, 0)))] := hl
  refine lv_aload_n hx hb dL_post_0 rfl (lv_at hl 1 rfl) ?_
  refine lv_iconst (v := nI 0) hx hb dL_post_1 (by decide) ?_
  refine lv_aload_n hx hb dL_post_2 rfl (lv_at hl 0 rfl) ?_
  refine kc_V 0 (hM) F hE hW hS (0, 0) hd0 he0 rfl [] rfl kw_436 kw_437 kw_438 kw_1 kw_439 (by decide +kernel) rfl ⟨rfl, rfl⟩ ⟨Nat.le_of_ble_eq_true rfl, Nat.le_of_ble_eq_true rfl⟩ hl.1 rfl (Nat.le_of_ble_eq_true rfl) dL_post_3 ⟨(by show 0 + mc ≤ mc; omega), (by show 0 + ms ≤ ms; omega)⟩ (fun E q9 ce H locs hpx9 hW hS hce hcv hcl => ?_) (fun v w1 H locs hp hW hS => ?_)
  · obtain rfl := hpx E hpx9
    refine kr_c F hE [] ⟨0, 8, 11, 29⟩ [] (by rw [hex]; rfl) (fun z hz => by cases hz) (by decide) (by decide) kw_435 kn_442 hce hcv hcl ?_
    refine lv_astore_n (lv' := [(2, .ref q9), (0, .ref (ad (0, 0))), (1, .ref (ad (20, 0)))]) hx hb dL_post_11 rfl hl (by decide) rfl (fun ls hl => ?_)
    refine lv_iconst (v := nI 1) hx hb dL_post_12 (by decide) ?_
    exact kr_i F hr hlk hE hW hS (by show 0 + mc ≤ mc; omega) (by show 0 + ms ≤ ms; omega) dL_post_13 (Or.inr ⟨_, hpx9, rfl, rfl⟩)
  · obtain ⟨hq1, hq2, ⟨f1, hq3⟩, ans, rfl⟩ := hfr _ _ hp
    refine lv_i2l hx hb dL_post_6 rfl ?_
    refine ks_l F hE hW hS (20, 0) hq1 hq2 hq3 0 rfl (by decide) (by decide) dL_post_7 (fun ct5 H locs hW hc5 hf5 hS => ?_)
    refine lv_goto (tgt := 14) hx hb dL_post_8 (by decide) ?_
    refine lv_iconst (v := nI 0) hx hb dL_post_14 (by decide) ?_
    exact kr_i F hr hlk hE hW hS (by show 0 + mc ≤ mc; omega) (by show 0 + ms ≤ ms; omega) dL_post_15 (Or.inl ⟨ans, w1, f1, hp, rfl, rfl, hc5, hf5, rfl⟩)
set_option maxRecDepth 100000 in
set_option maxHeartbeats 4000000 in
theorem w_level (l : Launch) (G : GG) (A : Nat → Prop) (ad : Lb → Nat) (dm : Lb → Prop) (ct : Lb → va_E) (x : Int32) {post : Option Value → WS → Prop} {px : String → Prop} {mc ms : Nat} {fs : List Value} (hd0 : dm (0, 0)) (he0 : ct (0, 0) = .inr (3, fs))
    (hM : CT l yX2_level cX2_level 2 (some FieldType.int) { frames := 7, cells := mc, slots := ms, locals := 122 } [.ref (ad (0, 0)), .int x] G A (ad, dm, ct) post px mc ms)
    (hfr : ∀ v w1, post v w1 → w1.2.1 (20, 0) ∧ w1.1 (20, 0) = ad (20, 0) ∧ (∃ f1, w1.2.2 (20, 0) = .inl (G.2.1 5, 1, .inr (.inl f1))) ∧ ∃ ans, v = some (.int ans)) (hpx : ∀ E, px E → E = "java/lang/IndexOutOfBoundsException") :
    CTH l yL_level cL_level 4 (some .int) [(0, 9, 12, 34)] { frames := 8, cells := mc, slots := ms, locals := 143 } [.ref (ad (0, 0)), .int x, .ref (ad (20, 0))] G A (ad, dm, ct) (WP post px (fun _ => 1) G (ad, dm, ct)) mc ms := by
  refine cth_of (by decide) (Nat.le_of_ble_eq_true rfl) ?_
  intro p e s m below meth c ls F hr hlk hex hE hW hl
  have hx := F.1
  have hb := F.2.1
  have hS : va_S A s.heap s.heap [] := va_S.rf
  have hl : lv_has ls 4 [(0, .ref (ad (0, 0))), (1, .int x), (2, .ref (ad (20, 0)))] := hl
  refine lv_aload_n hx hb dL_level_0 rfl (lv_at hl 2 rfl) ?_
  refine lv_iconst (v := nI 0) hx hb dL_level_1 (by decide) ?_
  refine lv_aload_n hx hb dL_level_2 rfl (lv_at hl 0 rfl) ?_
  refine lv_iload_n hx hb dL_level_3 rfl (lv_at hl 1 rfl) ?_
  refine kc_V 1 (hM) F hE hW hS (0, 0) hd0 he0 rfl [.int x] rfl kw_460 kw_461 kw_462 kw_1 kw_463 (by decide +kernel) rfl ⟨rfl, rfl⟩ ⟨Nat.le_of_ble_eq_true rfl, Nat.le_of_ble_eq_true rfl⟩ hl.1 rfl (Nat.le_of_ble_eq_true rfl) dL_level_4 ⟨(by show 0 + mc ≤ mc; omega), (by show 0 + ms ≤ ms; omega)⟩ (fun E q9 ce H locs hpx9 hW hS hce hcv hcl => ?_) (fun v w1 H locs hp hW hS => ?_)
  · obtain rfl := hpx E hpx9
    refine kr_c F hE [] ⟨0, 9, 12, 34⟩ [] (by rw [hex]; rfl) (fun z hz => by cases hz) (by decide) (by decide) kw_459 kn_470 hce hcv hcl ?_
    refine lv_astore_n (lv' := [(3, .ref q9), (0, .ref (ad (0, 0))), (1, .int x), (2, .ref (ad (20, 0)))]) hx hb dL_level_12 rfl hl (by decide) rfl (fun ls hl => ?_)
    refine lv_iconst (v := nI 1) hx hb dL_level_13 (by decide) ?_
    exact kr_i F hr hlk hE hW hS (by show 0 + mc ≤ mc; omega) (by show 0 + ms ≤ ms; omega) dL_level_14 (Or.inr ⟨_, hpx9, rfl, rfl⟩)
  · obtain ⟨hq1, hq2, ⟨f1, hq3⟩, ans, rfl⟩ := hfr _ _ hp
    refine lv_i2l hx hb dL_level_7 rfl ?_
    refine ks_l F hE hW hS (20, 0) hq1 hq2 hq3 0 rfl (by decide) (by decide) dL_level_8 (fun ct5 H locs hW hc5 hf5 hS => ?_)
    refine lv_goto (tgt := 15) hx hb dL_level_9 (by decide) ?_
    refine lv_iconst (v := nI 0) hx hb dL_level_15 (by decide) ?_
    exact kr_i F hr hlk hE hW hS (by show 0 + mc ≤ mc; omega) (by show 0 + ms ≤ ms; omega) dL_level_16 (Or.inl ⟨ans, w1, f1, hp, rfl, rfl, hc5, hf5, rfl⟩)
set_option maxRecDepth 100000 in
set_option maxHeartbeats 4000000 in
theorem w_size (l : Launch) (G : GG) (A : Nat → Prop) (ad : Lb → Nat) (dm : Lb → Prop) (ct : Lb → va_E) (x : Int32) {post : Option Value → WS → Prop} {px : String → Prop} {mc ms : Nat} {fs : List Value} (hd0 : dm (0, 0)) (he0 : ct (0, 0) = .inr (3, fs))
    (hM : CT l yX2_size cX2_size 2 (some FieldType.int) { frames := 7, cells := mc, slots := ms, locals := 122 } [.ref (ad (0, 0)), .int x] G A (ad, dm, ct) post px mc ms)
    (hfr : ∀ v w1, post v w1 → w1.2.1 (20, 0) ∧ w1.1 (20, 0) = ad (20, 0) ∧ (∃ f1, w1.2.2 (20, 0) = .inl (G.2.1 5, 1, .inr (.inl f1))) ∧ ∃ ans, v = some (.int ans)) (hpx : ∀ E, px E → E = "java/lang/IndexOutOfBoundsException") :
    CTH l yL_size cL_size 4 (some .int) [(0, 9, 12, 34)] { frames := 8, cells := mc, slots := ms, locals := 143 } [.ref (ad (0, 0)), .int x, .ref (ad (20, 0))] G A (ad, dm, ct) (WP post px (fun _ => 1) G (ad, dm, ct)) mc ms := by
  refine cth_of (by decide) (Nat.le_of_ble_eq_true rfl) ?_
  intro p e s m below meth c ls F hr hlk hex hE hW hl
  have hx := F.1
  have hb := F.2.1
  have hS : va_S A s.heap s.heap [] := va_S.rf
  have hl : lv_has ls 4 [(0, .ref (ad (0, 0))), (1, .int x), (2, .ref (ad (20, 0)))] := hl
  refine lv_aload_n hx hb dL_size_0 rfl (lv_at hl 2 rfl) ?_
  refine lv_iconst (v := nI 0) hx hb dL_size_1 (by decide) ?_
  refine lv_aload_n hx hb dL_size_2 rfl (lv_at hl 0 rfl) ?_
  refine lv_iload_n hx hb dL_size_3 rfl (lv_at hl 1 rfl) ?_
  refine kc_V 1 (hM) F hE hW hS (0, 0) hd0 he0 rfl [.int x] rfl kw_487 kw_488 kw_489 kw_1 kw_490 (by decide +kernel) rfl ⟨rfl, rfl⟩ ⟨Nat.le_of_ble_eq_true rfl, Nat.le_of_ble_eq_true rfl⟩ hl.1 rfl (Nat.le_of_ble_eq_true rfl) dL_size_4 ⟨(by show 0 + mc ≤ mc; omega), (by show 0 + ms ≤ ms; omega)⟩ (fun E q9 ce H locs hpx9 hW hS hce hcv hcl => ?_) (fun v w1 H locs hp hW hS => ?_)
  · obtain rfl := hpx E hpx9
    refine kr_c F hE [] ⟨0, 9, 12, 34⟩ [] (by rw [hex]; rfl) (fun z hz => by cases hz) (by decide) (by decide) kw_459 kn_470 hce hcv hcl ?_
    refine lv_astore_n (lv' := [(3, .ref q9), (0, .ref (ad (0, 0))), (1, .int x), (2, .ref (ad (20, 0)))]) hx hb dL_size_12 rfl hl (by decide) rfl (fun ls hl => ?_)
    refine lv_iconst (v := nI 1) hx hb dL_size_13 (by decide) ?_
    exact kr_i F hr hlk hE hW hS (by show 0 + mc ≤ mc; omega) (by show 0 + ms ≤ ms; omega) dL_size_14 (Or.inr ⟨_, hpx9, rfl, rfl⟩)
  · obtain ⟨hq1, hq2, ⟨f1, hq3⟩, ans, rfl⟩ := hfr _ _ hp
    refine lv_i2l hx hb dL_size_7 rfl ?_
    refine ks_l F hE hW hS (20, 0) hq1 hq2 hq3 0 rfl (by decide) (by decide) dL_size_8 (fun ct5 H locs hW hc5 hf5 hS => ?_)
    refine lv_goto (tgt := 15) hx hb dL_size_9 (by decide) ?_
    refine lv_iconst (v := nI 0) hx hb dL_size_15 (by decide) ?_
    exact kr_i F hr hlk hE hW hS (by show 0 + mc ≤ mc; omega) (by show 0 + ms ≤ ms; omega) dL_size_16 (Or.inl ⟨ans, w1, f1, hp, rfl, rfl, hc5, hf5, rfl⟩)
set_option maxRecDepth 100000 in
set_option maxHeartbeats 4000000 in
theorem w_keyAt (l : Launch) (G : GG) (A : Nat → Prop) (ad : Lb → Nat) (dm : Lb → Prop) (ct : Lb → va_E) (x y : Int32) {post : Option Value → WS → Prop} {px : String → Prop} {mc ms : Nat} {fs : List Value} (hd0 : dm (0, 0)) (he0 : ct (0, 0) = .inr (3, fs))
    (hM : CT l yX2_keyAt cX2_keyAt 4 (some FieldType.int) { frames := 7, cells := mc, slots := ms, locals := 122 } [.ref (ad (0, 0)), .int x, .int y] G A (ad, dm, ct) post px mc ms)
    (hfr : ∀ v w1, post v w1 → w1.2.1 (20, 0) ∧ w1.1 (20, 0) = ad (20, 0) ∧ (∃ f1, w1.2.2 (20, 0) = .inl (G.2.1 5, 1, .inr (.inl f1))) ∧ ∃ ans, v = some (.int ans)) (hpx : ∀ E, px E → E = "java/lang/IndexOutOfBoundsException") :
    CTH l yL_keyAt cL_keyAt 5 (some .int) [(0, 10, 13, 34)] { frames := 8, cells := mc, slots := ms, locals := 145 } [.ref (ad (0, 0)), .int x, .int y, .ref (ad (20, 0))] G A (ad, dm, ct) (WP post px (fun _ => 1) G (ad, dm, ct)) mc ms := by
  refine cth_of (by decide) (Nat.le_of_ble_eq_true rfl) ?_
  intro p e s m below meth c ls F hr hlk hex hE hW hl
  have hx := F.1
  have hb := F.2.1
  have hS : va_S A s.heap s.heap [] := va_S.rf
  have hl : lv_has ls 5 [(0, .ref (ad (0, 0))), (1, .int x), (2, .int y), (3, .ref (ad (20, 0)))] := hl
  refine lv_aload_n hx hb dL_keyAt_0 rfl (lv_at hl 3 rfl) ?_
  refine lv_iconst (v := nI 0) hx hb dL_keyAt_1 (by decide) ?_
  refine lv_aload_n hx hb dL_keyAt_2 rfl (lv_at hl 0 rfl) ?_
  refine lv_iload_n hx hb dL_keyAt_3 rfl (lv_at hl 1 rfl) ?_
  refine lv_iload_n hx hb dL_keyAt_4 rfl (lv_at hl 2 rfl) ?_
  refine kc_V 2 (hM) F hE hW hS (0, 0) hd0 he0 rfl [.int x, .int y] rfl kw_494 kw_495 kw_496 kw_1 kw_497 (by decide +kernel) rfl ⟨rfl, rfl⟩ ⟨Nat.le_of_ble_eq_true rfl, Nat.le_of_ble_eq_true rfl⟩ hl.1 rfl (Nat.le_of_ble_eq_true rfl) dL_keyAt_5 ⟨(by show 0 + mc ≤ mc; omega), (by show 0 + ms ≤ ms; omega)⟩ (fun E q9 ce H locs hpx9 hW hS hce hcv hcl => ?_) (fun v w1 H locs hp hW hS => ?_)
  · obtain rfl := hpx E hpx9
    refine kr_c F hE [] ⟨0, 10, 13, 34⟩ [] (by rw [hex]; rfl) (fun z hz => by cases hz) (by decide) (by decide) kw_459 kn_470 hce hcv hcl ?_
    refine lv_astore (lv' := [(4, .ref q9), (0, .ref (ad (0, 0))), (1, .int x), (2, .int y), (3, .ref (ad (20, 0)))]) hx hb dL_keyAt_13 hl (by decide) rfl (fun ls hl => ?_)
    refine lv_iconst (v := nI 1) hx hb dL_keyAt_15 (by decide) ?_
    exact kr_i F hr hlk hE hW hS (by show 0 + mc ≤ mc; omega) (by show 0 + ms ≤ ms; omega) dL_keyAt_16 (Or.inr ⟨_, hpx9, rfl, rfl⟩)
  · obtain ⟨hq1, hq2, ⟨f1, hq3⟩, ans, rfl⟩ := hfr _ _ hp
    refine lv_i2l hx hb dL_keyAt_8 rfl ?_
    refine ks_l F hE hW hS (20, 0) hq1 hq2 hq3 0 rfl (by decide) (by decide) dL_keyAt_9 (fun ct5 H locs hW hc5 hf5 hS => ?_)
    refine lv_goto (tgt := 17) hx hb dL_keyAt_10 (by decide) ?_
    refine lv_iconst (v := nI 0) hx hb dL_keyAt_17 (by decide) ?_
    exact kr_i F hr hlk hE hW hS (by show 0 + mc ≤ mc; omega) (by show 0 + ms ≤ ms; omega) dL_keyAt_18 (Or.inl ⟨ans, w1, f1, hp, rfl, rfl, hc5, hf5, rfl⟩)
set_option maxRecDepth 100000 in
set_option maxHeartbeats 4000000 in
theorem w_below (l : Launch) (G : GG) (A : Nat → Prop) (ad : Lb → Nat) (dm : Lb → Prop) (ct : Lb → va_E) (x y : Int32) {post : Option Value → WS → Prop} {px : String → Prop} {mc ms : Nat} {fs : List Value} (hd0 : dm (0, 0)) (he0 : ct (0, 0) = .inr (3, fs))
    (hM : CT l yX2_below cX2_below 4 (some FieldType.int) { frames := 7, cells := mc, slots := ms, locals := 122 } [.ref (ad (0, 0)), .int x, .int y] G A (ad, dm, ct) post px mc ms)
    (hfr : ∀ v w1, post v w1 → w1.2.1 (20, 0) ∧ w1.1 (20, 0) = ad (20, 0) ∧ (∃ f1, w1.2.2 (20, 0) = .inl (G.2.1 5, 1, .inr (.inl f1))) ∧ ∃ ans, v = some (.int ans)) (hpx : ∀ E, px E → E = "java/lang/IndexOutOfBoundsException") :
    CTH l yL_below cL_below 5 (some .int) [(0, 10, 13, 34)] { frames := 8, cells := mc, slots := ms, locals := 145 } [.ref (ad (0, 0)), .int x, .int y, .ref (ad (20, 0))] G A (ad, dm, ct) (WP post px (fun _ => 1) G (ad, dm, ct)) mc ms := by
  refine cth_of (by decide) (Nat.le_of_ble_eq_true rfl) ?_
  intro p e s m below meth c ls F hr hlk hex hE hW hl
  have hx := F.1
  have hb := F.2.1
  have hS : va_S A s.heap s.heap [] := va_S.rf
  have hl : lv_has ls 5 [(0, .ref (ad (0, 0))), (1, .int x), (2, .int y), (3, .ref (ad (20, 0)))] := hl
  refine lv_aload_n hx hb dL_below_0 rfl (lv_at hl 3 rfl) ?_
  refine lv_iconst (v := nI 0) hx hb dL_below_1 (by decide) ?_
  refine lv_aload_n hx hb dL_below_2 rfl (lv_at hl 0 rfl) ?_
  refine lv_iload_n hx hb dL_below_3 rfl (lv_at hl 1 rfl) ?_
  refine lv_iload_n hx hb dL_below_4 rfl (lv_at hl 2 rfl) ?_
  refine kc_V 2 (hM) F hE hW hS (0, 0) hd0 he0 rfl [.int x, .int y] rfl kw_506 kw_507 kw_508 kw_1 kw_509 (by decide +kernel) rfl ⟨rfl, rfl⟩ ⟨Nat.le_of_ble_eq_true rfl, Nat.le_of_ble_eq_true rfl⟩ hl.1 rfl (Nat.le_of_ble_eq_true rfl) dL_below_5 ⟨(by show 0 + mc ≤ mc; omega), (by show 0 + ms ≤ ms; omega)⟩ (fun E q9 ce H locs hpx9 hW hS hce hcv hcl => ?_) (fun v w1 H locs hp hW hS => ?_)
  · obtain rfl := hpx E hpx9
    refine kr_c F hE [] ⟨0, 10, 13, 34⟩ [] (by rw [hex]; rfl) (fun z hz => by cases hz) (by decide) (by decide) kw_459 kn_470 hce hcv hcl ?_
    refine lv_astore (lv' := [(4, .ref q9), (0, .ref (ad (0, 0))), (1, .int x), (2, .int y), (3, .ref (ad (20, 0)))]) hx hb dL_below_13 hl (by decide) rfl (fun ls hl => ?_)
    refine lv_iconst (v := nI 1) hx hb dL_below_15 (by decide) ?_
    exact kr_i F hr hlk hE hW hS (by show 0 + mc ≤ mc; omega) (by show 0 + ms ≤ ms; omega) dL_below_16 (Or.inr ⟨_, hpx9, rfl, rfl⟩)
  · obtain ⟨hq1, hq2, ⟨f1, hq3⟩, ans, rfl⟩ := hfr _ _ hp
    refine lv_i2l hx hb dL_below_8 rfl ?_
    refine ks_l F hE hW hS (20, 0) hq1 hq2 hq3 0 rfl (by decide) (by decide) dL_below_9 (fun ct5 H locs hW hc5 hf5 hS => ?_)
    refine lv_goto (tgt := 17) hx hb dL_below_10 (by decide) ?_
    refine lv_iconst (v := nI 0) hx hb dL_below_17 (by decide) ?_
    exact kr_i F hr hlk hE hW hS (by show 0 + mc ≤ mc; omega) (by show 0 + ms ≤ ms; omega) dL_below_18 (Or.inl ⟨ans, w1, f1, hp, rfl, rfl, hc5, hf5, rfl⟩)
set_option maxRecDepth 100000 in
set_option maxHeartbeats 4000000 in
theorem w_high (l : Launch) (G : GG) (A : Nat → Prop) (ad : Lb → Nat) (dm : Lb → Prop) (ct : Lb → va_E) (x : Int32) {post : Option Value → WS → Prop} {px : String → Prop} {mc ms : Nat} {fs : List Value} (hd0 : dm (0, 0)) (he0 : ct (0, 0) = .inr (3, fs))
    (hM : CT l yX2_high cX2_high 2 (some FieldType.int) { frames := 7, cells := mc, slots := ms, locals := 122 } [.ref (ad (0, 0)), .int x] G A (ad, dm, ct) post px mc ms)
    (hfr : ∀ v w1, post v w1 → w1.2.1 (20, 0) ∧ w1.1 (20, 0) = ad (20, 0) ∧ (∃ f1, w1.2.2 (20, 0) = .inl (G.2.1 5, 1, .inr (.inl f1))) ∧ ∃ ans, v = some (.int ans)) (hpx : ∀ E, px E → E = "java/lang/IndexOutOfBoundsException") :
    CTH l yL_high cL_high 4 (some .int) [(0, 9, 12, 34)] { frames := 8, cells := mc, slots := ms, locals := 143 } [.ref (ad (0, 0)), .int x, .ref (ad (20, 0))] G A (ad, dm, ct) (WP post px (fun _ => 1) G (ad, dm, ct)) mc ms := by
  refine cth_of (by decide) (Nat.le_of_ble_eq_true rfl) ?_
  intro p e s m below meth c ls F hr hlk hex hE hW hl
  have hx := F.1
  have hb := F.2.1
  have hS : va_S A s.heap s.heap [] := va_S.rf
  have hl : lv_has ls 4 [(0, .ref (ad (0, 0))), (1, .int x), (2, .ref (ad (20, 0)))] := hl
  refine lv_aload_n hx hb dL_high_0 rfl (lv_at hl 2 rfl) ?_
  refine lv_iconst (v := nI 0) hx hb dL_high_1 (by decide) ?_
  refine lv_aload_n hx hb dL_high_2 rfl (lv_at hl 0 rfl) ?_
  refine lv_iload_n hx hb dL_high_3 rfl (lv_at hl 1 rfl) ?_
  refine kc_V 1 (hM) F hE hW hS (0, 0) hd0 he0 rfl [.int x] rfl kw_516 kw_517 kw_518 kw_1 kw_519 (by decide +kernel) rfl ⟨rfl, rfl⟩ ⟨Nat.le_of_ble_eq_true rfl, Nat.le_of_ble_eq_true rfl⟩ hl.1 rfl (Nat.le_of_ble_eq_true rfl) dL_high_4 ⟨(by show 0 + mc ≤ mc; omega), (by show 0 + ms ≤ ms; omega)⟩ (fun E q9 ce H locs hpx9 hW hS hce hcv hcl => ?_) (fun v w1 H locs hp hW hS => ?_)
  · obtain rfl := hpx E hpx9
    refine kr_c F hE [] ⟨0, 9, 12, 34⟩ [] (by rw [hex]; rfl) (fun z hz => by cases hz) (by decide) (by decide) kw_459 kn_470 hce hcv hcl ?_
    refine lv_astore_n (lv' := [(3, .ref q9), (0, .ref (ad (0, 0))), (1, .int x), (2, .ref (ad (20, 0)))]) hx hb dL_high_12 rfl hl (by decide) rfl (fun ls hl => ?_)
    refine lv_iconst (v := nI 1) hx hb dL_high_13 (by decide) ?_
    exact kr_i F hr hlk hE hW hS (by show 0 + mc ≤ mc; omega) (by show 0 + ms ≤ ms; omega) dL_high_14 (Or.inr ⟨_, hpx9, rfl, rfl⟩)
  · obtain ⟨hq1, hq2, ⟨f1, hq3⟩, ans, rfl⟩ := hfr _ _ hp
    refine lv_i2l hx hb dL_high_7 rfl ?_
    refine ks_l F hE hW hS (20, 0) hq1 hq2 hq3 0 rfl (by decide) (by decide) dL_high_8 (fun ct5 H locs hW hc5 hf5 hS => ?_)
    refine lv_goto (tgt := 15) hx hb dL_high_9 (by decide) ?_
    refine lv_iconst (v := nI 0) hx hb dL_high_15 (by decide) ?_
    exact kr_i F hr hlk hE hW hS (by show 0 + mc ≤ mc; omega) (by show 0 + ms ≤ ms; omega) dL_high_16 (Or.inl ⟨ans, w1, f1, hp, rfl, rfl, hc5, hf5, rfl⟩)
set_option maxRecDepth 100000 in
set_option maxHeartbeats 4000000 in
theorem w_right (l : Launch) (G : GG) (A : Nat → Prop) (ad : Lb → Nat) (dm : Lb → Prop) (ct : Lb → va_E) (x : Int32) {post : Option Value → WS → Prop} {px : String → Prop} {mc ms : Nat} {fs : List Value} (hd0 : dm (0, 0)) (he0 : ct (0, 0) = .inr (3, fs))
    (hM : CT l yX2_right cX2_right 2 (some FieldType.int) { frames := 7, cells := mc, slots := ms, locals := 122 } [.ref (ad (0, 0)), .int x] G A (ad, dm, ct) post px mc ms)
    (hfr : ∀ v w1, post v w1 → w1.2.1 (20, 0) ∧ w1.1 (20, 0) = ad (20, 0) ∧ (∃ f1, w1.2.2 (20, 0) = .inl (G.2.1 5, 1, .inr (.inl f1))) ∧ ∃ ans, v = some (.int ans)) (hpx : ∀ E, px E → E = "java/lang/IndexOutOfBoundsException") :
    CTH l yL_right cL_right 4 (some .int) [(0, 9, 12, 34)] { frames := 8, cells := mc, slots := ms, locals := 143 } [.ref (ad (0, 0)), .int x, .ref (ad (20, 0))] G A (ad, dm, ct) (WP post px (fun _ => 1) G (ad, dm, ct)) mc ms := by
  refine cth_of (by decide) (Nat.le_of_ble_eq_true rfl) ?_
  intro p e s m below meth c ls F hr hlk hex hE hW hl
  have hx := F.1
  have hb := F.2.1
  have hS : va_S A s.heap s.heap [] := va_S.rf
  have hl : lv_has ls 4 [(0, .ref (ad (0, 0))), (1, .int x), (2, .ref (ad (20, 0)))] := hl
  refine lv_aload_n hx hb dL_right_0 rfl (lv_at hl 2 rfl) ?_
  refine lv_iconst (v := nI 0) hx hb dL_right_1 (by decide) ?_
  refine lv_aload_n hx hb dL_right_2 rfl (lv_at hl 0 rfl) ?_
  refine lv_iload_n hx hb dL_right_3 rfl (lv_at hl 1 rfl) ?_
  refine kc_V 1 (hM) F hE hW hS (0, 0) hd0 he0 rfl [.int x] rfl kw_523 kw_524 kw_525 kw_1 kw_526 (by decide +kernel) rfl ⟨rfl, rfl⟩ ⟨Nat.le_of_ble_eq_true rfl, Nat.le_of_ble_eq_true rfl⟩ hl.1 rfl (Nat.le_of_ble_eq_true rfl) dL_right_4 ⟨(by show 0 + mc ≤ mc; omega), (by show 0 + ms ≤ ms; omega)⟩ (fun E q9 ce H locs hpx9 hW hS hce hcv hcl => ?_) (fun v w1 H locs hp hW hS => ?_)
  · obtain rfl := hpx E hpx9
    refine kr_c F hE [] ⟨0, 9, 12, 34⟩ [] (by rw [hex]; rfl) (fun z hz => by cases hz) (by decide) (by decide) kw_459 kn_470 hce hcv hcl ?_
    refine lv_astore_n (lv' := [(3, .ref q9), (0, .ref (ad (0, 0))), (1, .int x), (2, .ref (ad (20, 0)))]) hx hb dL_right_12 rfl hl (by decide) rfl (fun ls hl => ?_)
    refine lv_iconst (v := nI 1) hx hb dL_right_13 (by decide) ?_
    exact kr_i F hr hlk hE hW hS (by show 0 + mc ≤ mc; omega) (by show 0 + ms ≤ ms; omega) dL_right_14 (Or.inr ⟨_, hpx9, rfl, rfl⟩)
  · obtain ⟨hq1, hq2, ⟨f1, hq3⟩, ans, rfl⟩ := hfr _ _ hp
    refine lv_i2l hx hb dL_right_7 rfl ?_
    refine ks_l F hE hW hS (20, 0) hq1 hq2 hq3 0 rfl (by decide) (by decide) dL_right_8 (fun ct5 H locs hW hc5 hf5 hS => ?_)
    refine lv_goto (tgt := 15) hx hb dL_right_9 (by decide) ?_
    refine lv_iconst (v := nI 0) hx hb dL_right_15 (by decide) ?_
    exact kr_i F hr hlk hE hW hS (by show 0 + mc ≤ mc; omega) (by show 0 + ms ≤ ms; omega) dL_right_16 (Or.inl ⟨ans, w1, f1, hp, rfl, rfl, hc5, hf5, rfl⟩)
set_option maxRecDepth 100000 in
set_option maxHeartbeats 4000000 in
theorem w_links (l : Launch) (G : GG) (A : Nat → Prop) (ad : Lb → Nat) (dm : Lb → Prop) (ct : Lb → va_E) (x : Int32) {post : Option Value → WS → Prop} {px : String → Prop} {mc ms : Nat} {fs : List Value} (hd0 : dm (0, 0)) (he0 : ct (0, 0) = .inr (3, fs))
    (hM : CT l yX2_links cX2_links 6 (some FieldType.int) { frames := 7, cells := mc, slots := ms, locals := 120 } [.ref (ad (0, 0)), .int x] G A (ad, dm, ct) post px mc ms)
    (hfr : ∀ v w1, post v w1 → w1.2.1 (20, 0) ∧ w1.1 (20, 0) = ad (20, 0) ∧ (∃ f1, w1.2.2 (20, 0) = .inl (G.2.1 5, 1, .inr (.inl f1))) ∧ ∃ ans, v = some (.int ans)) (hpx : ∀ E, px E → E = "java/lang/IllegalArgumentException") :
    CTH l yL_links cL_links 4 (some .int) [(0, 9, 12, 13)] { frames := 8, cells := mc, slots := ms, locals := 145 } [.ref (ad (0, 0)), .int x, .ref (ad (20, 0))] G A (ad, dm, ct) (WP post px (fun _ => 1) G (ad, dm, ct)) mc ms := by
  refine cth_of (by decide) (Nat.le_of_ble_eq_true rfl) ?_
  intro p e s m below meth c ls F hr hlk hex hE hW hl
  have hx := F.1
  have hb := F.2.1
  have hS : va_S A s.heap s.heap [] := va_S.rf
  have hl : lv_has ls 4 [(0, .ref (ad (0, 0))), (1, .int x), (2, .ref (ad (20, 0)))] := hl
  refine lv_aload_n hx hb dL_links_0 rfl (lv_at hl 2 rfl) ?_
  refine lv_iconst (v := nI 0) hx hb dL_links_1 (by decide) ?_
  refine lv_aload_n hx hb dL_links_2 rfl (lv_at hl 0 rfl) ?_
  refine lv_iload_n hx hb dL_links_3 rfl (lv_at hl 1 rfl) ?_
  refine kc_V 1 (hM) F hE hW hS (0, 0) hd0 he0 rfl [.int x] rfl kw_530 kw_531 kw_532 kw_1 kw_533 (by decide +kernel) rfl ⟨rfl, rfl⟩ ⟨Nat.le_of_ble_eq_true rfl, Nat.le_of_ble_eq_true rfl⟩ hl.1 rfl (Nat.le_of_ble_eq_true rfl) dL_links_4 ⟨(by show 0 + mc ≤ mc; omega), (by show 0 + ms ≤ ms; omega)⟩ (fun E q9 ce H locs hpx9 hW hS hce hcv hcl => ?_) (fun v w1 H locs hp hW hS => ?_)
  · obtain rfl := hpx E hpx9
    refine kr_c F hE [] ⟨0, 9, 12, 13⟩ [] (by rw [hex]; rfl) (fun z hz => by cases hz) (by decide) (by decide) kw_319 kn_329 hce hcv hcl ?_
    refine lv_astore_n (lv' := [(3, .ref q9), (0, .ref (ad (0, 0))), (1, .int x), (2, .ref (ad (20, 0)))]) hx hb dL_links_12 rfl hl (by decide) rfl (fun ls hl => ?_)
    refine lv_iconst (v := nI 1) hx hb dL_links_13 (by decide) ?_
    exact kr_i F hr hlk hE hW hS (by show 0 + mc ≤ mc; omega) (by show 0 + ms ≤ ms; omega) dL_links_14 (Or.inr ⟨_, hpx9, rfl, rfl⟩)
  · obtain ⟨hq1, hq2, ⟨f1, hq3⟩, ans, rfl⟩ := hfr _ _ hp
    refine lv_i2l hx hb dL_links_7 rfl ?_
    refine ks_l F hE hW hS (20, 0) hq1 hq2 hq3 0 rfl (by decide) (by decide) dL_links_8 (fun ct5 H locs hW hc5 hf5 hS => ?_)
    refine lv_goto (tgt := 15) hx hb dL_links_9 (by decide) ?_
    refine lv_iconst (v := nI 0) hx hb dL_links_15 (by decide) ?_
    exact kr_i F hr hlk hE hW hS (by show 0 + mc ≤ mc; omega) (by show 0 + ms ≤ ms; omega) dL_links_16 (Or.inl ⟨ans, w1, f1, hp, rfl, rfl, hc5, hf5, rfl⟩)
set_option maxRecDepth 100000 in
set_option maxHeartbeats 4000000 in
theorem w_open (l : Launch) (G : GG) (A : Nat → Prop) (ad : Lb → Nat) (dm : Lb → Prop) (ct : Lb → va_E) (x : Int32) {post : Option Value → WS → Prop} {px : String → Prop} {mc ms : Nat} {fs : List Value} (hd0 : dm (0, 0)) (he0 : ct (0, 0) = .inr (3, fs))
    (hM : CT l yX2_open cX2_open 3 (some FieldType.int) { frames := 7, cells := mc, slots := ms, locals := 120 } [.ref (ad (0, 0)), .int x] G A (ad, dm, ct) post px mc ms)
    (hfr : ∀ v w1, post v w1 → w1.2.1 (20, 0) ∧ w1.1 (20, 0) = ad (20, 0) ∧ (∃ f1, w1.2.2 (20, 0) = .inl (G.2.1 5, 1, .inr (.inl f1))) ∧ ∃ ans, v = some (.int ans)) (hpx : ∀ E, px E → E = "java/lang/IllegalArgumentException" ∨ E = "java/lang/IllegalStateException") :
    CTH l yL_open cL_open 4 (some .int) [(0, 9, 12, 13), (0, 9, 15, 29)] { frames := 8, cells := mc, slots := ms, locals := 142 } [.ref (ad (0, 0)), .int x, .ref (ad (20, 0))] G A (ad, dm, ct) (WP post px (fun E => if E = "java/lang/IllegalArgumentException" then 1 else 2) G (ad, dm, ct)) mc ms := by
  refine cth_of (by decide) (Nat.le_of_ble_eq_true rfl) ?_
  intro p e s m below meth c ls F hr hlk hex hE hW hl
  have hx := F.1
  have hb := F.2.1
  have hS : va_S A s.heap s.heap [] := va_S.rf
  have hl : lv_has ls 4 [(0, .ref (ad (0, 0))), (1, .int x), (2, .ref (ad (20, 0)))] := hl
  refine lv_aload_n hx hb dL_open_0 rfl (lv_at hl 2 rfl) ?_
  refine lv_iconst (v := nI 0) hx hb dL_open_1 (by decide) ?_
  refine lv_aload_n hx hb dL_open_2 rfl (lv_at hl 0 rfl) ?_
  refine lv_iload_n hx hb dL_open_3 rfl (lv_at hl 1 rfl) ?_
  refine kc_V 1 (hM) F hE hW hS (0, 0) hd0 he0 rfl [.int x] rfl kw_537 kw_538 kw_539 kw_1 kw_540 (by decide +kernel) rfl ⟨rfl, rfl⟩ ⟨Nat.le_of_ble_eq_true rfl, Nat.le_of_ble_eq_true rfl⟩ hl.1 rfl (Nat.le_of_ble_eq_true rfl) dL_open_4 ⟨(by show 0 + mc ≤ mc; omega), (by show 0 + ms ≤ ms; omega)⟩ (fun E q9 ce H locs hpx9 hW hS hce hcv hcl => ?_) (fun v w1 H locs hp hW hS => ?_)
  · rcases hpx E hpx9 with rfl | rfl
    · refine kr_c F hE [] ⟨0, 9, 12, 13⟩ [⟨0, 9, 15, 29⟩] (by rw [hex]; rfl) (fun z hz => by cases hz) (by decide) (by decide) kw_319 kn_329 hce hcv hcl ?_
      refine lv_astore_n (lv' := [(3, .ref q9), (0, .ref (ad (0, 0))), (1, .int x), (2, .ref (ad (20, 0)))]) hx hb dL_open_12 rfl hl (by decide) rfl (fun ls hl => ?_)
      refine lv_iconst (v := nI 1) hx hb dL_open_13 (by decide) ?_
      exact kr_i F hr hlk hE hW hS (by show 0 + mc ≤ mc; omega) (by show 0 + ms ≤ ms; omega) dL_open_14 (Or.inr ⟨_, hpx9, rfl, (by dsimp only; rw [if_pos rfl])⟩)
    · refine kr_c F hE [⟨0, 9, 12, 13⟩] ⟨0, 9, 15, 29⟩ [] (by rw [hex]; rfl) (fun z hz => Or.inr ⟨by rcases List.mem_singleton.mp hz with rfl; decide, "java/lang/IllegalArgumentException", by rcases List.mem_singleton.mp hz with rfl; exact F.2.2.2.2 _ kw_319, hE.2.1.2.2.2.2.2.1⟩) (by decide) (by decide) kw_435 kn_442 hce hcv hcl ?_
      refine lv_astore_n (lv' := [(3, .ref q9), (0, .ref (ad (0, 0))), (1, .int x), (2, .ref (ad (20, 0)))]) hx hb dL_open_15 rfl hl (by decide) rfl (fun ls hl => ?_)
      refine lv_iconst (v := nI 2) hx hb dL_open_16 (by decide) ?_
      exact kr_i F hr hlk hE hW hS (by show 0 + mc ≤ mc; omega) (by show 0 + ms ≤ ms; omega) dL_open_17 (Or.inr ⟨_, hpx9, rfl, (by dsimp only; rw [if_neg (by decide)])⟩)
  · obtain ⟨hq1, hq2, ⟨f1, hq3⟩, ans, rfl⟩ := hfr _ _ hp
    refine lv_i2l hx hb dL_open_7 rfl ?_
    refine ks_l F hE hW hS (20, 0) hq1 hq2 hq3 0 rfl (by decide) (by decide) dL_open_8 (fun ct5 H locs hW hc5 hf5 hS => ?_)
    refine lv_goto (tgt := 18) hx hb dL_open_9 (by decide) ?_
    refine lv_iconst (v := nI 0) hx hb dL_open_18 (by decide) ?_
    exact kr_i F hr hlk hE hW hS (by show 0 + mc ≤ mc; omega) (by show 0 + ms ≤ ms; omega) dL_open_19 (Or.inl ⟨ans, w1, f1, hp, rfl, rfl, hc5, hf5, rfl⟩)
set_option maxRecDepth 100000 in
set_option maxHeartbeats 4000000 in
theorem w_next (l : Launch) (G : GG) (A : Nat → Prop) (ad : Lb → Nat) (dm : Lb → Prop) (ct : Lb → va_E) (x : Int32) {post : Option Value → WS → Prop} {px : String → Prop} {mc ms : Nat} {fs : List Value} (hd0 : dm (0, 0)) (he0 : ct (0, 0) = .inr (3, fs))
    (hM : CT l yX2_next cX2_next 2 (some FieldType.int) { frames := 7, cells := mc, slots := ms, locals := 122 } [.ref (ad (0, 0)), .int x] G A (ad, dm, ct) post px mc ms)
    (hfr : ∀ v w1, post v w1 → w1.2.1 (20, 0) ∧ w1.1 (20, 0) = ad (20, 0) ∧ (∃ f1, w1.2.2 (20, 0) = .inl (G.2.1 5, 1, .inr (.inl f1))) ∧ ∃ ans, v = some (.int ans)) (hpx : ∀ E, px E → E = "java/lang/IndexOutOfBoundsException") :
    CTH l yL_next cL_next 4 (some .int) [(0, 9, 12, 34)] { frames := 8, cells := mc, slots := ms, locals := 143 } [.ref (ad (0, 0)), .int x, .ref (ad (20, 0))] G A (ad, dm, ct) (WP post px (fun _ => 1) G (ad, dm, ct)) mc ms := by
  refine cth_of (by decide) (Nat.le_of_ble_eq_true rfl) ?_
  intro p e s m below meth c ls F hr hlk hex hE hW hl
  have hx := F.1
  have hb := F.2.1
  have hS : va_S A s.heap s.heap [] := va_S.rf
  have hl : lv_has ls 4 [(0, .ref (ad (0, 0))), (1, .int x), (2, .ref (ad (20, 0)))] := hl
  refine lv_aload_n hx hb dL_next_0 rfl (lv_at hl 2 rfl) ?_
  refine lv_iconst (v := nI 0) hx hb dL_next_1 (by decide) ?_
  refine lv_aload_n hx hb dL_next_2 rfl (lv_at hl 0 rfl) ?_
  refine lv_iload_n hx hb dL_next_3 rfl (lv_at hl 1 rfl) ?_
  refine kc_V 1 (hM) F hE hW hS (0, 0) hd0 he0 rfl [.int x] rfl kw_565 kw_566 kw_567 kw_1 kw_568 (by decide +kernel) rfl ⟨rfl, rfl⟩ ⟨Nat.le_of_ble_eq_true rfl, Nat.le_of_ble_eq_true rfl⟩ hl.1 rfl (Nat.le_of_ble_eq_true rfl) dL_next_4 ⟨(by show 0 + mc ≤ mc; omega), (by show 0 + ms ≤ ms; omega)⟩ (fun E q9 ce H locs hpx9 hW hS hce hcv hcl => ?_) (fun v w1 H locs hp hW hS => ?_)
  · obtain rfl := hpx E hpx9
    refine kr_c F hE [] ⟨0, 9, 12, 34⟩ [] (by rw [hex]; rfl) (fun z hz => by cases hz) (by decide) (by decide) kw_459 kn_470 hce hcv hcl ?_
    refine lv_astore_n (lv' := [(3, .ref q9), (0, .ref (ad (0, 0))), (1, .int x), (2, .ref (ad (20, 0)))]) hx hb dL_next_12 rfl hl (by decide) rfl (fun ls hl => ?_)
    refine lv_iconst (v := nI 1) hx hb dL_next_13 (by decide) ?_
    exact kr_i F hr hlk hE hW hS (by show 0 + mc ≤ mc; omega) (by show 0 + ms ≤ ms; omega) dL_next_14 (Or.inr ⟨_, hpx9, rfl, rfl⟩)
  · obtain ⟨hq1, hq2, ⟨f1, hq3⟩, ans, rfl⟩ := hfr _ _ hp
    refine lv_i2l hx hb dL_next_7 rfl ?_
    refine ks_l F hE hW hS (20, 0) hq1 hq2 hq3 0 rfl (by decide) (by decide) dL_next_8 (fun ct5 H locs hW hc5 hf5 hS => ?_)
    refine lv_goto (tgt := 15) hx hb dL_next_9 (by decide) ?_
    refine lv_iconst (v := nI 0) hx hb dL_next_15 (by decide) ?_
    exact kr_i F hr hlk hE hW hS (by show 0 + mc ≤ mc; omega) (by show 0 + ms ≤ ms; omega) dL_next_16 (Or.inl ⟨ans, w1, f1, hp, rfl, rfl, hc5, hf5, rfl⟩)
set_option maxRecDepth 100000 in
set_option maxHeartbeats 4000000 in
theorem w_leafOf (l : Launch) (G : GG) (A : Nat → Prop) (ad : Lb → Nat) (dm : Lb → Prop) (ct : Lb → va_E) (x : Int32) {post : Option Value → WS → Prop} {px : String → Prop} {mc ms : Nat} {fs : List Value} (hd0 : dm (0, 0)) (he0 : ct (0, 0) = .inr (3, fs))
    (hM : CT l yX2_leafOf cX2_leafOf 2 (some FieldType.int) { frames := 7, cells := mc, slots := ms, locals := 122 } [.ref (ad (0, 0)), .int x] G A (ad, dm, ct) post px mc ms)
    (hfr : ∀ v w1, post v w1 → w1.2.1 (20, 0) ∧ w1.1 (20, 0) = ad (20, 0) ∧ (∃ f1, w1.2.2 (20, 0) = .inl (G.2.1 5, 1, .inr (.inl f1))) ∧ ∃ ans, v = some (.int ans)) (hpx : ∀ E, px E → E = "java/lang/IndexOutOfBoundsException") :
    CTH l yL_leafOf cL_leafOf 4 (some .int) [(0, 9, 12, 34)] { frames := 8, cells := mc, slots := ms, locals := 143 } [.ref (ad (0, 0)), .int x, .ref (ad (20, 0))] G A (ad, dm, ct) (WP post px (fun _ => 1) G (ad, dm, ct)) mc ms := by
  refine cth_of (by decide) (Nat.le_of_ble_eq_true rfl) ?_
  intro p e s m below meth c ls F hr hlk hex hE hW hl
  have hx := F.1
  have hb := F.2.1
  have hS : va_S A s.heap s.heap [] := va_S.rf
  have hl : lv_has ls 4 [(0, .ref (ad (0, 0))), (1, .int x), (2, .ref (ad (20, 0)))] := hl
  refine lv_aload_n hx hb dL_leafOf_0 rfl (lv_at hl 2 rfl) ?_
  refine lv_iconst (v := nI 0) hx hb dL_leafOf_1 (by decide) ?_
  refine lv_aload_n hx hb dL_leafOf_2 rfl (lv_at hl 0 rfl) ?_
  refine lv_iload_n hx hb dL_leafOf_3 rfl (lv_at hl 1 rfl) ?_
  refine kc_V 1 (hM) F hE hW hS (0, 0) hd0 he0 rfl [.int x] rfl kw_585 kw_586 kw_587 kw_1 kw_588 (by decide +kernel) rfl ⟨rfl, rfl⟩ ⟨Nat.le_of_ble_eq_true rfl, Nat.le_of_ble_eq_true rfl⟩ hl.1 rfl (Nat.le_of_ble_eq_true rfl) dL_leafOf_4 ⟨(by show 0 + mc ≤ mc; omega), (by show 0 + ms ≤ ms; omega)⟩ (fun E q9 ce H locs hpx9 hW hS hce hcv hcl => ?_) (fun v w1 H locs hp hW hS => ?_)
  · obtain rfl := hpx E hpx9
    refine kr_c F hE [] ⟨0, 9, 12, 34⟩ [] (by rw [hex]; rfl) (fun z hz => by cases hz) (by decide) (by decide) kw_459 kn_470 hce hcv hcl ?_
    refine lv_astore_n (lv' := [(3, .ref q9), (0, .ref (ad (0, 0))), (1, .int x), (2, .ref (ad (20, 0)))]) hx hb dL_leafOf_12 rfl hl (by decide) rfl (fun ls hl => ?_)
    refine lv_iconst (v := nI 1) hx hb dL_leafOf_13 (by decide) ?_
    exact kr_i F hr hlk hE hW hS (by show 0 + mc ≤ mc; omega) (by show 0 + ms ≤ ms; omega) dL_leafOf_14 (Or.inr ⟨_, hpx9, rfl, rfl⟩)
  · obtain ⟨hq1, hq2, ⟨f1, hq3⟩, ans, rfl⟩ := hfr _ _ hp
    refine lv_i2l hx hb dL_leafOf_7 rfl ?_
    refine ks_l F hE hW hS (20, 0) hq1 hq2 hq3 0 rfl (by decide) (by decide) dL_leafOf_8 (fun ct5 H locs hW hc5 hf5 hS => ?_)
    refine lv_goto (tgt := 15) hx hb dL_leafOf_9 (by decide) ?_
    refine lv_iconst (v := nI 0) hx hb dL_leafOf_15 (by decide) ?_
    exact kr_i F hr hlk hE hW hS (by show 0 + mc ≤ mc; omega) (by show 0 + ms ≤ ms; omega) dL_leafOf_16 (Or.inl ⟨ans, w1, f1, hp, rfl, rfl, hc5, hf5, rfl⟩)
set_option maxRecDepth 100000 in
set_option maxHeartbeats 4000000 in
theorem w_close (l : Launch) (G : GG) (A : Nat → Prop) (ad : Lb → Nat) (dm : Lb → Prop) (ct : Lb → va_E) (x : Int32) {post : Option Value → WS → Prop} {px : String → Prop} {mc ms : Nat} {fs : List Value} (hd0 : dm (0, 0)) (he0 : ct (0, 0) = .inr (3, fs))
    (hM : CT l yX2_close cX2_close 7 (some FieldType.int) { frames := 7, cells := mc, slots := ms, locals := 122 } [.ref (ad (0, 0)), .int x] G A (ad, dm, ct) post px mc ms)
    (hfr : ∀ v w1, post v w1 → w1.2.1 (20, 0) ∧ w1.1 (20, 0) = ad (20, 0) ∧ (∃ f1, w1.2.2 (20, 0) = .inl (G.2.1 5, 1, .inr (.inl f1))) ∧ ∃ ans, v = some (.int ans)) (hpx : ∀ E, px E → E = "java/lang/IndexOutOfBoundsException") :
    CTH l yL_close cL_close 4 (some .int) [(0, 9, 12, 34)] { frames := 8, cells := mc, slots := ms, locals := 148 } [.ref (ad (0, 0)), .int x, .ref (ad (20, 0))] G A (ad, dm, ct) (WP post px (fun _ => 1) G (ad, dm, ct)) mc ms := by
  refine cth_of (by decide) (Nat.le_of_ble_eq_true rfl) ?_
  intro p e s m below meth c ls F hr hlk hex hE hW hl
  have hx := F.1
  have hb := F.2.1
  have hS : va_S A s.heap s.heap [] := va_S.rf
  have hl : lv_has ls 4 [(0, .ref (ad (0, 0))), (1, .int x), (2, .ref (ad (20, 0)))] := hl
  refine lv_aload_n hx hb dL_close_0 rfl (lv_at hl 2 rfl) ?_
  refine lv_iconst (v := nI 0) hx hb dL_close_1 (by decide) ?_
  refine lv_aload_n hx hb dL_close_2 rfl (lv_at hl 0 rfl) ?_
  refine lv_iload_n hx hb dL_close_3 rfl (lv_at hl 1 rfl) ?_
  refine kc_V 1 (hM) F hE hW hS (0, 0) hd0 he0 rfl [.int x] rfl kw_592 kw_593 kw_594 kw_1 kw_595 (by decide +kernel) rfl ⟨rfl, rfl⟩ ⟨Nat.le_of_ble_eq_true rfl, Nat.le_of_ble_eq_true rfl⟩ hl.1 rfl (Nat.le_of_ble_eq_true rfl) dL_close_4 ⟨(by show 0 + mc ≤ mc; omega), (by show 0 + ms ≤ ms; omega)⟩ (fun E q9 ce H locs hpx9 hW hS hce hcv hcl => ?_) (fun v w1 H locs hp hW hS => ?_)
  · obtain rfl := hpx E hpx9
    refine kr_c F hE [] ⟨0, 9, 12, 34⟩ [] (by rw [hex]; rfl) (fun z hz => by cases hz) (by decide) (by decide) kw_459 kn_470 hce hcv hcl ?_
    refine lv_astore_n (lv' := [(3, .ref q9), (0, .ref (ad (0, 0))), (1, .int x), (2, .ref (ad (20, 0)))]) hx hb dL_close_12 rfl hl (by decide) rfl (fun ls hl => ?_)
    refine lv_iconst (v := nI 1) hx hb dL_close_13 (by decide) ?_
    exact kr_i F hr hlk hE hW hS (by show 0 + mc ≤ mc; omega) (by show 0 + ms ≤ ms; omega) dL_close_14 (Or.inr ⟨_, hpx9, rfl, rfl⟩)
  · obtain ⟨hq1, hq2, ⟨f1, hq3⟩, ans, rfl⟩ := hfr _ _ hp
    refine lv_i2l hx hb dL_close_7 rfl ?_
    refine ks_l F hE hW hS (20, 0) hq1 hq2 hq3 0 rfl (by decide) (by decide) dL_close_8 (fun ct5 H locs hW hc5 hf5 hS => ?_)
    refine lv_goto (tgt := 15) hx hb dL_close_9 (by decide) ?_
    refine lv_iconst (v := nI 0) hx hb dL_close_15 (by decide) ?_
    exact kr_i F hr hlk hE hW hS (by show 0 + mc ≤ mc; omega) (by show 0 + ms ≤ ms; omega) dL_close_16 (Or.inl ⟨ans, w1, f1, hp, rfl, rfl, hc5, hf5, rfl⟩)
