/-! The law's 'cell', which reads the script; 'act' case by case. -/
def CTX (l : Launch) (y : MethodName) (b : ByteArray) (n : Nat) (ret : Option FieldType) (rm : Room) (av : List Value) (G : GG) (A : Nat → Prop) (w : WS) (bx L : Nat) (xs : Nat → Int32) (post : Option Value → WS → Prop) (mc ms : Nat) : Prop :=
  vx_Met l y (.code y b n ret :: AL) rm (va_Pc av (fun U => WR G A w U ∧ va_X bx L xs U U.heap)) (QK G A post) (XK G A w (fun _ => False)) mc ms A
theorem ctx_of {l : Launch} {y : MethodName} {b : ByteArray} {n : Nat} {ret : Option FieldType} {rm : Room} {av : List Value} {G : GG} {A : Nat → Prop} {w : WS} {bx L : Nat} {xs : Nat → Int32} {post : Option Value → WS → Prop} {mc ms : Nat}
    (hy : plainName y.cls = true) (hn : (lg_sl av).length ≤ n)
    (body : ∀ (p : Program) (e : Env) (s : State) (m : MethodId) (below : List Frame) (meth : Method) (c : Code) (ls : Array Slot), Fx p m c b n s av.toArray y.cls → meth.sig.returnType = ret → meth.locks = false → VE G A s → wd G A w s.heap → va_X bx L xs s s.heap → lv_has ls n (lv_args 0 av) →
      W p l e rm s m av.toArray below meth c s.heap [] 0 0 (vx_MQ below (QK G A post) (XK G A w (fun _ => False)) av.toArray s mc ms A) (F0 m 0 ls [])) : CTX l y b n ret rm av G A w bx L xs post mc ms := by
  refine vx_ofW (cc := b) (maxL := n) (ret := ret) hy rfl ?_
  intro p e s m args below meth c s₁ B hml hex hv
  obtain ⟨rfl, hV, hX⟩ := hv
  rw [lg_entry_eq]
  exact body p e s m below meth c _ ⟨B.exec, B.bytes, hml, findClass_of_methodNamed B.named, fun w hw => atoms_spec B.pre w (List.mem_cons_of_mem _ hw)⟩ B.returns B.notSynchronized hV.1 hV.2 hX (lv_entry av hn)
theorem X_blind {bx L : Nat} {xs : Nat → Int32} {U : State} {g : JFrame} {mk : MethodId} {a : Array Value} (h : va_X bx L xs U U.heap) : va_X bx L xs (U.calling g mk a) (U.calling g mk a).heap :=
  va_X.moved (u := U) (U := U.calling g mk a) (State.WarmedH.refl U).alike h
section KX
variable {p : Program} {l : Launch} {e : Env} {R : Room} {s : State} {m : MethodId} {args : Array Value} {below : List Frame} {meth : Method} {c : Code} {H : Heap} {locs : List Loc} {cells slots : Nat} {Q : State → Prop}
variable {cc b : ByteArray} {pc nL n mc ms index : Nat} {ls : Array Slot} {rest st As av : List Value} {own C : String} {y : MethodName} {ret : Option FieldType} {rm : Room} {G : GG} {A : Nat → Prop} {w w' : WS} {bx L : Nat} {xs : Nat → Int32} {post : Option Value → WS → Prop}
theorem kc_SX (np : Nat) (hM : CTX l y b n ret rm As G A w bx L xs post mc ms) (F : Fx p m c cc nL s args own) (hE : VE G A s) (hX : va_X bx L xs s s.heap) (hbl : bx < s.heap.size) (hbA : ¬ A bx) (hW : wd G A w H) (hS : va_S A s.heap H locs)
    (k1 : Cond.methodLink own index y ∈ AL) (k2 : Cond.static y ∈ AL) (k4 : Cond.initialized y.cls ∈ AL) (k5 : Cond.code y b n ret ∈ AL)
    (hd2 : y.cls ≠ "java/lang/invoke/MethodHandle" ∧ y.cls ≠ "java/lang/invoke/VarHandle" ∧ (parseMethodDescriptor y.desc).map (fun d => d.parameters.length) = some np) (hnp : As.length = np)
    (hrm : rm.cells = mc ∧ rm.slots = ms) (hR : rm.frames + 1 ≤ R.frames ∧ 8 + (n + 11) + rm.locals ≤ R.locals) (hls : ls.size = nL) (hst : st = As.reverse ++ rest) (hcat : (rest.map fun v => v.category).sum ≤ 8) (hdg : decode cc pc = .ok (.invokestatic index, 3)) (hf : cells + mc ≤ R.cells ∧ slots + ms ≤ R.slots)
    (kk : ∀ (v : Option Value) (w' : WS) (H1 : Heap) (locs1 : List Loc), post v w' → wd G A w' H1 → va_S A s.heap H1 locs1 → W p l e R s m args below meth c H1 locs1 (cells + mc) (slots + ms) Q (F0 m (pc + 3) ls (v.toList ++ rest))) :
    W p l e R s m args below meth c H locs cells slots Q (F0 m pc ls st) := by
  have hG : GoodIn AL (va_wsS own index y (.code y b n ret :: AL)) := by
    intro w hw
    unfold va_wsS at hw
    rcases List.mem_append.mp hw with h | h
    · simp only [List.mem_cons, List.not_mem_nil, or_false] at h
      rcases h with rfl | rfl | rfl <;> exact gAL _ (by assumption)
    · rcases List.mem_cons.mp h with rfl | h
      · exact gAL _ k5
      · exact gAL _ h
  exact kc_run (vx_runS (As := As) (rest := rest) F hM (va_cwS np F.2.2.2.2 hG rfl hrm.1 hrm.2 hd2 hR)
    ⟨fun a U g mk h => ⟨h.1, h.2.1.blind, X_blind h.2.2⟩, fun U hU hw => ⟨rfl, WR.at hE hS hW hU hw, by rw [hU]; exact (hX.kept (hS.2.1 bx hbl hbA)).moved hw.alike⟩⟩ rfl hnp hls hst (by simpa [JFrame.monitorRoom] using hcat) hdg hf) hS (fun _ _ _ _ _ h => h.elim) kk
end KX
section AE
variable {s : SG} {v : Int32}
theorem act_0 (h : lowN v 32 < 16) : actF s v = doF 0 s (kyV v) (vlV v) := if_pos h
theorem act_1 {B : Nat} (h : 16 ≤ lowN v 32) (h2 : lowN v 32 < 22) (hB : (lowN v 32 < 19 ∧ B = 1) ∨ (19 ≤ lowN v 32 ∧ B = 7)) : actF s v = ((tkL (kyV v) B 0 s (nI 0)).1, (tkL (kyV v) B 0 s (nI 0)).2 &&& (1073741823 : Int32)) := by
  have e : (if lowN v 32 < 19 then 1 else 7) = B := by
    rcases hB with ⟨q, rfl⟩ | ⟨q, rfl⟩
    · exact if_pos q
    · exact if_neg (by omega)
  unfold actF
  rw [if_neg (by omega), if_pos h2, e]
theorem act_2 (h : 22 ≤ lowN v 32) (h2 : lowN v 32 < 25) : actF s v = doF 2 s (nI 0) (nI 0) := by
  unfold actF; rw [if_neg (by omega), if_neg (by omega), if_pos h2]
theorem act_3 (h : lowN v 32 = 25) : actF s v = ((paS 1024 s).1, nI (paS 1024 s).2) := by
  unfold actF; rw [if_neg (by omega), if_neg (by omega), if_neg (by omega), if_pos (by omega)]
theorem act_4 (h : 26 ≤ lowN v 32) (h2 : lowN v 32 < 28) : actF s v = ((touF s).1, oI (touF s).2) := by
  unfold actF; rw [if_neg (by omega), if_neg (by omega), if_neg (by omega), if_neg (by omega), if_pos h2]
theorem act_5 (h : lowN v 32 = 28) : actF s v = ((recS s).1, nI (recS s).2) := by
  unfold actF; rw [if_neg (by omega), if_neg (by omega), if_neg (by omega), if_neg (by omega), if_neg (by omega), if_pos (by omega)]
theorem act_6 (h : lowN v 32 = 29) : actF s v = doF 3 s (kyV v) (nI 0) := by
  unfold actF; rw [if_neg (by omega), if_neg (by omega), if_neg (by omega), if_neg (by omega), if_neg (by omega), if_neg (by omega), if_pos h]
theorem act_7 (h : lowN v 32 = 30) (h2 : (v >>> (nI 9 &&& 31)) &&& nI 1 = 0) : actF s v = doF 5 s (nI (lowN (v >>> (nI 5 &&& 31)) 8)) (nI 0) := by
  unfold actF; rw [if_neg (by omega), if_neg (by omega), if_neg (by omega), if_neg (by omega), if_neg (by omega), if_neg (by omega), if_neg (by omega), if_pos ⟨h, h2⟩]
theorem act_8 {N : Nat} (h : 30 ≤ lowN v 32) (h2 : ¬ (lowN v 32 = 30 ∧ (v >>> (nI 9 &&& 31)) &&& nI 1 = 0)) (hN : (if odB v = true then 30 else 6) = N) : actF s v = doF 4 s (nI (lowN (v >>> (nI 5 &&& 31)) N)) (nI 0) := by
  unfold actF; rw [if_neg (by omega), if_neg (by omega), if_neg (by omega), if_neg (by omega), if_neg (by omega), if_neg (by omega), if_neg (by omega), if_neg h2, hN]
theorem actP_25 (h : lowN v 32 = 25) : actP s v = (paS 1024 s).2 := if_pos h
end AE
set_option maxRecDepth 100000 in
set_option maxHeartbeats 4000000 in
theorem c_L_cell (l : Launch) (G : GG) (A : Nat → Prop) (w : WS) (bx L : Nat) (xs : Nat → Int32) (hbA : ¬ A bx) (hL : L < 2 ^ 31) (k : Nat) (hk : k < 2 ^ 31) :
    CTX l yL_cell cL_cell 2 (some FieldType.int) { frames := 0, cells := 0, slots := 0, locals := 0 } [.ref bx, .int (nI k)] G A w bx L xs (fun v w' => w = w' ∧ ∃ x, v = some (.int x)) 0 0 := by
  refine ctx_of (by decide) (Nat.le_of_ble_eq_true rfl) ?_
  intro p e s m below meth c ls F hr hlk hE hW hX hl
  have hx := F.1
  have hb := F.2.1
  have hS : va_S A s.heap s.heap [] := va_S.rf
  have hbl : bx < s.heap.size := by
    obtain ⟨scr, h1, -⟩ := hX
    exact (Array.getElem?_eq_some_iff.mp h1).1
  have hl : lv_has ls 2 [(0, .ref bx), (1, .int (nI k))] := hl
  refine lv_iload_n hx hb dL_cell_0 rfl (lv_at hl 1 rfl) ?_
  refine lv_aload_n hx hb dL_cell_1 rfl (lv_at hl 0 rfl) ?_
  refine va_slen hx hb hX hbl hbA hS dL_cell_2 ?_
  refine ktop (y := nI L) rfl ?_
  refine nc_ge (tgt := 12) hx hb dL_cell_3 (by decide) (by omega) (by omega) (fun c1 => ?_) (fun c1 => ?_)
  · refine lv_sipush (v := nI 7919) hx hb dL_cell_12 (by decide) ?_
    refine lv_iload_n hx hb dL_cell_15 rfl (lv_at hl 1 rfl) ?_
    refine lv_sipush (v := nI 463) hx hb dL_cell_16 (by decide) ?_
    refine lv_iadd hx hb dL_cell_19 ?_
    refine ktop (nI_add _ _) ?_
    refine lv_imul hx hb dL_cell_20 ?_
    refine ktop (pk_mul _ _) ?_
    refine lv_iload_n hx hb dL_cell_21 rfl (lv_at hl 1 rfl) ?_
    refine lv_sipush (v := nI 2767) hx hb dL_cell_22 (by decide) ?_
    refine lv_iadd hx hb dL_cell_25 ?_
    refine ktop (nI_add _ _) ?_
    refine lv_imul hx hb dL_cell_26 ?_
    refine ktop (pk_mul _ _) ?_
    exact kr_i F hr hlk hE hW hS (Nat.le_of_ble_eq_true rfl) (Nat.le_of_ble_eq_true rfl) dL_cell_27 (⟨rfl, _, rfl⟩)
  · refine lv_aload_n hx hb dL_cell_6 rfl (lv_at hl 0 rfl) ?_
    refine lv_iload_n hx hb dL_cell_7 rfl (lv_at hl 1 rfl) ?_
    refine va_sld hx hb hX hbl hbA hS (nI_vp (j := k) rfl c1 hL) dL_cell_8 ?_
    generalize xs (nI k).toNatClampNeg = x9
    refine lv_goto (tgt := 27) hx hb dL_cell_9 (by decide) ?_
    exact kr_i F hr hlk hE hW hS (Nat.le_of_ble_eq_true rfl) (Nat.le_of_ble_eq_true rfl) dL_cell_27 (⟨rfl, _, rfl⟩)
