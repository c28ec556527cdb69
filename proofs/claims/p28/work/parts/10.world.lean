/-! The world: cells by labels; one form of contract for every method; rows over it. -/
abbrev Lb : Type := Nat × Nat
/-- where each label's cell lies, which labels there are, what each cell holds -/
abbrev WS : Type := (Lb → Nat) × (Lb → Prop) × (Lb → va_E)
/-- the classes' numbers and slots; the array classes (int, int once more, Page, Cursor, Object); the list's shared empty array and the mirror of its class -/
abbrev GG : Type := va_G × (Nat → ClassId) × Nat × Nat
def tyG (G : GG) : List (ClassId × FieldType) := [(G.2.1 0, .int), (G.2.1 1, .int), (G.2.1 2, .object "Highkey$Page"), (G.2.1 3, .object "Highkey$Cursor"), (G.2.1 4, .object "java/lang/Object")]
def wd (G : GG) (A : Nat → Prop) (w : WS) (H : Heap) : Prop :=
  (∀ x, w.2.1 x → va_at G.1 vwCl (w.1 x, w.2.2 x) H) ∧ (∀ x y, w.2.1 x → w.2.1 y → w.1 x = w.1 y → x = y) ∧ ∀ x, w.2.1 x → A (w.1 x)
/-- what the tables and the statics give, wherever the machine stands -/
def EN (e0 : Nat × Nat) (A : Nat → Prop) (U : State) : Prop :=
  (∀ x, Cond.declares x ∈ lw_tbl → va_Nw (.declares x) U) ∧
  (∀ C T, Cond.castable C T ∈ lw_tbl → va_Nw (.castable C T) U) ∧
  (∀ C, Cond.arrayOver (.object C) ∈ lw_tbl → va_AO C U) ∧
  (∀ o k tx, Cond.stringRef o k tx ∈ lw_tbl → ∃ a, vk_R o k tx a U) ∧
  va_Mi "[Ljava/lang/Object;" e0.2 U ∧
  (va_Nc "java/lang/IllegalStateException" "java/lang/IllegalArgumentException" U ∧ va_Nc "java/lang/IndexOutOfBoundsException" "java/lang/IllegalArgumentException" U ∧ va_Nc "java/lang/IllegalStateException" "java/lang/IndexOutOfBoundsException" U) ∧
  vx_Zq Bundle.tN "UNASSIGNED_STACK" Bundle.steD A U U.heap ∧ vx_Zq Bundle.tN "SUPPRESSED_SENTINEL" Bundle.listD A U U.heap ∧
  va_Z "java/util/ArrayList" "DEFAULTCAPACITY_EMPTY_ELEMENTDATA" "[Ljava/lang/Object;" (.ref e0.1) A U U.heap ∧
  va_T (.object "java/lang/Object") e0.1 0 (fun _ => .null) A U U.heap
def VE (G : GG) (A : Nat → Prop) (U : State) : Prop := va_K G.1 vwCl (tyG G) U ∧ EN G.2.2 A U ∧ ∀ q, U.heap.size ≤ q → A q
def WR (G : GG) (A : Nat → Prop) (w : WS) (U : State) : Prop := VE G A U ∧ wd G A w U.heap
theorem EN.at {e0 : Nat × Nat} {A : Nat → Prop} {s U : State} {H : Heap} {locs : List Loc} (h : EN e0 A s) (hS : va_S A s.heap H locs) (hU : U.heap = H) (hW : s.WarmedH U.vm) : EN e0 A U := by
  obtain ⟨h1, h2, h3, h4, h5, h6, h7, h8, h9, h10⟩ := h
  refine ⟨fun x hx => (h1 x hx).warmD hW, fun C T hx => (h2 C T hx).warmC hW, fun C hx => (h3 C hx).moved hW.alike, fun o k tx hx => ?_, h5.moved hW.alike, ⟨h6.1.moved hW.alike, h6.2.1.moved hW.alike, h6.2.2.moved hW.alike⟩, ?_, ?_, ?_, ?_⟩
  · obtain ⟨a, ha⟩ := h4 o k tx hx
    exact ⟨a, ha.warm hW⟩
  · rw [hU]; exact (h7.kept hS.2.1).moved hW.alike
  · rw [hU]; exact (h8.kept hS.2.1).moved hW.alike
  · rw [hU]; exact (h9.kept hS.2.1).moved hW.alike
  · rw [hU]; exact (h10.kept hS.2.1).moved hW.alike
theorem VE.at {G : GG} {A : Nat → Prop} {s U : State} {H : Heap} {locs : List Loc} (h : VE G A s) (hS : va_S A s.heap H locs) (hU : U.heap = H) (hW : s.WarmedH U.vm) : VE G A U :=
  ⟨va_K.moved hW.alike h.1, h.2.1.at hS hU hW, fun q hq => h.2.2 q (Nat.le_trans hS.1 (by rw [hU] at hq; exact hq))⟩
theorem WR.at {G : GG} {A : Nat → Prop} {w : WS} {s U : State} {H : Heap} {locs : List Loc} (h : VE G A s) (hS : va_S A s.heap H locs) (hW : wd G A w H) (hU : U.heap = H) (hw : s.WarmedH U.vm) : WR G A w U :=
  ⟨h.at hS hU hw, by rw [hU]; exact hW⟩
theorem WR.blind {G : GG} {A : Nat → Prop} {w : WS} {U : State} {g : JFrame} {mk : MethodId} {a : Array Value} (h : WR G A w U) : WR G A w (U.calling g mk a) :=
  WR.at (H := U.heap) (locs := []) h.1 va_S.rf h.2 rfl (State.WarmedH.refl U)
/-- a contract's end: an answer and a world, nothing outside A touched; or an exception, the world as it was -/
def QK (G : GG) (A : Nat → Prop) (post : Option Value → WS → Prop) : Array Value → State → Outcome → State → Prop := fun _ st oc t =>
  (∃ (v : Option Value) (w : WS), oc = .returned v ∧ post v w ∧ WR G A w t) ∧ va_F A st t
def XK (G : GG) (A : Nat → Prop) (w : WS) (px : String → Prop) : String → State → State → Prop := fun E st t => (px E ∧ wd G A w t.heap) ∧ va_F A st t
def CT (l : Launch) (y : MethodName) (b : ByteArray) (n : Nat) (ret : Option FieldType) (rm : Room) (av : List Value) (G : GG) (A : Nat → Prop) (w : WS) (post : Option Value → WS → Prop) (px : String → Prop) (mc ms : Nat) : Prop :=
  vx_Met l y (.code y b n ret :: AL) rm (va_Pc av (WR G A w)) (QK G A post) (XK G A w px) mc ms A
abbrev Fx (p : Program) (m : MethodId) (c : Code) (cc : ByteArray) (nL : Nat) (s : State) (args : Array Value) (own : String) : Prop := CallFix p m c cc nL s args AL own
theorem ct_of {l : Launch} {y : MethodName} {b : ByteArray} {n : Nat} {ret : Option FieldType} {rm : Room} {av : List Value} {G : GG} {A : Nat → Prop} {w : WS} {post : Option Value → WS → Prop} {px : String → Prop} {mc ms : Nat}
    (hy : plainName y.cls = true) (hn : (lg_sl av).length ≤ n)
    (body : ∀ (p : Program) (e : Env) (s : State) (m : MethodId) (below : List Frame) (meth : Method) (c : Code) (ls : Array Slot), Fx p m c b n s av.toArray y.cls → meth.sig.returnType = ret → meth.locks = false → meth.name = y.name → (∀ x ∈ c.exceptionTable.toList, False) → VE G A s → wd G A w s.heap → lv_has ls n (lv_args 0 av) →
      W p l e rm s m av.toArray below meth c s.heap [] 0 0 (vx_MQ below (QK G A post) (XK G A w px) av.toArray s mc ms A) (F0 m 0 ls [])) : CT l y b n ret rm av G A w post px mc ms := by
  refine vx_ofW (cc := b) (maxL := n) (ret := ret) hy rfl ?_
  intro p e s m args below meth c s₁ B hml hex hv
  obtain ⟨rfl, hV⟩ := hv
  rw [lg_entry_eq]
  exact body p e s m below meth c _ ⟨B.exec, B.bytes, hml, findClass_of_methodNamed B.named, fun w hw => atoms_spec B.pre w (List.mem_cons_of_mem _ hw)⟩ B.returns B.notSynchronized (name_of_methodNamed B.named B.method).1 hex hV.1 hV.2 (lv_entry av hn)
section KC
variable {p : Program} {l : Launch} {e : Env} {R : Room} {s : State} {m : MethodId} {args : Array Value} {below : List Frame} {meth : Method} {c : Code} {H : Heap} {locs : List Loc} {cells slots : Nat} {Q : State → Prop}
variable {cc b : ByteArray} {pc nL n mc ms index : Nat} {ls : Array Slot} {rest st As av : List Value} {own C : String} {y : MethodName} {ret : Option FieldType} {rm : Room} {G : GG} {A : Nat → Prop} {w w' : WS} {post : Option Value → WS → Prop} {px : String → Prop} {XC : String → State → State → Prop}
theorem kr_i {v : Int32} (F : Fx p m c cc nL s args own) (hr : meth.sig.returnType = some .int) (hlk : meth.locks = false) (hE : VE G A s) (hW : wd G A w' H) (hS : va_S A s.heap H locs) (h1 : cells ≤ mc) (h2 : slots ≤ ms) (hdg : decode cc pc = .ok (.ireturn, 1)) (hp : post (some (.int v)) w') :
    W p l e R s m args below meth c H locs cells slots (vx_MQ below (QK G A post) XC args s mc ms A) (F0 m pc ls [.int v]) :=
  W.widen h1 h2 (vx_ret (W.iret F.1 F.2.1 hr (fun t ht hv => ⟨⟨_, _, rfl, hp, WR.at hE hS hW ht hv⟩, hS.F ht⟩) hS.2.2 hdg hlk))
theorem kr_z {v : Int32} {ty : FieldType} (F : Fx p m c cc nL s args own) (hr : meth.sig.returnType = some ty) (hlk : meth.locks = false) (hE : VE G A s) (hW : wd G A w' H) (hS : va_S A s.heap H locs) (h1 : cells ≤ mc) (h2 : slots ≤ ms) (hn : narrow ty (.int v) = .int v) (hdg : decode cc pc = .ok (.ireturn, 1)) (hp : post (some (.int v)) w') :
    W p l e R s m args below meth c H locs cells slots (vx_MQ below (QK G A post) XC args s mc ms A) (F0 m pc ls [.int v]) :=
  W.widen h1 h2 (vx_ret (W.zret F.1 F.2.1 hr hn (fun t ht hv => ⟨⟨_, _, rfl, hp, WR.at hE hS hW ht hv⟩, hS.F ht⟩) hS.2.2 hdg hlk))
theorem kr_v (F : Fx p m c cc nL s args own) (hr : meth.sig.returnType = none) (hlk : meth.locks = false) (hE : VE G A s) (hW : wd G A w' H) (hS : va_S A s.heap H locs) (h1 : cells ≤ mc) (h2 : slots ≤ ms) (hdg : decode cc pc = .ok (.return_, 1)) (hp : post none w') :
    W p l e R s m args below meth c H locs cells slots (vx_MQ below (QK G A post) XC args s mc ms A) (F0 m pc ls []) :=
  W.widen h1 h2 (vx_ret (W.vret F.1 F.2.1 hr (fun t ht hv => ⟨⟨_, _, rfl, hp, WR.at hE hS hW ht hv⟩, hS.F ht⟩) hS.2.2 hdg hlk))
theorem kr_a {v : Value} {rt : FieldType} (F : Fx p m c cc nL s args own) (hr : meth.sig.returnType = some rt) (hlk : meth.locks = false) (hE : VE G A s) (hW : wd G A w' H) (hS : va_S A s.heap H locs) (h1 : cells ≤ mc) (h2 : slots ≤ ms) (hrt : (∃ n, rt = .object n) ∨ ∃ t, rt = .array t) (hv0 : v = .null ∨ ∃ a, v = .ref a) (hdg : decode cc pc = .ok (.areturn, 1)) (hp : post (some v) w') :
    W p l e R s m args below meth c H locs cells slots (vx_MQ below (QK G A post) XC args s mc ms A) (F0 m pc ls [v]) :=
  W.widen h1 h2 (vx_ret (W.aret F.1 F.2.1 hr hrt hv0 (fun t ht hv => ⟨⟨_, _, rfl, hp, WR.at hE hS hW ht hv⟩, hS.F ht⟩) hS.2.2 hdg hlk))
/-- behind a call -/
theorem kc_run {a : Array Value} (hr : vx_Run p l e R s m args below meth c H locs cells slots mc ms (F0 m pc ls st) rest (QK G A post a) (XK G A w px) A) (hS : va_S A s.heap H locs)
    (kx : ∀ (E : String) (q9 : Addr) (ce : Cell) (H1 : Heap) (locs1 : List Loc), px E → wd G A w H1 → va_S A s.heap H1 locs1 → H1[q9]? = some ce → ce.vm = .none → s.vm.findClass E = some ce.cls → vx_W p l e R s m args below meth c H1 locs1 (cells + mc) (slots + ms) Q (F0 m pc ls rest) q9)
    (kk : ∀ (v : Option Value) (w' : WS) (H1 : Heap) (locs1 : List Loc), post v w' → wd G A w' H1 → va_S A s.heap H1 locs1 → W p l e R s m args below meth c H1 locs1 (cells + mc) (slots + ms) Q (F0 m (pc + 3) ls (v.toList ++ rest))) :
    W p l e R s m args below meth c H locs cells slots Q (F0 m pc ls st) := by
  intro T hT X
  rcases hr T hT X with ⟨v, st₀, t, T', L, h0, X', hL, e1, e2, ⟨⟨v', w', hv, hp, hb⟩, hF⟩, st⟩ | ⟨q, st₀, t, T', L, E, ce, h0, X', hL, e1, e2, ⟨⟨hp, hb⟩, hF⟩, hce, hcv, hcl, st⟩
  · cases hv
    obtain ⟨k1, k2, k3⟩ := vx_keep (A1 := A) h0 e1 hS (fun _ _ h => h) (fun _ h => h) hL hF
    obtain ⟨t2, a1, b1⟩ := kk v w' T'.heap (locs ++ L) hp (by rw [e1]; exact hb.2) k3 T' rfl X'
    exact ⟨t2, st t2 a1, b1⟩
  · obtain ⟨k1, k2, k3⟩ := vx_keep (A1 := A) h0 e1 hS (fun _ _ h => h) (fun _ h => h) hL hF
    obtain ⟨t2, a1, b1⟩ := kx E q ce T'.heap (locs ++ L) hp (by rw [e1]; exact hb) k3 (by rw [e1]; exact hce) hcv hcl T' rfl X'
    exact ⟨t2, st.trans a1, b1⟩
theorem wd_recv {x : Lb} {ci : Nat} {fs : List Value} {q : vw_C} (hK : va_K G.1 vwCl (tyG G) s) (hW : wd G A w H) (hd : w.2.1 x) (he : w.2.2 x = .inr (ci, fs)) (hc : vwCl[ci]? = some q) : ∃ cell : Cell, H[w.1 x]? = some cell ∧ cell.vm.isStatics = false ∧ s.vm.findClass q.1 = some cell.cls := by
  have h := hW.1 x hd
  rw [he] at h
  obtain ⟨q', h1, cell, g1, g2, g3, -⟩ := h
  exact ⟨cell, g1, by rw [g3]; rfl, by rw [g2]; exact (hK.1 ci q hc).2.1⟩
theorem kc_V (np : Nat) (hM : CT l y b n ret rm av G A w post px mc ms) (F : Fx p m c cc nL s args own) (hE : VE G A s) (hW : wd G A w H) (hS : va_S A s.heap H locs)
    (x : Lb) (hd : w.2.1 x) {ci : Nat} {fs : List Value} (he : w.2.2 x = .inr (ci, fs)) {T : u_T} {N : Nat} (hc : vwCl[ci]? = some (C, T, N)) (As : List Value) (hav : av = .ref (w.1 x) :: As)
    (k1 : Cond.methodLink own index y ∈ AL) (k2 : Cond.instanceMethod y ∈ AL) (k3 : Cond.selects C y y ∈ AL) (k4 : Cond.initialized C ∈ AL) (k5 : Cond.code y b n ret ∈ AL)
    (hd2 : y.cls = C ∧ y.cls ≠ "java/lang/invoke/MethodHandle" ∧ y.cls ≠ "java/lang/invoke/VarHandle" ∧ (parseMethodDescriptor y.desc).map (fun d => d.parameters.length) = some np) (hnp : As.length = np)
    (hrm : rm.cells = mc ∧ rm.slots = ms) (hR : rm.frames + 1 ≤ R.frames ∧ 8 + (n + 11) + rm.locals ≤ R.locals) (hls : ls.size = nL) (hst : st = As.reverse ++ .ref (w.1 x) :: rest) (hcat : (rest.map fun v => v.category).sum ≤ 8) (hdg : decode cc pc = .ok (.invokevirtual index, 3)) (hf : cells + mc ≤ R.cells ∧ slots + ms ≤ R.slots)
    (kx : ∀ (E : String) (q9 : Addr) (ce : Cell) (H1 : Heap) (locs1 : List Loc), px E → wd G A w H1 → va_S A s.heap H1 locs1 → H1[q9]? = some ce → ce.vm = .none → s.vm.findClass E = some ce.cls → vx_W p l e R s m args below meth c H1 locs1 (cells + mc) (slots + ms) Q (F0 m pc ls rest) q9)
    (kk : ∀ (v : Option Value) (w' : WS) (H1 : Heap) (locs1 : List Loc), post v w' → wd G A w' H1 → va_S A s.heap H1 locs1 → W p l e R s m args below meth c H1 locs1 (cells + mc) (slots + ms) Q (F0 m (pc + 3) ls (v.toList ++ rest))) :
    W p l e R s m args below meth c H locs cells slots Q (F0 m pc ls st) := by
  subst hav
  have hG : GoodIn AL (wsV own index C y (.code y b n ret :: AL)) := by
    intro w hw
    unfold wsV at hw
    rcases List.mem_append.mp hw with h | h
    · simp only [List.mem_cons, List.not_mem_nil, or_false] at h
      rcases h with rfl | rfl | rfl | rfl <;> exact gAL _ (by assumption)
    · rcases List.mem_cons.mp h with rfl | h
      · exact gAL _ k5
      · exact gAL _ h
  exact kc_run (vx_runV (As := As) (rest := rest) F hM (cwV np F.2.2.2.2 hG rfl hrm.1 hrm.2 hd2 hR)
    ⟨fun a U g mk h => ⟨h.1, h.2.blind⟩, wd_recv hE.1 hW hd he hc, fun U hU hw => ⟨rfl, WR.at hE hS hW hU hw⟩⟩ rfl hnp hls hst (by simpa [JFrame.monitorRoom] using hcat) hdg hf) hS kx kk
theorem kc_S (np : Nat) (hM : CT l y b n ret rm As G A w post px mc ms) (F : Fx p m c cc nL s args own) (hE : VE G A s) (hW : wd G A w H) (hS : va_S A s.heap H locs)
    (k1 : Cond.methodLink own index y ∈ AL) (k2 : Cond.static y ∈ AL) (k4 : Cond.initialized y.cls ∈ AL) (k5 : Cond.code y b n ret ∈ AL)
    (hd2 : y.cls ≠ "java/lang/invoke/MethodHandle" ∧ y.cls ≠ "java/lang/invoke/VarHandle" ∧ (parseMethodDescriptor y.desc).map (fun d => d.parameters.length) = some np) (hnp : As.length = np)
    (hrm : rm.cells = mc ∧ rm.slots = ms) (hR : rm.frames + 1 ≤ R.frames ∧ 8 + (n + 11) + rm.locals ≤ R.locals) (hls : ls.size = nL) (hst : st = As.reverse ++ rest) (hcat : (rest.map fun v => v.category).sum ≤ 8) (hdg : decode cc pc = .ok (.invokestatic index, 3)) (hf : cells + mc ≤ R.cells ∧ slots + ms ≤ R.slots)
    (kx : ∀ (E : String) (q9 : Addr) (ce : Cell) (H1 : Heap) (locs1 : List Loc), px E → wd G A w H1 → va_S A s.heap H1 locs1 → H1[q9]? = some ce → ce.vm = .none → s.vm.findClass E = some ce.cls → vx_W p l e R s m args below meth c H1 locs1 (cells + mc) (slots + ms) Q (F0 m pc ls rest) q9)
    (kk : ∀ (v : Option Value) (w' : WS) (H1 : Heap) (locs1 : List Loc), post v w' → wd G A w' H1 → va_S A s.heap H1 locs1 → W p l e R s m args below meth c H1 locs1 (cells + mc) (slots + ms) Q (F0 m (pc + 3) ls (v.toList ++ rest))) :
    W p l e R s m args below meth c H locs cells slots Q (F0 m pc ls st) := by
  have hG : GoodIn AL (va_wsS own index y (.code y b n ret :: AL)) := by
    intro w hw
    unfold va_wsS at hw
    rcases List.mem_append.mp hw with h | h
    · simp only [List.mem_cons, List.not_mem_nil, or_false] at h
      rcases h with rfl | rfl | rfl <;> exact gAL _ (by assumption)
    · rcases List.mem_cons.mp h with rfl | h
      · exact gAL _ k5
      · exact gAL _ h
  exact kc_run (vx_runS (As := As) (rest := rest) F hM (va_cwS np F.2.2.2.2 hG rfl hrm.1 hrm.2 hd2 hR)
    ⟨fun a U g mk h => ⟨h.1, h.2.blind⟩, fun U hU hw => ⟨rfl, WR.at hE hS hW hU hw⟩⟩ rfl hnp hls hst (by simpa [JFrame.monitorRoom] using hcat) hdg hf) hS kx kk
end KC
