/-! New cells; calls of constructors; a new page. -/
section VXIA
variable {p : Program} {l : Launch} {e : Env} {R : Room} {s : State} {m : MethodId} {args : Array Value} {below : List Frame} {meth : Method} {c : Code} {T : State} {locs : List Loc} {cells slots : Nat}
theorem vx_callI (X : Stand p l e R s m args below meth c T locs cells slots) (hexec : p.tables.exec = Jvm.exec) {own : String} {index : Nat} {y : MethodName} {bytes : ByteArray} {maxL : Nat}
    (hown : s.vm.findClass own = some m.cls) (hy1 : y.name = "<init>") (hlink : (Cond.methodLink own index y).before args s = true) (hinst : (Cond.instanceMethod y).before args s = true)
    (hcode : (Cond.code y bytes maxL none).before args s = true) (hy : y.cls ≠ "java/lang/invoke/MethodHandle" ∧ y.cls ≠ "java/lang/invoke/VarHandle")
    {W9 : Nat} {Pre : Pt → Array Value → Prop} {Post : Pt → Array Value → Option Value → Pt → Prop} {PostX : Pt → Array Value → Addr → Pt → Prop} (hK : vx_Back l R p e below s args y 3 W9 Pre Post PostX)
    {g : JFrame} (hg : g.method = m) (hsize : g.locals.size = c.maxLocals) {a : Addr} {argsL rest : List Value} (hlen : ∀ sig, parseMethodDescriptor y.desc = some sig → argsL.length = sig.parameters.length)
    (hstack : g.stack = argsL.reverse ++ .ref a :: rest) (hW : 2 * g.monitorRoom + (rest.map fun v => v.category).sum ≤ W9) (hdg : decode c.code g.pc = .ok (.invokespecial index, 3))
    (hpre : ∀ vm₁, s.WarmedH vm₁ → Pre ⟨T.setVm vm₁, locs, cells, slots⟩ (Value.ref a :: argsL).toArray) :
    (∃ (v : Option Value) (vm₁ : Vm) (B : Pt), s.WarmedH vm₁ ∧ Stand p l e R s m args below meth c B.U B.locs B.cells B.slots ∧ Post ⟨T.setVm vm₁, locs, cells, slots⟩ (Value.ref a :: argsL).toArray v B ∧
      ∀ target, Steps p.tables e below (B.U.setTop { g with pc := g.pc + 3, stack := v.toList ++ rest }) target → Steps p.tables e below (T.setTop g) target) ∨
    (∃ (q : Addr) (vm₁ : Vm) (B : Pt), s.WarmedH vm₁ ∧ Stand p l e R s m args below meth c B.U B.locs B.cells B.slots ∧ PostX ⟨T.setVm vm₁, locs, cells, slots⟩ (Value.ref a :: argsL).toArray q B ∧
      Steps p.tables e below (T.setTop g) ((B.U.setTop { g with stack := rest }).pushFrame (.throwing q))) := by
  subst hg
  have hpl : e.platform.magicAccessors = ({} : Platform).magicAccessors := by rw [X.admits.platform]
  obtain ⟨mk, methM, cM, kP, vm₁, hnamed, hmethM, hcodeM, -, hlocalsM, -, hkP, -, hW₁, hstep₁⟩ := Steps.initColdArgs (e := e) X.here hexec X.warmed hpl hown hy1 hy hlink hinst hcode (f := g) rfl hlen hstack hdg
  have X₁ := X.noted hW₁
  rcases hK g.method meth c ⟨T.setVm vm₁, locs, cells, slots⟩ { g with stack := rest } (.invokespecial index) mk (Value.ref a :: argsL).toArray X₁ rfl hsize hdg hW (X₁.named hnamed) (hpre vm₁ X₁.warmed) with ⟨v, B, X', hpost, hsteps⟩ | ⟨q, B, X', hpost, hsteps⟩
  · exact Or.inl ⟨v, vm₁, B, X₁.warmed, X', hpost, fun target h => hstep₁ _ fun acts => by rw [doInvoke_state]; exact hsteps.trans h⟩
  · exact Or.inr ⟨q, vm₁, B, X₁.warmed, X', hpost, hstep₁ _ fun acts => by rw [doInvoke_state]; exact hsteps⟩
end VXIA
section VXIB
variable {p : Program} {l : Launch} {e : Env} {R : Room} {s : State} {m : MethodId} {args : Array Value} {below : List Frame} {meth : Method} {c : Code} {H : Heap} {locs : List Loc} {cells slots : Nat}
variable {y : MethodName} {bytes cc : ByteArray} {maxL nL mc ms n index : Nat} {ret : Option FieldType} {ws : List Cond} {rm : Room} {Pc : Array Value → State → Prop} {Qc : Array Value → State → Outcome → State → Prop} {XC : String → State → State → Prop} {free : Addr → Prop} {Ts : List Cond} {own C : String} {b : Addr} {As rest : List Value} {g : JFrame}
theorem vx_runI (S : CallFix p m c cc nL s args Ts own) (hM : vx_Met l y ws rm Pc Qc XC mc ms free) (cw : CallB R s args own index y bytes maxL none ws rm mc ms n ∧ y.name = "<init>" ∧ (Cond.instanceMethod y).before args s = true) (hp : PreS s H Pc (.ref b :: As))
    (hg : g.method = m) (hn : As.length = n) (hsize : g.locals.size = nL) (hstack : g.stack = As.reverse ++ .ref b :: rest) (hW : 2 * g.monitorRoom + (rest.map fun v => v.category).sum ≤ 8) (hdg : decode cc g.pc = .ok (.invokespecial index, 3)) (hf : cells + mc ≤ R.cells ∧ slots + ms ≤ R.slots) :
    vx_Run p l e R s m args below meth c H locs cells slots mc ms g rest (Qc (Value.ref b :: As).toArray) XC free := by
  have hK : vx_Back l R p e below s args y 3 8 (PreOf R mc ms Pc) (PostOf Qc mc ms free) (vx_Post XC mc ms free) := vx_callBack cw.1 hM hp.1
  obtain ⟨⟨-, -, -, -, -, -, hcode, -, hy, hlen, hl⟩, hy1, hin⟩ := cw
  obtain ⟨hx, hb, hml, ho, -⟩ := S
  have hPc := hp.2
  intro T hT X
  rcases vx_callI X hx (bytes := bytes) (maxL := maxL) ho hy1 hl hin hcode hy hK hg (hsize.trans hml.symm) (a := b) (argsL := As) (rest := rest) (fun sig h => hn.trans (hlen sig h)) hstack hW (by rw [hb]; exact hdg)
    (fun vm₁ hW₁ => ⟨hf.1, hf.2, hPc (T.setVm vm₁) hT hW₁⟩) with ⟨v, vm₁, ⟨U', l2, c2, s2⟩, hW₁, X', ⟨g', mk, t, L, e1, e2, hq, h1, hL, h2, h3⟩, st⟩ | ⟨q, vm₁, ⟨U', l2, c2, s2⟩, hW₁, X', ⟨g', mk, t, L, E, ce, e1, e2, hq, hce, hcv, hcl, h1, hL, h2, h3⟩, st⟩
  · dsimp only [Pt.U, Pt.locs, Pt.cells, Pt.slots] at X' e1 e2 h1 h2 h3 st
    subst h1; subst h2; subst h3
    exact Or.inl ⟨v, (T.setVm vm₁).calling g' mk (Value.ref b :: As).toArray, t, U', L, hT, X', hL, e1, e2, hq, st⟩
  · dsimp only [Pt.U, Pt.locs, Pt.cells, Pt.slots] at X' e1 e2 h1 h2 h3 st hcl
    subst h1; subst h2; subst h3
    exact Or.inr ⟨q, (T.setVm vm₁).calling g' mk (Value.ref b :: As).toArray, t, U', L, E, ce, hT, X', hL, e1, e2, hq, hce, hcv, vx_cls hW₁ hcl, st⟩
end VXIB
/-- a new label: where the old ones lie and what they hold stays -/
def NW (x : Lb) (e : va_E) (ad : Lb → Nat) (dm : Lb → Prop) (ct : Lb → va_E) (ad1 : Lb → Nat) (dm1 : Lb → Prop) (ct1 : Lb → va_E) : Prop :=
  (∀ z : Lb, z ≠ x → ad1 z = ad z ∧ ct1 z = ct z) ∧ ct1 x = e ∧ ∀ z : Lb, dm1 z ↔ (z = x ∨ dm z)
theorem NW.of {x : Lb} {e : va_E} {q : Nat} {ad : Lb → Nat} {dm : Lb → Prop} {ct : Lb → va_E} : NW x e ad dm ct (wnew (ad, dm, ct) x q e).1 (wnew (ad, dm, ct) x q e).2.1 (wnew (ad, dm, ct) x q e).2.2 :=
  ⟨fun z hz => ⟨if_neg hz, lu_n hz⟩, lu_s, fun z => Iff.rfl⟩
section KN
variable {p : Program} {l : Launch} {e : Env} {R : Room} {s : State} {m : MethodId} {args : Array Value} {below : List Frame} {meth : Method} {c : Code} {H : Heap} {locs : List Loc} {cells slots : Nat} {Q : State → Prop}
variable {cc b : ByteArray} {pc nL n mc ms index : Nat} {ls : Array Slot} {rest st : List Value} {own : String} {y : MethodName} {rm : Room} {G : GG} {A : Nat → Prop} {ad : Lb → Nat} {dm : Lb → Prop} {ct : Lb → va_E} {w : WS} {post : Option Value → WS → Prop} {px : String → Prop}
theorem no (F : Fx p m c cc nL s args own) (hE : VE G A s) (hW : wd G A (ad, dm, ct) H) (hS : va_S A s.heap H locs) (x : Lb) (hx : ¬ dm x) {ci : Nat} {C : String} {T : u_T} {N : Nat} (hc : vwCl[ci]? = some (C, T, N)) (hin : ∀ u ∈ u_ws C T N, u ∈ AL) (ty0 : Nat → FieldType) (hty : ∀ k, k < N → parseFieldDescriptor (T k).2.2.1 = some (ty0 k))
    (hcl : Cond.classLink own index C ∈ AL) (hinst : Cond.instantiable C N ∈ AL) (hini : Cond.initialized C ∈ AL) (fs : List Value) (hfs : ∀ j, j < N → defaultValue (ty0 j) = vp_V fs j) (hcells : cells + 1 ≤ R.cells) (hslots : slots + N ≤ R.slots) (hdg : decode cc pc = .ok (.new index, 3))
    (kk : ∀ (ad1 : Lb → Nat) (dm1 : Lb → Prop) (ct1 : Lb → va_E) (H1 : Heap), wd G A (ad1, dm1, ct1) H1 → NW x (.inr (ci, fs)) ad dm ct ad1 dm1 ct1 → va_S A s.heap H1 locs → W p l e R s m args below meth c H1 locs (cells + 1) (slots + N) Q (F0 m (pc + 3) ls (.ref (ad1 x) :: rest))) :
    W p l e R s m args below meth c H locs cells slots Q (F0 m pc ls rest) :=
  kn_o F hE hW hS x hx hc hin ty0 hty hcl hinst hini hfs hcells hslots hdg fun q H1 h1 h2 _ => by
    have h3 := kk _ _ _ H1 h1 NW.of h2
    simpa using h3
theorem na (t0 : Nat) (atype : ArrayType) (F : Fx p m c cc nL s args own) (hE : VE G A s) (hW : wd G A (ad, dm, ct) H) (hS : va_S A s.heap H locs) (x : Lb) (hx : ¬ dm x) (harr : Cond.arrayClass (newarray.typeOf atype) ∈ AL) {ty : FieldType} (hty : newarray.typeOf atype = ty) {cA : ClassId} (ht : (tyG G)[t0]? = some (cA, ty))
    {i : Int32} (N : Nat) (a0 : vp_A) (ha : ∀ cA : ClassId, vp_cell cA a0 = arrV cA N (fun _ => defaultValue ty)) (hi : i = nI N) (hN : N < 2 ^ 31) (hbytes : N * componentBytes ty ≤ 536870912) (hcells : cells + 1 ≤ R.cells) (hslots : slots + N ≤ R.slots) (hdg : decode cc pc = .ok (.newarray atype, 2))
    (kk : ∀ (ad1 : Lb → Nat) (dm1 : Lb → Prop) (ct1 : Lb → va_E) (H1 : Heap), wd G A (ad1, dm1, ct1) H1 → NW x (.inl (cA, a0)) ad dm ct ad1 dm1 ct1 → va_S A s.heap H1 locs → W p l e R s m args below meth c H1 locs (cells + 1) (slots + N) Q (F0 m (pc + 2) ls (.ref (ad1 x) :: rest))) :
    W p l e R s m args below meth c H locs cells slots Q (F0 m pc ls (.int i :: rest)) :=
  kn_a t0 F hE hW hS x hx harr hty ht ha hi hN hbytes hcells hslots hdg fun q H1 h1 h2 _ => by
    have h3 := kk _ _ _ H1 h1 NW.of h2
    simpa using h3
theorem nq (t0 : Nat) {C : String} (F : Fx p m c cc nL s args own) (hE : VE G A s) (hW : wd G A (ad, dm, ct) H) (hS : va_S A s.heap H locs) (x : Lb) (hx : ¬ dm x) (hcl : Cond.classLink own index C ∈ AL) (hov : Cond.arrayOver (.object C) ∈ lw_tbl) {cA : ClassId} (ht : (tyG G)[t0]? = some (cA, .object C))
    {i : Int32} (N : Nat) (hi : i = nI N) (hN : N < 2 ^ 31) (hbytes : N * 4 ≤ 536870912) (hcells : cells + 1 ≤ R.cells) (hslots : slots + N ≤ R.slots) (hdg : decode cc pc = .ok (.anewarray index, 3))
    (kk : ∀ (ad1 : Lb → Nat) (dm1 : Lb → Prop) (ct1 : Lb → va_E) (H1 : Heap), wd G A (ad1, dm1, ct1) H1 → NW x (.inl (cA, N, .inr (.inr (.inr (.inr (fun _ => none)))))) ad dm ct ad1 dm1 ct1 → va_S A s.heap H1 locs → W p l e R s m args below meth c H1 locs (cells + 1) (slots + N) Q (F0 m (pc + 3) ls (.ref (ad1 x) :: rest))) :
    W p l e R s m args below meth c H locs cells slots Q (F0 m pc ls (.int i :: rest)) :=
  kn_q t0 F hE hW hS x hx hcl hov ht hi hN hbytes hcells hslots hdg fun q H1 h1 h2 _ => by
    have h3 := kk _ _ _ H1 h1 NW.of h2
    simpa using h3
theorem kc_I (np : Nat) {a : Nat} {As av : List Value} (hM : CT l y b n none rm av G A w post px mc ms) (hav : av = .ref a :: As) (F : Fx p m c cc nL s args own) (hE : VE G A s) (hW : wd G A w H) (hS : va_S A s.heap H locs)
    (k1 : Cond.methodLink own index y ∈ AL) (k2 : Cond.instanceMethod y ∈ AL) (k4 : Cond.initialized y.cls ∈ AL) (k5 : Cond.code y b n none ∈ AL) (hin : y.name = "<init>")
    (hd2 : y.cls ≠ "java/lang/invoke/MethodHandle" ∧ y.cls ≠ "java/lang/invoke/VarHandle" ∧ (parseMethodDescriptor y.desc).map (fun d => d.parameters.length) = some np) (hnp : As.length = np)
    (hrm : rm.cells = mc ∧ rm.slots = ms) (hR : rm.frames + 1 ≤ R.frames ∧ 8 + (n + 11) + rm.locals ≤ R.locals) (hls : ls.size = nL) (hst : st = As.reverse ++ .ref a :: rest) (hcat : (rest.map fun v => v.category).sum ≤ 8) (hdg : decode cc pc = .ok (.invokespecial index, 3)) (hf : cells + mc ≤ R.cells ∧ slots + ms ≤ R.slots)
    (kx : ∀ (E : String) (q9 : Addr) (ce : Cell) (H1 : Heap) (locs1 : List Loc), px E → wd G A w H1 → va_S A s.heap H1 locs1 → H1[q9]? = some ce → ce.vm = .none → s.vm.findClass E = some ce.cls → vx_W p l e R s m args below meth c H1 locs1 (cells + mc) (slots + ms) Q (F0 m pc ls rest) q9)
    (kk : ∀ (v : Option Value) (w' : WS) (H1 : Heap) (locs1 : List Loc), post v w' → wd G A w' H1 → va_S A s.heap H1 locs1 → W p l e R s m args below meth c H1 locs1 (cells + mc) (slots + ms) Q (F0 m (pc + 3) ls (v.toList ++ rest))) :
    W p l e R s m args below meth c H locs cells slots Q (F0 m pc ls st) := by
  subst hav
  have hG : GoodIn AL (Cond.code y b n none :: AL) := by
    intro w hw
    rcases List.mem_cons.mp hw with rfl | h
    · exact gAL _ k5
    · exact gAL _ h
  exact kc_run (vx_runI (As := As) (rest := rest) F hM (cwI np F.2.2.2.2 hG rfl hrm.1 hrm.2 (F.2.2.2.2 _ k4) (F.2.2.2.2 _ k1) (F.2.2.2.2 _ k2) hin hd2 hR)
    ⟨fun a U g mk h => ⟨h.1, h.2.blind⟩, fun U hU hw => ⟨rfl, WR.at hE hS hW hU hw⟩⟩ rfl hnp hls hst (by simpa [JFrame.monitorRoom] using hcat) hdg hf) hS kx kk
end KN
/-- a page that was not there before: all other labels as they were -/
def NX (n : Nat) (ad : Lb → Nat) (dm : Lb → Prop) (ct : Lb → va_E) (ad1 : Lb → Nat) (dm1 : Lb → Prop) (ct1 : Lb → va_E) : Prop :=
  ∀ z : Lb, (z.1 = 0 ∨ 4 < z.1 ∨ z.2 ≠ n) → ad1 z = ad z ∧ ct1 z = ct z ∧ (dm1 z ↔ dm z)
theorem NX.rf {n : Nat} {ad : Lb → Nat} {dm : Lb → Prop} {ct : Lb → va_E} : NX n ad dm ct ad dm ct := fun _ _ => ⟨rfl, rfl, Iff.rfl⟩
theorem NX.tr {n : Nat} {ad ad1 ad2 : Lb → Nat} {dm dm1 dm2 : Lb → Prop} {ct ct1 ct2 : Lb → va_E} (h1 : NX n ad dm ct ad1 dm1 ct1) (h2 : NX n ad1 dm1 ct1 ad2 dm2 ct2) : NX n ad dm ct ad2 dm2 ct2 := fun z hz =>
  ⟨(h2 z hz).1.trans (h1 z hz).1, (h2 z hz).2.1.trans (h1 z hz).2.1, (h2 z hz).2.2.trans (h1 z hz).2.2⟩
theorem NX.ofN {n k : Nat} {e : va_E} {ad ad1 : Lb → Nat} {dm dm1 : Lb → Prop} {ct ct1 : Lb → va_E} (hk : 1 ≤ k) (hk4 : k ≤ 4) (h : NW (k, n) e ad dm ct ad1 dm1 ct1) : NX n ad dm ct ad1 dm1 ct1 := fun z hz => by
  have hne : z ≠ (k, n) := by rintro rfl; simp at hz; omega
  exact ⟨(h.1 z hne).1, (h.1 z hne).2, by rw [h.2.2]; simp [hne]⟩
theorem NX.ofX {n : Nat} {ad : Lb → Nat} {dm : Lb → Prop} {ct ct1 : Lb → va_E} (h : XP n ct ct1) : NX n ad dm ct ad dm ct1 := fun z hz => ⟨rfl, h z hz, Iff.rfl⟩

set_option maxRecDepth 100000 in
set_option maxHeartbeats 4000000 in
theorem c_X1_init (l : Launch) (G : GG) (A : Nat → Prop) (ad : Lb → Nat) (dm : Lb → Prop) (ct : Lb → va_E) (n le lo hi : Nat) (h1 : dm (1, n)) (hct : ct (1, n) = .inr (2, [.int 0, .int 0, .int 0, .null, .null, .null, .int 0, .int 0, .null, .int 0, .int 0])) (h2 : ¬ dm (2, n)) (h3 : ¬ dm (3, n)) (h4 : ¬ dm (4, n)) :
    CT l yX1_init cX1_init 5 none { frames := 1, cells := 3, slots := 15, locals := 12 } [.ref (ad (1, n)), .int (nI n), .int (nI le), .int (nI lo), .int (nI hi)] G A (ad, dm, ct) (fun v w' => v = none ∧ ∃ ad' dm' ct', w' = (ad', dm', ct') ∧ NX n ad dm ct ad' dm' ct' ∧ ad' (1, n) = ad (1, n) ∧ PG G ad' dm' ct' n le lo 0 hi none 0 0 (fun _ => 0) (fun _ => 0) (fun _ => none)) (fun _ => False) (3) (15) := by
  refine ct_of (by decide) (Nat.le_of_ble_eq_true rfl) ?_
  intro p e s m below meth c ls F hr hlk hnm hex hE hW hl
  have hx := F.1
  have hb := F.2.1
  have hS : va_S A s.heap s.heap [] := va_S.rf
  have hl : lv_has ls 5 [(0, .ref (ad (1, n))), (1, .int (nI n)), (2, .int (nI le)), (3, .int (nI lo)), (4, .int (nI hi))] := hl
  refine lv_aload_n hx hb dX1_init_0 rfl (lv_at hl 0 rfl) ?_
  refine W.objInit hx hb F.2.2.2.1 (F.2.2.2.2 _ kw_61) (F.2.2.2.2 _ kw_25) (F.2.2.2.2 _ kw_26) rfl (by rw [F.2.2.1]; exact hl.1) rfl dX1_init_1 (Nat.le_of_ble_eq_true rfl) (Nat.le_of_ble_eq_true rfl) ?_
  have hN0 : NX n ad dm ct ad dm ct := NX.rf
  refine lv_aload_n hx hb dX1_init_4 rfl (lv_at hl 0 rfl) ?_
  refine lv_iconst (v := nI 5) hx hb dX1_init_5 (by decide) ?_
  refine na 0 .int F hE hW hS (2, n) (h2) kw_104 rfl rfl 5 (5, .inl (fun _ => 0)) (fun _ => rfl) rfl (by decide) (by decide) (Nat.le_of_ble_eq_true rfl) (Nat.le_of_ble_eq_true rfl) dX1_init_6 (fun ad1 dm1 ct1 H hW hN1 hS => ?_)
  have ha1 : ad1 (1, n) = ad (1, n) := (hN1.1 _ (lb_ne (by decide))).1
  have hd1 : dm1 (1, n) := (hN1.2.2 _).mpr (Or.inr h1)
  have hc1 : ct1 (1, n) = _ := (hN1.1 _ (lb_ne (by decide))).2.trans hct
  refine kpF F hE hW hS hnm (1, n) hd1 ha1 hc1 rfl inA_X1 tyX1 tyX1_ok nmX1 3 (by decide) kw_69 rfl rfl rfl rfl (Nat.le_of_ble_eq_true rfl) dX1_init_8 (fun ct1p H locs hW hc hf hS => ?_)
  have hX1 : XP n ct1 ct1p := XP.of (by decide) (by decide) hf
  have hN0 := hN0.tr ((NX.ofN (by decide) (by decide) hN1).tr (NX.ofX hX1))
  have hk1 : ct1p (2, n) = _ := (hf _ (lb_ne (by decide))).trans hN1.2.1
  have h3 : ¬ dm1 (3, n) := fun q => (hN1.2.2 _).mp q |>.elim (lb_ne (by decide)) h3
  have h4 : ¬ dm1 (4, n) := fun q => (hN1.2.2 _).mp q |>.elim (lb_ne (by decide)) h4
  refine lv_aload_n hx hb dX1_init_11 rfl (lv_at hl 0 rfl) ?_
  refine lv_iconst (v := nI 5) hx hb dX1_init_12 (by decide) ?_
  refine na 0 .int F hE hW hS (3, n) (h3) kw_104 rfl rfl 5 (5, .inl (fun _ => 0)) (fun _ => rfl) rfl (by decide) (by decide) (Nat.le_of_ble_eq_true rfl) (Nat.le_of_ble_eq_true rfl) dX1_init_13 (fun ad2 dm2 ct2 H hW hN2 hS => ?_)
  have ha2 : ad2 (1, n) = ad (1, n) := (hN2.1 _ (lb_ne (by decide))).1.trans ha1
  have hd2 : dm2 (1, n) := (hN2.2.2 _).mpr (Or.inr hd1)
  have hc2 : ct2 (1, n) = _ := (hN2.1 _ (lb_ne (by decide))).2.trans hc
  refine kpF F hE hW hS hnm (1, n) hd2 ha2 hc2 rfl inA_X1 tyX1 tyX1_ok nmX1 4 (by decide) kw_70 rfl rfl rfl rfl (Nat.le_of_ble_eq_true rfl) dX1_init_15 (fun ct2p H locs hW hc hf hS => ?_)
  have hX2 : XP n ct2 ct2p := XP.of (by decide) (by decide) hf
  have hN0 := hN0.tr ((NX.ofN (by decide) (by decide) hN2).tr (NX.ofX hX2))
  have hk1 : ct2p (2, n) = _ := (hf _ (lb_ne (by decide))).trans ((hN2.1 _ (lb_ne (by decide))).2.trans hk1)
  have hr1 : ad2 (2, n) = ad1 (2, n) := (hN2.1 _ (lb_ne (by decide))).1
  have hk2 : ct2p (3, n) = _ := (hf _ (lb_ne (by decide))).trans hN2.2.1
  have h4 : ¬ dm2 (4, n) := fun q => (hN2.2.2 _).mp q |>.elim (lb_ne (by decide)) h4
  refine lv_aload_n hx hb dX1_init_18 rfl (lv_at hl 0 rfl) ?_
  refine lv_iconst (v := nI 5) hx hb dX1_init_19 (by decide) ?_
  refine nq 2 F hE hW hS (4, n) (h4) kw_62 kn_28 rfl 5 rfl (by decide) (by decide) (Nat.le_of_ble_eq_true rfl) (Nat.le_of_ble_eq_true rfl) dX1_init_20 (fun ad3 dm3 ct3 H hW hN3 hS => ?_)
  have ha3 : ad3 (1, n) = ad (1, n) := (hN3.1 _ (lb_ne (by decide))).1.trans ha2
  have hd3 : dm3 (1, n) := (hN3.2.2 _).mpr (Or.inr hd2)
  have hc3 : ct3 (1, n) = _ := (hN3.1 _ (lb_ne (by decide))).2.trans hc
  refine kpF F hE hW hS hnm (1, n) hd3 ha3 hc3 rfl inA_X1 tyX1 tyX1_ok nmX1 5 (by decide) kw_71 rfl rfl rfl rfl (Nat.le_of_ble_eq_true rfl) dX1_init_23 (fun ct3p H locs hW hc hf hS => ?_)
  have hX3 : XP n ct3 ct3p := XP.of (by decide) (by decide) hf
  have hN0 := hN0.tr ((NX.ofN (by decide) (by decide) hN3).tr (NX.ofX hX3))
  have hk1 : ct3p (2, n) = _ := (hf _ (lb_ne (by decide))).trans ((hN3.1 _ (lb_ne (by decide))).2.trans hk1)
  have hr1 : ad3 (2, n) = ad1 (2, n) := (hN3.1 _ (lb_ne (by decide))).1.trans hr1
  have hk2 : ct3p (3, n) = _ := (hf _ (lb_ne (by decide))).trans ((hN3.1 _ (lb_ne (by decide))).2.trans hk2)
  have hr2 : ad3 (3, n) = ad2 (3, n) := (hN3.1 _ (lb_ne (by decide))).1
  have hk3 : ct3p (4, n) = _ := (hf _ (lb_ne (by decide))).trans hN3.2.1
  refine lv_aload_n hx hb dX1_init_26 rfl (lv_at hl 0 rfl) ?_
  refine lv_iload_n hx hb dX1_init_27 rfl (lv_at hl 1 rfl) ?_
  refine kpF F hE hW hS hnm (1, n) hd3 ha3 hc rfl inA_X1 tyX1 tyX1_ok nmX1 0 (by decide) kw_63 rfl rfl rfl rfl (Nat.le_of_ble_eq_true rfl) dX1_init_28 (fun ct1q H locs hW hc hf hS => ?_)
  have hX : XP n ct3p ct1q := XP.of (by decide) (by decide) hf
  have hN0 := hN0.tr (NX.ofX hX)
  have hk1 : ct1q (2, n) = _ := (hf _ (lb_ne (by decide))).trans hk1
  have hk2 : ct1q (3, n) = _ := (hf _ (lb_ne (by decide))).trans hk2
  have hk3 : ct1q (4, n) = _ := (hf _ (lb_ne (by decide))).trans hk3
  refine lv_aload_n hx hb dX1_init_31 rfl (lv_at hl 0 rfl) ?_
  refine lv_iload_n hx hb dX1_init_32 rfl (lv_at hl 2 rfl) ?_
  refine kpF F hE hW hS hnm (1, n) hd3 ha3 hc rfl inA_X1 tyX1 tyX1_ok nmX1 1 (by decide) kw_65 rfl rfl rfl rfl (Nat.le_of_ble_eq_true rfl) dX1_init_33 (fun ct2q H locs hW hc hf hS => ?_)
  have hX : XP n ct1q ct2q := XP.of (by decide) (by decide) hf
  have hN0 := hN0.tr (NX.ofX hX)
  have hk1 : ct2q (2, n) = _ := (hf _ (lb_ne (by decide))).trans hk1
  have hk2 : ct2q (3, n) = _ := (hf _ (lb_ne (by decide))).trans hk2
  have hk3 : ct2q (4, n) = _ := (hf _ (lb_ne (by decide))).trans hk3
  refine lv_aload_n hx hb dX1_init_36 rfl (lv_at hl 0 rfl) ?_
  refine lv_iload_n hx hb dX1_init_37 rfl (lv_at hl 3 rfl) ?_
  refine kpF F hE hW hS hnm (1, n) hd3 ha3 hc rfl inA_X1 tyX1 tyX1_ok nmX1 2 (by decide) kw_67 rfl rfl rfl rfl (Nat.le_of_ble_eq_true rfl) dX1_init_38 (fun ct3q H locs hW hc hf hS => ?_)
  have hX : XP n ct2q ct3q := XP.of (by decide) (by decide) hf
  have hN0 := hN0.tr (NX.ofX hX)
  have hk1 : ct3q (2, n) = _ := (hf _ (lb_ne (by decide))).trans hk1
  have hk2 : ct3q (3, n) = _ := (hf _ (lb_ne (by decide))).trans hk2
  have hk3 : ct3q (4, n) = _ := (hf _ (lb_ne (by decide))).trans hk3
  refine lv_aload_n hx hb dX1_init_41 rfl (lv_at hl 0 rfl) ?_
  refine lv_iload hx hb dX1_init_42 (lv_at hl 4 rfl) ?_
  refine kp F hE hW hS (1, n) hd3 ha3 hc rfl inA_X1 tyX1 tyX1_ok nmX1 7 (by decide) kw_74 rfl rfl rfl (Nat.le_of_ble_eq_true rfl) dX1_init_44 (fun ct4q H locs hW hc hf hS => ?_)
  have hX : XP n ct3q ct4q := XP.of (by decide) (by decide) hf
  have hN0 := hN0.tr (NX.ofX hX)
  have hk1 : ct4q (2, n) = _ := (hf _ (lb_ne (by decide))).trans hk1
  have hk2 : ct4q (3, n) = _ := (hf _ (lb_ne (by decide))).trans hk2
  have hk3 : ct4q (4, n) = _ := (hf _ (lb_ne (by decide))).trans hk3
  have hd2 : dm3 (2, n) := (hN3.2.2 _).mpr (Or.inr ((hN2.2.2 _).mpr (Or.inr ((hN1.2.2 _).mpr (Or.inl rfl)))))
  have hd4 : dm3 (3, n) := (hN3.2.2 _).mpr (Or.inr ((hN2.2.2 _).mpr (Or.inl rfl)))
  have hd5 : dm3 (4, n) := (hN3.2.2 _).mpr (Or.inl rfl)
  refine kr_v F hr hlk hE hW hS (Nat.le_of_ble_eq_true rfl) (Nat.le_of_ble_eq_true rfl) dX1_init_47 ⟨rfl, ad3, dm3, ct4q, rfl, hN0, ha3, ⟨hd3, hd2, hd4, hd5⟩, ?_, hk1, hk2, hk3⟩
  rw [hc]
  simp only [List.set, pgF, hr1, hr2]
  rfl
