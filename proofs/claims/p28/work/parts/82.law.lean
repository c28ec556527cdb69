/-! The law: methods with handlers, called; caught. Two objects of the class in one world: the second one's labels are a hundred higher. -/
def CTH (l : Launch) (y : MethodName) (b : ByteArray) (n : Nat) (ret : Option FieldType) (hh : List (Nat × Nat × Nat × Nat)) (rm : Room) (av : List Value) (G : GG) (A : Nat → Prop) (w : WS) (post : Option Value → WS → Prop) (mc ms : Nat) : Prop :=
  vx_Met l y (.codeWith y b n ret hh :: AL) rm (va_Pc av (WR G A w)) (QK G A post) (XK G A w (fun _ => False)) mc ms A
theorem cth_of {l : Launch} {y : MethodName} {b : ByteArray} {n : Nat} {ret : Option FieldType} {hh : List (Nat × Nat × Nat × Nat)} {rm : Room} {av : List Value} {G : GG} {A : Nat → Prop} {w : WS} {post : Option Value → WS → Prop} {mc ms : Nat}
    (hy : plainName y.cls = true) (hn : (lg_sl av).length ≤ n)
    (body : ∀ (p : Program) (e : Env) (s : State) (m : MethodId) (below : List Frame) (meth : Method) (c : Code) (ls : Array Slot), Fx p m c b n s av.toArray y.cls → meth.sig.returnType = ret → meth.locks = false → c.exceptionTable.toList = tableOf hh → VE G A s → wd G A w s.heap → lv_has ls n (lv_args 0 av) →
      W p l e rm s m av.toArray below meth c s.heap [] 0 0 (vx_MQ below (QK G A post) (XK G A w (fun _ => False)) av.toArray s mc ms A) (F0 m 0 ls [])) : CTH l y b n ret hh rm av G A w post mc ms := by
  refine vx_ofWH (cc := b) (maxL := n) (ret := ret) (hh := hh) hy rfl ?_
  intro p e s m args below meth c s₁ B hml hv
  obtain ⟨rfl, hV⟩ := hv
  rw [lg_entry_eq]
  exact body p e s m below meth c _ ⟨B.exec, B.bytes, hml, findClass_of_methodNamed B.named, fun w hw => atoms_spec B.pre w (List.mem_cons_of_mem _ hw)⟩ B.returns B.notSynchronized (vx_table (x := y) B (atoms_spec B.pre _ List.mem_cons_self)) hV.1 hV.2 (lv_entry av hn)
section KH
variable {p : Program} {l : Launch} {e : Env} {R : Room} {s : State} {m : MethodId} {args : Array Value} {below : List Frame} {meth : Method} {c : Code} {H : Heap} {locs : List Loc} {cells slots : Nat} {Q : State → Prop}
variable {cc b : ByteArray} {pc nL n mc ms index : Nat} {ls : Array Slot} {rest st As av : List Value} {own C : String} {y : MethodName} {ret : Option FieldType} {hh : List (Nat × Nat × Nat × Nat)} {rm : Room} {G : GG} {A : Nat → Prop} {w w' : WS} {post : Option Value → WS → Prop}
theorem kc_SH (np : Nat) (hM : CTH l y b n ret hh rm As G A w post mc ms) (F : Fx p m c cc nL s args own) (hE : VE G A s) (hW : wd G A w H) (hS : va_S A s.heap H locs)
    (k1 : Cond.methodLink own index y ∈ AL) (k2 : Cond.static y ∈ AL) (k4 : Cond.initialized y.cls ∈ AL) (k5 : Cond.codeWith y b n ret hh ∈ AL)
    (hd2 : y.cls ≠ "java/lang/invoke/MethodHandle" ∧ y.cls ≠ "java/lang/invoke/VarHandle" ∧ (parseMethodDescriptor y.desc).map (fun d => d.parameters.length) = some np) (hnp : As.length = np)
    (hrm : rm.cells = mc ∧ rm.slots = ms) (hR : rm.frames + 1 ≤ R.frames ∧ 8 + (n + 11) + rm.locals ≤ R.locals) (hls : ls.size = nL) (hst : st = As.reverse ++ rest) (hcat : (rest.map fun v => v.category).sum ≤ 8) (hdg : decode cc pc = .ok (.invokestatic index, 3)) (hf : cells + mc ≤ R.cells ∧ slots + ms ≤ R.slots)
    (kk : ∀ (v : Option Value) (w' : WS) (H1 : Heap) (locs1 : List Loc), post v w' → wd G A w' H1 → va_S A s.heap H1 locs1 → W p l e R s m args below meth c H1 locs1 (cells + mc) (slots + ms) Q (F0 m (pc + 3) ls (v.toList ++ rest))) :
    W p l e R s m args below meth c H locs cells slots Q (F0 m pc ls st) := by
  have hG : GoodIn AL (va_wsS own index y (.codeWith y b n ret hh :: AL)) := by
    intro w hw
    unfold va_wsS at hw
    rcases List.mem_append.mp hw with h | h
    · simp only [List.mem_cons, List.not_mem_nil, or_false] at h
      rcases h with rfl | rfl | rfl <;> exact gAL _ (by assumption)
    · rcases List.mem_cons.mp h with rfl | h
      · exact gAL _ k5
      · exact gAL _ h
  exact kc_run (vx_runSX (hh := hh) (As := As) (rest := rest) F hM (vx_cwSW np F.2.2.2.2 hG rfl hrm.1 hrm.2 hd2 hR)
    ⟨fun a U g mk h => ⟨h.1, h.2.blind⟩, fun U hU hw => ⟨rfl, WR.at hE hS hW hU hw⟩⟩ rfl hnp hls hst (by simpa [JFrame.monitorRoom] using hcat) hdg hf) hS (fun _ _ _ _ _ h => h.elim) kk
theorem kr_c {E : String} {q9 : Addr} {ce : Cell} (F : Fx p m c cc nL s args own) (hE : VE G A s) (pre : List ExceptionTableEntry) (x : ExceptionTableEntry) (suf : List ExceptionTableEntry) (hsplit : c.exceptionTable.toList = pre ++ x :: suf)
    (hpass : ∀ z ∈ pre, covers z pc = false ∨ (z.catchType ≠ 0 ∧ ∃ nm : String, (Cond.classLink own z.catchType nm).before args s = true ∧ va_Nc E nm s)) (hx : covers x pc = true) (h0 : x.catchType ≠ 0) (hlink : Cond.classLink own x.catchType E ∈ AL) (hcast : Cond.castable E E ∈ lw_tbl)
    (hce : H[q9]? = some ce) (hcv : ce.vm = .none) (hcl : s.vm.findClass E = some ce.cls) (kk : W p l e R s m args below meth c H locs cells slots Q (F0 m x.handlerPc ls [.ref q9])) : vx_W p l e R s m args below meth c H locs cells slots Q (F0 m pc ls rest) q9 :=
  vx_catch F.2.2.2.1 pre x suf hsplit hpass hx h0 (F.2.2.2.2 _ hlink) (va_Nw.use rfl (hE.2.1.2.1 _ _ hcast)) hce hcv hcl kk
end KH
/-- the labels of the first object and of the second one change places -/
def sg (z : Lb) : Lb := if z.1 < 7 then (z.1 + 100, z.2) else if 100 ≤ z.1 ∧ z.1 < 107 then (z.1 - 100, z.2) else z
theorem sg_lo {z : Lb} (h : z.1 < 7) : sg z = (z.1 + 100, z.2) := if_pos h
theorem sg_hi {z : Lb} (h : 100 ≤ z.1) (h2 : z.1 < 107) : sg z = (z.1 - 100, z.2) := by unfold sg; rw [if_neg (by omega), if_pos ⟨h, h2⟩]
theorem sg_no {z : Lb} (h : 7 ≤ z.1) (h2 : z.1 < 100 ∨ 107 ≤ z.1) : sg z = z := by unfold sg; rw [if_neg (by omega), if_neg (by omega)]
theorem sg_sg (z : Lb) : sg (sg z) = z := by
  by_cases h : z.1 < 7
  · rw [sg_lo h, sg_hi (by show 100 ≤ z.1 + 100; omega) (by show z.1 + 100 < 107; omega)]
    show (z.1 + 100 - 100, z.2) = z
    rw [Nat.add_sub_cancel]
  · by_cases h2 : 100 ≤ z.1 ∧ z.1 < 107
    · rw [sg_hi h2.1 h2.2, sg_lo (by show z.1 - 100 < 7; omega)]
      show (z.1 - 100 + 100, z.2) = z
      rw [Nat.sub_add_cancel h2.1]
    · have e := sg_no (z := z) (by omega) (by omega)
      rw [e, e]
theorem sg_inj {x y : Lb} (h : sg x = sg y) : x = y := by rw [← sg_sg x, h, sg_sg]
section SW
variable {G : GG} {A : Nat → Prop} {ad ad2 : Lb → Nat} {dm dm2 : Lb → Prop} {ct ct2 : Lb → va_E} {H : Heap} {S S2 P P2 : SG} {a0 a1 : Nat}
theorem wd_sw (h : wd G A (ad, dm, ct) H) : wd G A (fun z => ad (sg z), fun z => dm (sg z), fun z => ct (sg z)) H :=
  ⟨fun x hx => h.1 (sg x) hx, fun x y hx hy e => sg_inj (h.2.1 _ _ hx hy e), fun x hx => h.2.2 _ hx⟩
theorem HK.far2 (h : HK G ad dm ct S) (hz : ∀ z : Lb, z.1 < 7 → ad2 z = ad z ∧ ct2 z = ct z ∧ (dm2 z ↔ dm z)) : HK G ad2 dm2 ct2 S := by
  obtain ⟨lv, lev, lo, hi, ri, sz, ky, vl, go, rt, ep, wq, wn, cn, op, cl, ca, ce, kc, nb⟩ := S
  have h2 : HKF G ad dm ct lv lev lo hi ri sz ky vl go rt ep wq wn cn op cl ca ce kc nb := h
  have h3 : HKF G ad2 dm2 ct2 lv lev lo hi ri sz ky vl go rt ep wq wn cn op cl ca ce kc nb := h2.far hz
  exact h3
/-- both objects: the first one in state S, the second one in state P -/
def J2 (G : GG) (a0 a1 : Nat) (ad : Lb → Nat) (dm : Lb → Prop) (ct : Lb → va_E) (S P : SG) : Prop :=
  HK G ad dm ct S ∧ HK G (fun z => ad (sg z)) (fun z => dm (sg z)) (fun z => ct (sg z)) P ∧ ¬ dm (7, 0) ∧ ad (0, 0) = a0 ∧ ad (100, 0) = a1
theorem J2.one (h : J2 G a0 a1 ad dm ct S P) (hF : FH ad dm ct ad2 dm2 ct2) (hK : HK G ad2 dm2 ct2 S2) : J2 G a0 a1 ad2 dm2 ct2 S2 P := by
  obtain ⟨h1, h2, h3, h4, h5⟩ := h
  refine ⟨hK, h2.far2 (fun z hz => ?_), fun q => h3 ((hF.1 (7, 0) (by decide)).2.2.mp q), hF.2.trans h4, (hF.1 (100, 0) (by show 7 ≤ 100; decide)).1.trans h5⟩
  have e := sg_lo hz
  exact hF.1 (sg z) (by rw [e]; show 7 ≤ z.1 + 100; omega)
theorem J2.two (h : J2 G a0 a1 ad dm ct S P) (hF : FH (fun z => ad (sg z)) (fun z => dm (sg z)) (fun z => ct (sg z)) ad2 dm2 ct2) (hK : HK G ad2 dm2 ct2 P2) : J2 G a0 a1 (fun z => ad2 (sg z)) (fun z => dm2 (sg z)) (fun z => ct2 (sg z)) S P2 := by
  obtain ⟨h1, h2, h3, h4, h5⟩ := h
  have hq : ∀ z : Lb, z.1 < 7 → ad2 (sg z) = ad z ∧ ct2 (sg z) = ct z ∧ (dm2 (sg z) ↔ dm z) := fun z hz => by
    have e := sg_lo hz
    have q := hF.1 (sg z) (by rw [e]; show 7 ≤ z.1 + 100; omega)
    dsimp only at q
    rw [sg_sg] at q
    exact q
  refine ⟨h1.far2 hq, hK.far2 (fun z hz => ?_), fun q => h3 ?_, (hq (0, 0) (by decide)).1.trans h4, ?_⟩
  · dsimp only
    rw [sg_sg]
    exact ⟨rfl, rfl, Iff.rfl⟩
  · have q7 := hF.1 (7, 0) (by decide)
    exact q7.2.2.mp q
  · show ad2 (sg (100, 0)) = a1
    have e : sg (100, 0) = (0, 0) := by decide
    rw [e, hF.2]
    exact h5
theorem J2.pass {dm3 : Lb → Prop} {ct3 : Lb → va_E} {ad3 : Lb → Nat} (h : J2 G a0 a1 ad dm ct S P) (hz : ∀ z : Lb, z.1 < 7 ∨ (100 ≤ z.1 ∧ z.1 < 107) → ad3 z = ad z ∧ ct3 z = ct z ∧ (dm3 z ↔ dm z)) (h7 : dm3 (7, 0) → dm (7, 0)) : J2 G a0 a1 ad3 dm3 ct3 S P := by
  obtain ⟨h1, h2, h3, h4, h5⟩ := h
  refine ⟨h1.far2 (fun z q => hz z (Or.inl q)), h2.far2 (fun z q => ?_), fun q => h3 (h7 q), (hz (0, 0) (Or.inl (by decide))).1.trans h4, (hz (100, 0) (Or.inr (by decide))).1.trans h5⟩
  have e := sg_lo q
  exact hz (sg z) (Or.inr (by rw [e]; exact ⟨by show 100 ≤ z.1 + 100; omega, by show z.1 + 100 < 107; omega⟩))
theorem wd_back (h : wd G A (ad2, dm2, ct2) H) : wd G A (fun z => ad2 (sg z), fun z => dm2 (sg z), fun z => ct2 (sg z)) H := wd_sw h
end SW
