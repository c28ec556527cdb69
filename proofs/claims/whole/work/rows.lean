section
-- ===== PART A: goes FIRST, ahead of the names: the tables' words, and 'selects' of the private methods out of them =====
/-- a private method of a class that the tables say can be made, by its rows of tables_1 -/
def lw_okq (q : MethodName × Nat) : Prop := (q.1.cls ≠ "java/lang/invoke/MethodHandle" ∧ q.1.cls ≠ "java/lang/invoke/VarHandle") ∧ Cond.instantiable q.1.cls q.2 ∈ tables_1 ∧ Cond.privateMethod q.1 ∈ tables_1 ∧ Cond.instanceMethod q.1 ∈ tables_1
theorem lw_p0 : lw_okq (⟨"Highkey", "postLongestWaiting", "()V"⟩, 8) := ⟨⟨by decide +kernel, by decide +kernel⟩, List.mem_of_getElem? (i := 21) (by decide +kernel), List.mem_of_getElem? (i := 152) (by decide +kernel), List.mem_of_getElem? (i := 153) (by decide +kernel)⟩
theorem lw_p1 : lw_okq (⟨"java/util/ArrayList", "fastRemove", "([Ljava/lang/Object;I)V"⟩, 3) := ⟨⟨by decide +kernel, by decide +kernel⟩, List.mem_of_getElem? (i := 31) (by decide +kernel), List.mem_of_getElem? (i := 166) (by decide +kernel), List.mem_of_getElem? (i := 167) (by decide +kernel)⟩
theorem lw_p2 : lw_okq (⟨"Highkey", "growRoot", "(LHighkey$Page;)V"⟩, 8) := ⟨⟨by decide +kernel, by decide +kernel⟩, List.mem_of_getElem? (i := 21) (by decide +kernel), List.mem_of_getElem? (i := 173) (by decide +kernel), List.mem_of_getElem? (i := 174) (by decide +kernel)⟩
theorem lw_p3 : lw_okq (⟨"Highkey", "lowestFreeNumber", "()I"⟩, 8) := ⟨⟨by decide +kernel, by decide +kernel⟩, List.mem_of_getElem? (i := 21) (by decide +kernel), List.mem_of_getElem? (i := 177) (by decide +kernel), List.mem_of_getElem? (i := 178) (by decide +kernel)⟩
theorem lw_p4 : lw_okq (⟨"Highkey$Page", "copy", "(II)V"⟩, 11) := ⟨⟨by decide +kernel, by decide +kernel⟩, List.mem_of_getElem? (i := 58) (by decide +kernel), List.mem_of_getElem? (i := 189) (by decide +kernel), List.mem_of_getElem? (i := 190) (by decide +kernel)⟩
theorem lw_p5 : lw_okq (⟨"Highkey", "goDown", "(II)LHighkey$Page;"⟩, 8) := ⟨⟨by decide +kernel, by decide +kernel⟩, List.mem_of_getElem? (i := 21) (by decide +kernel), List.mem_of_getElem? (i := 193) (by decide +kernel), List.mem_of_getElem? (i := 194) (by decide +kernel)⟩
theorem lw_p6 : lw_okq (⟨"Highkey", "addTo", "(LHighkey$Page;IILHighkey$Page;)Z"⟩, 8) := ⟨⟨by decide +kernel, by decide +kernel⟩, List.mem_of_getElem? (i := 21) (by decide +kernel), List.mem_of_getElem? (i := 209) (by decide +kernel), List.mem_of_getElem? (i := 210) (by decide +kernel)⟩
theorem lw_p7 : lw_okq (⟨"java/util/ArrayList", "add", "(Ljava/lang/Object;[Ljava/lang/Object;I)V"⟩, 3) := ⟨⟨by decide +kernel, by decide +kernel⟩, List.mem_of_getElem? (i := 31) (by decide +kernel), List.mem_of_getElem? (i := 227) (by decide +kernel), List.mem_of_getElem? (i := 228) (by decide +kernel)⟩
theorem lw_p8 : lw_okq (⟨"java/util/ArrayList", "grow", "()[Ljava/lang/Object;"⟩, 3) := ⟨⟨by decide +kernel, by decide +kernel⟩, List.mem_of_getElem? (i := 31) (by decide +kernel), List.mem_of_getElem? (i := 231) (by decide +kernel), List.mem_of_getElem? (i := 232) (by decide +kernel)⟩
theorem lw_p9 : lw_okq (⟨"java/util/ArrayList", "grow", "(I)[Ljava/lang/Object;"⟩, 3) := ⟨⟨by decide +kernel, by decide +kernel⟩, List.mem_of_getElem? (i := 31) (by decide +kernel), List.mem_of_getElem? (i := 235) (by decide +kernel), List.mem_of_getElem? (i := 236) (by decide +kernel)⟩
theorem lw_p10 : lw_okq (⟨"Highkey", "unlink", "(LHighkey$Page;)V"⟩, 8) := ⟨⟨by decide +kernel, by decide +kernel⟩, List.mem_of_getElem? (i := 21) (by decide +kernel), List.mem_of_getElem? (i := 289) (by decide +kernel), List.mem_of_getElem? (i := 290) (by decide +kernel)⟩
theorem lw_p11 : lw_okq (⟨"Highkey", "allOpenedAfter", "(I)Z"⟩, 8) := ⟨⟨by decide +kernel, by decide +kernel⟩, List.mem_of_getElem? (i := 21) (by decide +kernel), List.mem_of_getElem? (i := 297) (by decide +kernel), List.mem_of_getElem? (i := 298) (by decide +kernel)⟩
theorem lw_p12 : lw_okq (⟨"java/lang/Throwable", "fillInStackTrace", "(I)Ljava/lang/Throwable;"⟩, 6) := ⟨⟨by decide +kernel, by decide +kernel⟩, List.mem_of_getElem? (i := 366) (by decide +kernel), List.mem_of_getElem? (i := 364) (by decide +kernel), List.mem_of_getElem? (i := 365) (by decide +kernel)⟩
theorem lw_p13 : lw_okq (⟨"Highkey", "pageOf", "(I)LHighkey$Page;"⟩, 8) := ⟨⟨by decide +kernel, by decide +kernel⟩, List.mem_of_getElem? (i := 21) (by decide +kernel), List.mem_of_getElem? (i := 465) (by decide +kernel), List.mem_of_getElem? (i := 466) (by decide +kernel)⟩
theorem lw_p14 : lw_okq (⟨"Highkey", "cursorOf", "(I)LHighkey$Cursor;"⟩, 8) := ⟨⟨by decide +kernel, by decide +kernel⟩, List.mem_of_getElem? (i := 21) (by decide +kernel), List.mem_of_getElem? (i := 570) (by decide +kernel), List.mem_of_getElem? (i := 571) (by decide +kernel)⟩
theorem lw_p15 : lw_okq (⟨"HighkeyModel", "made", "(IIII)I"⟩, 20) := ⟨⟨by decide +kernel, by decide +kernel⟩, List.mem_of_getElem? (i := 597) (by decide +kernel), List.mem_of_getElem? (i := 603) (by decide +kernel), List.mem_of_getElem? (i := 604) (by decide +kernel)⟩
def lw_privs_1 : List (MethodName × Nat) := [(⟨"Highkey", "postLongestWaiting", "()V"⟩, 8), (⟨"java/util/ArrayList", "fastRemove", "([Ljava/lang/Object;I)V"⟩, 3), (⟨"Highkey", "growRoot", "(LHighkey$Page;)V"⟩, 8), (⟨"Highkey", "lowestFreeNumber", "()I"⟩, 8), (⟨"Highkey$Page", "copy", "(II)V"⟩, 11), (⟨"Highkey", "goDown", "(II)LHighkey$Page;"⟩, 8), (⟨"Highkey", "addTo", "(LHighkey$Page;IILHighkey$Page;)Z"⟩, 8), (⟨"java/util/ArrayList", "add", "(Ljava/lang/Object;[Ljava/lang/Object;I)V"⟩, 3), (⟨"java/util/ArrayList", "grow", "()[Ljava/lang/Object;"⟩, 3), (⟨"java/util/ArrayList", "grow", "(I)[Ljava/lang/Object;"⟩, 3), (⟨"Highkey", "unlink", "(LHighkey$Page;)V"⟩, 8), (⟨"Highkey", "allOpenedAfter", "(I)Z"⟩, 8), (⟨"java/lang/Throwable", "fillInStackTrace", "(I)Ljava/lang/Throwable;"⟩, 6), (⟨"Highkey", "pageOf", "(I)LHighkey$Page;"⟩, 8), (⟨"Highkey", "cursorOf", "(I)LHighkey$Cursor;"⟩, 8), (⟨"HighkeyModel", "made", "(IIII)I"⟩, 20)]
theorem lw_r1 : ∀ q ∈ lw_privs_1, lw_okq q := List.forall_mem_cons.mpr ⟨lw_p0, List.forall_mem_cons.mpr ⟨lw_p1, List.forall_mem_cons.mpr ⟨lw_p2, List.forall_mem_cons.mpr ⟨lw_p3, List.forall_mem_cons.mpr ⟨lw_p4, List.forall_mem_cons.mpr ⟨lw_p5, List.forall_mem_cons.mpr ⟨lw_p6, List.forall_mem_cons.mpr ⟨lw_p7, List.forall_mem_cons.mpr ⟨lw_p8, List.forall_mem_cons.mpr ⟨lw_p9, List.forall_mem_cons.mpr ⟨lw_p10, List.forall_mem_cons.mpr ⟨lw_p11, List.forall_mem_cons.mpr ⟨lw_p12, List.forall_mem_cons.mpr ⟨lw_p13, List.forall_mem_cons.mpr ⟨lw_p14, List.forall_mem_cons.mpr ⟨lw_p15, fun _ h => absurd h List.not_mem_nil⟩⟩⟩⟩⟩⟩⟩⟩⟩⟩⟩⟩⟩⟩⟩⟩
theorem lw_p16 : lw_okq (⟨"HighkeyModel", "holds", "(I)Z"⟩, 20) := ⟨⟨by decide +kernel, by decide +kernel⟩, List.mem_of_getElem? (i := 597) (by decide +kernel), List.mem_of_getElem? (i := 683) (by decide +kernel), List.mem_of_getElem? (i := 684) (by decide +kernel)⟩
theorem lw_p17 : lw_okq (⟨"HighkeyModel", "down", "(II)I"⟩, 20) := ⟨⟨by decide +kernel, by decide +kernel⟩, List.mem_of_getElem? (i := 597) (by decide +kernel), List.mem_of_getElem? (i := 687) (by decide +kernel), List.mem_of_getElem? (i := 688) (by decide +kernel)⟩
theorem lw_p18 : lw_okq (⟨"HighkeyModel", "place", "(II)I"⟩, 20) := ⟨⟨by decide +kernel, by decide +kernel⟩, List.mem_of_getElem? (i := 597) (by decide +kernel), List.mem_of_getElem? (i := 691) (by decide +kernel), List.mem_of_getElem? (i := 692) (by decide +kernel)⟩
theorem lw_p19 : lw_okq (⟨"HighkeyModel", "hasKey", "(III)Z"⟩, 20) := ⟨⟨by decide +kernel, by decide +kernel⟩, List.mem_of_getElem? (i := 597) (by decide +kernel), List.mem_of_getElem? (i := 695) (by decide +kernel), List.mem_of_getElem? (i := 696) (by decide +kernel)⟩
theorem lw_p20 : lw_okq (⟨"HighkeyModel", "adds", "(III)V"⟩, 20) := ⟨⟨by decide +kernel, by decide +kernel⟩, List.mem_of_getElem? (i := 597) (by decide +kernel), List.mem_of_getElem? (i := 699) (by decide +kernel), List.mem_of_getElem? (i := 700) (by decide +kernel)⟩
theorem lw_p21 : lw_okq (⟨"HighkeyModel", "sets", "(IIII)V"⟩, 20) := ⟨⟨by decide +kernel, by decide +kernel⟩, List.mem_of_getElem? (i := 597) (by decide +kernel), List.mem_of_getElem? (i := 703) (by decide +kernel), List.mem_of_getElem? (i := 704) (by decide +kernel)⟩
theorem lw_p22 : lw_okq (⟨"HighkeyModel", "splits", "(I)V"⟩, 20) := ⟨⟨by decide +kernel, by decide +kernel⟩, List.mem_of_getElem? (i := 597) (by decide +kernel), List.mem_of_getElem? (i := 707) (by decide +kernel), List.mem_of_getElem? (i := 708) (by decide +kernel)⟩
theorem lw_p23 : lw_okq (⟨"HighkeyModel", "valueOf", "(I)I"⟩, 20) := ⟨⟨by decide +kernel, by decide +kernel⟩, List.mem_of_getElem? (i := 597) (by decide +kernel), List.mem_of_getElem? (i := 715) (by decide +kernel), List.mem_of_getElem? (i := 716) (by decide +kernel)⟩
theorem lw_p24 : lw_okq (⟨"HighkeyModel", "removes", "(II)V"⟩, 20) := ⟨⟨by decide +kernel, by decide +kernel⟩, List.mem_of_getElem? (i := 597) (by decide +kernel), List.mem_of_getElem? (i := 719) (by decide +kernel), List.mem_of_getElem? (i := 720) (by decide +kernel)⟩
theorem lw_p25 : lw_okq (⟨"HighkeyModel", "posts", "()V"⟩, 20) := ⟨⟨by decide +kernel, by decide +kernel⟩, List.mem_of_getElem? (i := 597) (by decide +kernel), List.mem_of_getElem? (i := 743) (by decide +kernel), List.mem_of_getElem? (i := 744) (by decide +kernel)⟩
theorem lw_p26 : lw_okq (⟨"HighkeyModel", "found", "()I"⟩, 20) := ⟨⟨by decide +kernel, by decide +kernel⟩, List.mem_of_getElem? (i := 597) (by decide +kernel), List.mem_of_getElem? (i := 755) (by decide +kernel), List.mem_of_getElem? (i := 756) (by decide +kernel)⟩
theorem lw_p27 : lw_okq (⟨"HighkeyModel", "mayRecycle", "(I)Z"⟩, 20) := ⟨⟨by decide +kernel, by decide +kernel⟩, List.mem_of_getElem? (i := 597) (by decide +kernel), List.mem_of_getElem? (i := 763) (by decide +kernel), List.mem_of_getElem? (i := 764) (by decide +kernel)⟩
theorem lw_p28 : lw_okq (⟨"HighkeyModel", "isPage", "(I)Z"⟩, 20) := ⟨⟨by decide +kernel, by decide +kernel⟩, List.mem_of_getElem? (i := 597) (by decide +kernel), List.mem_of_getElem? (i := 787) (by decide +kernel), List.mem_of_getElem? (i := 788) (by decide +kernel)⟩
theorem lw_p29 : lw_okq (⟨"HighkeyModel", "isCursor", "(I)Z"⟩, 20) := ⟨⟨by decide +kernel, by decide +kernel⟩, List.mem_of_getElem? (i := 597) (by decide +kernel), List.mem_of_getElem? (i := 823) (by decide +kernel), List.mem_of_getElem? (i := 824) (by decide +kernel)⟩
def lw_privs_2 : List (MethodName × Nat) := [(⟨"HighkeyModel", "holds", "(I)Z"⟩, 20), (⟨"HighkeyModel", "down", "(II)I"⟩, 20), (⟨"HighkeyModel", "place", "(II)I"⟩, 20), (⟨"HighkeyModel", "hasKey", "(III)Z"⟩, 20), (⟨"HighkeyModel", "adds", "(III)V"⟩, 20), (⟨"HighkeyModel", "sets", "(IIII)V"⟩, 20), (⟨"HighkeyModel", "splits", "(I)V"⟩, 20), (⟨"HighkeyModel", "valueOf", "(I)I"⟩, 20), (⟨"HighkeyModel", "removes", "(II)V"⟩, 20), (⟨"HighkeyModel", "posts", "()V"⟩, 20), (⟨"HighkeyModel", "found", "()I"⟩, 20), (⟨"HighkeyModel", "mayRecycle", "(I)Z"⟩, 20), (⟨"HighkeyModel", "isPage", "(I)Z"⟩, 20), (⟨"HighkeyModel", "isCursor", "(I)Z"⟩, 20)]
theorem lw_r2 : ∀ q ∈ lw_privs_2, lw_okq q := List.forall_mem_cons.mpr ⟨lw_p16, List.forall_mem_cons.mpr ⟨lw_p17, List.forall_mem_cons.mpr ⟨lw_p18, List.forall_mem_cons.mpr ⟨lw_p19, List.forall_mem_cons.mpr ⟨lw_p20, List.forall_mem_cons.mpr ⟨lw_p21, List.forall_mem_cons.mpr ⟨lw_p22, List.forall_mem_cons.mpr ⟨lw_p23, List.forall_mem_cons.mpr ⟨lw_p24, List.forall_mem_cons.mpr ⟨lw_p25, List.forall_mem_cons.mpr ⟨lw_p26, List.forall_mem_cons.mpr ⟨lw_p27, List.forall_mem_cons.mpr ⟨lw_p28, List.forall_mem_cons.mpr ⟨lw_p29, fun _ h => absurd h List.not_mem_nil⟩⟩⟩⟩⟩⟩⟩⟩⟩⟩⟩⟩⟩⟩
def lw_privs : List (MethodName × Nat) := lw_privs_1 ++ (lw_privs_2)
def lw_tbl : List Cond := k2_sels lw_privs ++ tables_1
theorem lw_privs_ok : ∀ q ∈ lw_privs, lw_okq q := by
  show ∀ q ∈ lw_privs_1 ++ (lw_privs_2), lw_okq q
  exact List.forall_mem_append.mpr ⟨lw_r1, lw_r2⟩
end
section
/-! ===== BEGIN words of one list among another's, by their places ===== -/
theorem goodIn_r {big : List Cond} (ws : List Cond) (ps : List Nat) (hp : ws = ps.filterMap (fun i => big[i]?)) (h : ws.all goodWord = true) : GoodIn big ws := by
  intro w hw
  have h1 := List.all_eq_true.mp h w hw
  rw [hp] at hw
  obtain ⟨i, -, hi⟩ := List.mem_filterMap.mp hw
  have hm : w ∈ big := by first | exact List.mem_of_getElem? hi | exact List.getElem?_mem hi
  exact ⟨hm, good_of_word h1⟩
theorem goodIn_app {big a b : List Cond} (ha : GoodIn big a) (hb : GoodIn big b) : GoodIn big (a ++ b) := fun w h => (List.mem_append.mp h).elim (ha w) (hb w)
theorem goodIn_ca {big a b : List Cond} {c : Cond} (ha : GoodIn big (c :: a)) (hb : GoodIn big b) : GoodIn big (c :: (a ++ b)) := fun w h => (List.mem_cons.mp h).elim (fun e => ha w (List.mem_cons.mpr (Or.inl e))) (fun h => (List.mem_append.mp h).elim (fun h => ha w (List.mem_cons.mpr (Or.inr h))) (hb w))
theorem goodIn_sub {big ws : List Cond} (hm : ∀ w ∈ ws, w ∈ big) (h : ws.all goodWord = true) : GoodIn big ws := fun w hw => ⟨hm w hw, good_of_word (List.all_eq_true.mp h w hw)⟩
/-! ===== END ===== -/

/-! ===== BEGIN exceptions that leave a method, and their catching by the caller (launches without stack traces) ===== -/
section VXA
/-! The laws vx_back, vx_callV, vx_callS, vx_callSW, vx_throw0, vx_throwS follow proofs of the library, with one case more: JvmDerived/Free/Laws.lean (Back.of_free), Shelf42/LK1.lean (callV, callS), Shelf/KitTraced.lean (throwNew0V, throwNewS). -/
/-- where a method has thrown q: the class by its name, the cell, what was written, the world -/
def vx_T (XC : String → State → State → Prop) (st : State) (q : Addr) (t : State) (mc ms : Nat) (free : Addr → Prop) : Prop :=
  ∃ (E : String) (ce : Cell) (L : List Loc), XC E st t ∧ t.heap[q]? = some ce ∧ ce.vm = .none ∧ st.vm.findClass E = some ce.cls ∧ st.WarmedH t.vm ∧ st.sameButNew ({ t with vm := st.vm } : State) L mc ms ∧ ∀ z ∈ L, free z.base
def vx_Q (Qc : Array Value → State → Outcome → State → Prop) (XC : String → State → State → Prop) (mc ms : Nat) (free : Addr → Prop) : Array Value → State → Outcome → State → Prop := fun a st o t =>
  (Qc a st o t ∧ ∃ L, FrameEnd st o t L mc ms ∧ ∀ q ∈ L, free q.base) ∨ ∃ q, o = .threw q ∧ vx_T XC st q t mc ms free
/-- a callee that returns or throws -/
def vx_Met (l : Launch) (y : MethodName) (ws : List Cond) (rm : Room) (Pc : Array Value → State → Prop) (Qc : Array Value → State → Outcome → State → Prop) (XC : String → State → State → Prop) (mc ms : Nat) (free : Addr → Prop) : Prop :=
  MetFree l y (headSpec ws rm) Pc (fun _ _ _ _ _ => True) (vx_Q Qc XC mc ms free)
def vx_Post (XC : String → State → State → Prop) (mc ms : Nat) (free : Addr → Prop) : Pt → Array Value → Addr → Pt → Prop := fun A a q B =>
  ∃ (g : JFrame) (mk : MethodId) (t : State) (L : List Loc) (E : String) (ce : Cell), B.U.heap = t.heap ∧ B.U.vm = t.vm ∧ XC E (A.U.calling g mk a) t ∧ t.heap[q]? = some ce ∧ ce.vm = .none ∧ A.U.vm.findClass E = some ce.cls ∧ B.locs = A.locs ++ L ∧ (∀ z ∈ L, free z.base) ∧ B.cells = A.cells + mc ∧ B.slots = A.slots + ms
def vx_Back (l : Launch) (R : Room) (p : Program) (e : Env) (below : List Frame) (s : State) (sargs : Array Value) (y : MethodName) (len W9 : Nat)
    (Pre : Pt → Array Value → Prop) (Post : Pt → Array Value → Option Value → Pt → Prop) (PostX : Pt → Array Value → Addr → Pt → Prop) : Prop :=
  ∀ (m : MethodId) (meth : Method) (c : Code) (A : Pt) (g : JFrame) (ig : Instr) (mk : MethodId) (a : Array Value),
    Stand p l e R s m sargs below meth c A.U A.locs A.cells A.slots → g.method = m → g.locals.size = c.maxLocals → decode c.code g.pc = .ok (ig, len) →
    2 * g.monitorRoom + (g.stack.map fun v => v.category).sum ≤ W9 → A.U.methodNamed? y = some mk → Pre A a →
    (∃ (v : Option Value) (B : Pt), Stand p l e R s m sargs below meth c B.U B.locs B.cells B.slots ∧ Post A a v B ∧
      Steps p.tables e below (doInvoke e (A.U.setTop g) [] mk a).1 (B.U.setTop { g with pc := g.pc + len, stack := v.toList ++ g.stack })) ∨
    (∃ (q : Addr) (B : Pt), Stand p l e R s m sargs below meth c B.U B.locs B.cells B.slots ∧ PostX A a q B ∧
      Steps p.tables e below (doInvoke e (A.U.setTop g) [] mk a).1 ((B.U.setTop g).pushFrame (.throwing q)))
section Payer
variable {l : Launch} {R : Room} {p : Program} {e : Env} {below : List Frame} {s : State} {sargs : Array Value} {y : MethodName} {len W9 : Nat}
theorem vx_back {ws : List Cond} {rm : Room} {Pc : Array Value → State → Prop} {Qc : Array Value → State → Outcome → State → Prop} {XC : String → State → State → Prop} {mc ms : Nat} {free : Addr → Prop} {bytes : ByteArray} {maxL : Nat} {ret : Option FieldType}
    (hM : vx_Met l y ws rm Pc Qc XC mc ms free) (hblind : FrameBlind Pc) (hrc : rm.cells = mc) (hrs : rm.slots = ms)
    (hframes : rm.frames + 1 ≤ R.frames) (hlocals : W9 + (maxL + 11) + rm.locals ≤ R.locals)
    (hws : ∀ w ∈ ws, ∀ a' U, s.WarmedH U.vm → w.before a' U = true) (hcode : Cond.code y bytes maxL ret ∈ ws) (hinit : ∀ a' U, s.WarmedH U.vm → (Cond.initialized y.cls).before a' U = true) :
    vx_Back l R p e below s sargs y len W9 (PreOf R mc ms Pc) (PostOf Qc mc ms free) (vx_Post XC mc ms free) := by
  intro m meth c A g ig mk a X hg hsize hdg hW hn hp
  have h1 : (headSpec ws rm).pre.before a A.U = true := atoms_intro fun w hw => hws w hw _ _ X.warmed
  have h2 : (Cond.code y bytes maxL ret).before a A.U = true := hws _ hcode _ _ X.warmed
  have h3 : (Cond.initialized y.cls).before a A.U = true := hinit _ _ X.warmed
  have h4 : A.cells + (headSpec ws rm).room.cells ≤ R.cells := by rw [show (headSpec ws rm).room.cells = mc from hrc]; exact hp.1
  have h5 : A.slots + (headSpec ws rm).room.slots ≤ R.slots := by rw [show (headSpec ws rm).room.slots = ms from hrs]; exact hp.2.1
  have hPc : Pc a (A.U.calling g mk a) := hblind _ _ _ _ hp.2.2
  obtain ⟨U, Ls, c0, s0⟩ := A
  dsimp only [Pt.U, Pt.locs, Pt.cells, Pt.slots] at h1 h2 h3 h4 h5 X hn hPc ⊢
  obtain ⟨methY, cY, hmY, hcY, -, hlY, -, -, -, -⟩ := Cond.code_spec hn h2
  obtain ⟨kY, hkY, -⟩ := className_of_methodNamed hn
  have hinitY : kY.init = .initialized := Cond.initialized_spec (findClass_of_methodNamed hn) hkY h3
  have h : At U g.method c below := by rw [hg]; exact X.here
  have hlocals9 : W9 + (maxL + 11) + (headSpec ws rm).room.locals ≤ R.locals := hlocals
  have happ : (headSpec ws rm).appliesLoose y e.platform (U.calling g mk a) = true :=
    Spec.appliesLoose_calling (g := g) h hdg hn hkY hinitY
      (X.room_calling (g := g) (R' := (headSpec ws rm).room) hsize hmY hcY hframes (by rw [hlY]; omega) h4 h5) h1
  obtain ⟨mid, hmid⟩ := h.above
  have hfr : (U.setTop g).frames = (.java g :: mid) ++ below := by rw [State.frames_setTop' g h.top, hmid]; rfl
  obtain ⟨o, s₂, hsteps, -, hend, hq⟩ := Steps.callFree hM p X.admits X.cas X.clock (acts := []) hfr happ hPc trivial
  have hq' : vx_Q Qc XC mc ms free a (U.calling g mk a) o s₂ := hq
  rw [State.frames_setTop' g h.top] at hend
  obtain ⟨g₀, hg0⟩ := Option.isSome_iff_exists.mp h.top
  obtain ⟨r, hr⟩ := State.topJava?_eq_some.mp hg0
  have hr' : (({ U with heap := s₂.heap, slotsUsed := s₂.slotsUsed } : State).setVm s₂.vm).frames = .java g₀ :: r := hr
  rcases hq' with ⟨hqc, L, hfe, hL⟩ | ⟨q, rfl, E, ce, L, hx, hce, hcv, hcl, hW₂, hsm, hL⟩
  · obtain ⟨⟨v, rfl⟩, hW₂, e2, q2, q3, q4, q5, q6⟩ := id hfe
    have e3 : s₂ = ({ (U.calling g mk a).setFrames s₂.frames with heap := s₂.heap, slotsUsed := s₂.slotsUsed } : State).setVm s₂.vm := by
      have : s₂ = ({ s₂ with vm := (U.calling g mk a).vm } : State).setVm s₂.vm := rfl
      rw [e2] at this
      exact this
    obtain ⟨c₂, i₂, len₂, hc₂, hd₂, hf₂⟩ := hend
    have hW' : U.WarmedH s₂.vm := hW₂
    have hcc : c₂ = c := by
      have h1 : s₂.code? g.method = U.code? g.method := by
        rw [State.code?_eq, State.code?_eq, hW'.alike.method?]
      exact Option.some.inj (hc₂.symm.trans (h1.trans h.code))
    subst hcc
    have hlen : len₂ = len := by rw [hdg] at hd₂; cases hd₂; rfl
    subst hlen
    have hs₂ : s₂ = (({ U with heap := s₂.heap, slotsUsed := s₂.slotsUsed } : State).setVm s₂.vm).setTop { g with pc := g.pc + len₂, stack := v.toList ++ g.stack } := by
      refine e3.trans ?_
      rw [hf₂, State.calling_eq h.top, State.setFrames_setFrames, State.setTop_of_frames _ hr', hr]
      rfl
    have hsame : U.sameButNew ({ U with heap := s₂.heap, slotsUsed := s₂.slotsUsed } : State) L mc ms := by
      refine ⟨?_, q2, q3, q4, q5, q6⟩
      obtain ⟨t, ht, -⟩ := State.frames_cons hr
      show ({ U with heap := s₂.heap, slotsUsed := s₂.slotsUsed } : State) = { U.setFrames U.frames with heap := s₂.heap, slotsUsed := s₂.slotsUsed }
      rw [State.setFrames_self ht]
    subst hg
    refine Or.inl ⟨v, ⟨(({ U with heap := s₂.heap, slotsUsed := s₂.slotsUsed } : State).setVm s₂.vm), Ls ++ L, c0 + mc, s0 + ms⟩,
      ⟨X.admits, X.cas, X.clock, X.frames, X.room, X.hears, X.method, X.code, (X.here.setHeapUsed s₂.heap s₂.slotsUsed).setVm hW'.alike, X.tail, State.WarmedH.trans X.warmed hW', X.limits, X.bytes, X.same.trans (hsame.setVm s.vm)⟩,
      ⟨g, mk, s₂, L, rfl, rfl, hqc, rfl, hL, rfl, rfl⟩, ?_⟩
    show Steps p.tables e below _ ((({ U with heap := s₂.heap, slotsUsed := s₂.slotsUsed } : State).setVm s₂.vm).setTop { g with pc := g.pc + len₂, stack := v.toList ++ g.stack })
    rw [← hs₂]
    exact hsteps
  · obtain ⟨e2, q2, q3, q4, q5, q6⟩ := id hsm
    have e3 : s₂ = ({ (U.calling g mk a).setFrames s₂.frames with heap := s₂.heap, slotsUsed := s₂.slotsUsed } : State).setVm s₂.vm := by
      have : s₂ = ({ s₂ with vm := (U.calling g mk a).vm } : State).setVm s₂.vm := rfl
      rw [e2] at this
      exact this
    have hf₂ : s₂.frames = .throwing q :: .java g :: U.frames.tail := hend
    have hW' : U.WarmedH s₂.vm := hW₂
    have hs₂ : s₂ = ((({ U with heap := s₂.heap, slotsUsed := s₂.slotsUsed } : State).setVm s₂.vm).setTop g).pushFrame (.throwing q) := by
      refine e3.trans ?_
      rw [hf₂, State.calling_eq h.top, State.setFrames_setFrames, State.pushFrame, State.frames_setTop _ hr', State.setTop_of_frames _ hr', State.setFrames_setFrames, hr]
      rfl
    have hsame : U.sameButNew ({ U with heap := s₂.heap, slotsUsed := s₂.slotsUsed } : State) L mc ms := by
      refine ⟨?_, q2, q3, q4, q5, q6⟩
      obtain ⟨t, ht, -⟩ := State.frames_cons hr
      show ({ U with heap := s₂.heap, slotsUsed := s₂.slotsUsed } : State) = { U.setFrames U.frames with heap := s₂.heap, slotsUsed := s₂.slotsUsed }
      rw [State.setFrames_self ht]
    subst hg
    refine Or.inr ⟨q, ⟨(({ U with heap := s₂.heap, slotsUsed := s₂.slotsUsed } : State).setVm s₂.vm), Ls ++ L, c0 + mc, s0 + ms⟩,
      ⟨X.admits, X.cas, X.clock, X.frames, X.room, X.hears, X.method, X.code, (X.here.setHeapUsed s₂.heap s₂.slotsUsed).setVm hW'.alike, X.tail, State.WarmedH.trans X.warmed hW', X.limits, X.bytes, X.same.trans (hsame.setVm s.vm)⟩,
      ⟨g, mk, s₂, L, E, ce, rfl, rfl, hx, hce, hcv, hcl, rfl, hL, rfl, rfl⟩, ?_⟩
    show Steps p.tables e below _ (((({ U with heap := s₂.heap, slotsUsed := s₂.slotsUsed } : State).setVm s₂.vm).setTop g).pushFrame (.throwing q))
    rw [← hs₂]
    exact hsteps
end Payer
section Calls
variable {p : Program} {l : Launch} {e : Env} {R : Room} {s : State} {m : MethodId} {args : Array Value} {below : List Frame} {meth : Method} {c : Code} {T : State} {locs : List Loc} {cells slots : Nat}
theorem vx_callV (X : Stand p l e R s m args below meth c T locs cells slots) (hexec : p.tables.exec = Jvm.exec) {own C : String} {index : Nat} {y : MethodName} {bytes : ByteArray} {maxL : Nat} {ret : Option FieldType}
    (hown : s.vm.findClass own = some m.cls) (hlink : (Cond.methodLink own index y).before args s = true) (hinst : (Cond.instanceMethod y).before args s = true) (hsel : (Cond.selects C y y).before args s = true)
    (hcode : (Cond.code y bytes maxL ret).before args s = true) (hy : y.cls ≠ "java/lang/invoke/MethodHandle" ∧ y.cls ≠ "java/lang/invoke/VarHandle")
    {W9 : Nat} {Pre : Pt → Array Value → Prop} {Post : Pt → Array Value → Option Value → Pt → Prop} {PostX : Pt → Array Value → Addr → Pt → Prop} (hK : vx_Back l R p e below s args y 3 W9 Pre Post PostX)
    {b : Addr} {cellB : Cell} (hcell : T.heap[b]? = some cellB) (hobj : cellB.vm.isStatics = false) (hcls : s.vm.findClass C = some cellB.cls)
    {g : JFrame} (hg : g.method = m) (hsize : g.locals.size = c.maxLocals) {argsL rest : List Value} (hlen : ∀ sig, parseMethodDescriptor y.desc = some sig → argsL.length = sig.parameters.length)
    (hstack : g.stack = argsL.reverse ++ .ref b :: rest) (hW : 2 * g.monitorRoom + (rest.map fun v => v.category).sum ≤ W9) (hdg : decode c.code g.pc = .ok (.invokevirtual index, 3))
    (hpre : ∀ vm₁, s.WarmedH vm₁ → Pre ⟨T.setVm vm₁, locs, cells, slots⟩ (Value.ref b :: argsL).toArray) :
    (∃ (v : Option Value) (vm₁ : Vm) (B : Pt), s.WarmedH vm₁ ∧ Stand p l e R s m args below meth c B.U B.locs B.cells B.slots ∧ Post ⟨T.setVm vm₁, locs, cells, slots⟩ (Value.ref b :: argsL).toArray v B ∧
      ∀ target, Steps p.tables e below (B.U.setTop { g with pc := g.pc + 3, stack := v.toList ++ rest }) target → Steps p.tables e below (T.setTop g) target) ∨
    (∃ (q : Addr) (vm₁ : Vm) (B : Pt), s.WarmedH vm₁ ∧ Stand p l e R s m args below meth c B.U B.locs B.cells B.slots ∧ PostX ⟨T.setVm vm₁, locs, cells, slots⟩ (Value.ref b :: argsL).toArray q B ∧
      Steps p.tables e below (T.setTop g) ((B.U.setTop { g with stack := rest }).pushFrame (.throwing q))) := by
  obtain ⟨mk, methM, hnamed, hmethM, hstM, habM⟩ := Cond.instanceMethod_spec hinst
  obtain ⟨methM', cM, hmethM', -, -, -, -, -, -, hsigM⟩ := Cond.code_spec hnamed hcode
  cases hmethM.symm.trans hmethM'
  obtain ⟨c2, r2, m2, q1, q2, q3, q4, kP, hkP, hkPi⟩ := Cond.selects_spec hsel
  cases hcls.symm.trans q1
  cases (State.methodFound?_of_named hnamed hy).symm.trans q2
  cases hnamed.symm.trans q3
  have hselP : selectMethod e.platform s.vm cellB.cls mk = .method mk := by rw [Launch.admits_selectMethod X.admits]; exact q4
  obtain ⟨vm₁, X₁, hstep₁⟩ := X.invokevirtual hexec hown hlink hnamed hmethM hstM hkP hkPi hy (a := b) (cell := cellB) hcell
    (fun z h => by rw [h] at hobj; cases hobj) hselP hmethM habM hkP hkPi (g := g) hg (argsL := argsL) (rest := rest) (hlen _ hsigM) hstack hdg
  rcases hK m meth c ⟨T.setVm vm₁, locs, cells, slots⟩ { g with stack := rest } (.invokevirtual index) mk (Value.ref b :: argsL).toArray X₁ hg hsize hdg hW (X₁.named hnamed) (hpre vm₁ X₁.warmed) with ⟨v, B, X', hpost, hsteps⟩ | ⟨q, B, X', hpost, hsteps⟩
  · exact Or.inl ⟨v, vm₁, B, X₁.warmed, X', hpost, fun target h => hstep₁ _ fun acts => by rw [doInvoke_state]; exact hsteps.trans h⟩
  · exact Or.inr ⟨q, vm₁, B, X₁.warmed, X', hpost, hstep₁ _ fun acts => by rw [doInvoke_state]; exact hsteps⟩
theorem vx_callS (X : Stand p l e R s m args below meth c T locs cells slots) (hexec : p.tables.exec = Jvm.exec) {own : String} {index : Nat} {y : MethodName} {bytes : ByteArray} {maxL : Nat} {ret : Option FieldType}
    (hown : s.vm.findClass own = some m.cls) (hlink : (Cond.methodLink own index y).before args s = true) (hstat : (Cond.static y).before args s = true) (hinit : (Cond.initialized y.cls).before args s = true)
    (hcode : (Cond.code y bytes maxL ret).before args s = true) (hy : y.cls ≠ "java/lang/invoke/MethodHandle" ∧ y.cls ≠ "java/lang/invoke/VarHandle")
    {W9 : Nat} {Pre : Pt → Array Value → Prop} {Post : Pt → Array Value → Option Value → Pt → Prop} {PostX : Pt → Array Value → Addr → Pt → Prop} (hK : vx_Back l R p e below s args y 3 W9 Pre Post PostX)
    {g : JFrame} (hg : g.method = m) (hsize : g.locals.size = c.maxLocals) {argsL rest : List Value} (hlen : ∀ sig, parseMethodDescriptor y.desc = some sig → argsL.length = sig.parameters.length)
    (hstack : g.stack = argsL.reverse ++ rest) (hW : 2 * g.monitorRoom + (rest.map fun v => v.category).sum ≤ W9) (hdg : decode c.code g.pc = .ok (.invokestatic index, 3))
    (hpre : ∀ vm₁, s.WarmedH vm₁ → Pre ⟨T.setVm vm₁, locs, cells, slots⟩ argsL.toArray) :
    (∃ (v : Option Value) (vm₁ : Vm) (B : Pt), s.WarmedH vm₁ ∧ Stand p l e R s m args below meth c B.U B.locs B.cells B.slots ∧ Post ⟨T.setVm vm₁, locs, cells, slots⟩ argsL.toArray v B ∧
      ∀ target, Steps p.tables e below (B.U.setTop { g with pc := g.pc + 3, stack := v.toList ++ rest }) target → Steps p.tables e below (T.setTop g) target) ∨
    (∃ (q : Addr) (vm₁ : Vm) (B : Pt), s.WarmedH vm₁ ∧ Stand p l e R s m args below meth c B.U B.locs B.cells B.slots ∧ PostX ⟨T.setVm vm₁, locs, cells, slots⟩ argsL.toArray q B ∧
      Steps p.tables e below (T.setTop g) ((B.U.setTop { g with stack := rest }).pushFrame (.throwing q))) := by
  obtain ⟨mk, hnamed⟩ := Cond.code_named hcode
  obtain ⟨methM, cM, hmethM, -, -, -, -, -, -, hsigM⟩ := Cond.code_spec hnamed hcode
  have hstatic : methM.isStatic = true := Cond.static_spec hnamed hmethM hstat
  obtain ⟨kP, hkP, -⟩ := className_of_methodNamed hnamed
  have hinitP : kP.init = .initialized := Cond.initialized_spec (findClass_of_methodNamed hnamed) hkP hinit
  obtain ⟨vm₁, X₁, hstep₁⟩ := X.invokestatic hexec hown hlink hnamed hmethM hstatic hkP hinitP hy (g := g) hg (argsL := argsL) (rest := rest) (hlen _ hsigM) hstack hdg
  rcases hK m meth c ⟨T.setVm vm₁, locs, cells, slots⟩ { g with stack := rest } (.invokestatic index) mk argsL.toArray X₁ hg hsize hdg hW (X₁.named hnamed) (hpre vm₁ X₁.warmed) with ⟨v, B, X', hpost, hsteps⟩ | ⟨q, B, X', hpost, hsteps⟩
  · exact Or.inl ⟨v, vm₁, B, X₁.warmed, X', hpost, fun target h => hstep₁ _ fun acts => by rw [doInvoke_state]; exact hsteps.trans h⟩
  · exact Or.inr ⟨q, vm₁, B, X₁.warmed, X', hpost, hstep₁ _ fun acts => by rw [doInvoke_state]; exact hsteps⟩
end Calls
theorem vx_cls {s : State} {T : State} {vm₁ : Vm} {E : String} {k : ClassId} (hW : s.WarmedH vm₁) (h : (T.setVm vm₁).vm.findClass E = some k) : s.vm.findClass E = some k := by
  have h1 : vm₁.findClass E = some k := h
  rw [hW.alike.findClass] at h1
  exact h1
/-- the method's frame g, with q thrown over it -/
def vx_W (p : Program) (l : Launch) (e : Env) (R : Room) (s : State) (m : MethodId) (args : Array Value) (below : List Frame) (meth : Method) (c : Code) (H : Heap) (locs : List Loc) (cells slots : Nat) (Q : State → Prop) (g : JFrame) (q : Addr) : Prop :=
  ∀ T : State, T.heap = H → Stand p l e R s m args below meth c T locs cells slots → ∃ t, Steps p.tables e below ((T.setTop g).pushFrame (.throwing q)) t ∧ Q t
def vx_Run (p : Program) (l : Launch) (e : Env) (R : Room) (s : State) (m : MethodId) (args : Array Value) (below : List Frame) (meth : Method) (c : Code) (H : Heap) (locs : List Loc) (cells slots mc ms : Nat) (g : JFrame) (rest : List Value) (Qa : State → Outcome → State → Prop) (XC : String → State → State → Prop) (free : Addr → Prop) : Prop :=
  ∀ T : State, T.heap = H → Stand p l e R s m args below meth c T locs cells slots →
    (∃ (v : Option Value) (st₀ t T' : State) (L : List Loc), st₀.heap = H ∧ Stand p l e R s m args below meth c T' (locs ++ L) (cells + mc) (slots + ms) ∧ (∀ q ∈ L, free q.base) ∧ T'.heap = t.heap ∧ T'.vm = t.vm ∧ Qa st₀ (.returned v) t ∧
      Goes p e below T g T' { g with pc := g.pc + 3, stack := v.toList ++ rest }) ∨
    (∃ (q : Addr) (st₀ t T' : State) (L : List Loc) (E : String) (ce : Cell), st₀.heap = H ∧ Stand p l e R s m args below meth c T' (locs ++ L) (cells + mc) (slots + ms) ∧ (∀ z ∈ L, free z.base) ∧ T'.heap = t.heap ∧ T'.vm = t.vm ∧ XC E st₀ t ∧ t.heap[q]? = some ce ∧ ce.vm = .none ∧ s.vm.findClass E = some ce.cls ∧
      Steps p.tables e below (T.setTop g) ((T'.setTop { g with stack := rest }).pushFrame (.throwing q)))
def vx_X {S : Type} (px : S → Prop) (B : String → S → State → Prop) (A : Nat → Prop) : String → State → State → Prop := fun E st t => ∃ u : S, px u ∧ B E u t ∧ va_F A st t
section Runs
variable {p : Program} {l : Launch} {e : Env} {R : Room} {s : State} {m : MethodId} {args : Array Value} {below : List Frame} {meth : Method} {c : Code} {H : Heap} {locs : List Loc} {cells slots : Nat}
variable {y : MethodName} {bytes cc : ByteArray} {maxL nL mc ms n index : Nat} {ret : Option FieldType} {ws : List Cond} {rm : Room} {Pc : Array Value → State → Prop} {Qc : Array Value → State → Outcome → State → Prop} {XC : String → State → State → Prop} {free : Addr → Prop} {Ts : List Cond} {own C : String} {b : Addr} {As rest : List Value} {g : JFrame}
theorem vx_callBack (cb : CallB R s args own index y bytes maxL ret ws rm mc ms n) (hM : vx_Met l y ws rm Pc Qc XC mc ms free) (hbl : FrameBlind Pc) : vx_Back l R p e below s args y 3 8 (PreOf R mc ms Pc) (PostOf Qc mc ms free) (vx_Post XC mc ms free) := by
  obtain ⟨hrc, hrs, hfr, hlo, hws, hcw, -, hini, -⟩ := cb
  exact vx_back (bytes := bytes) (maxL := maxL) (ret := ret) hM hbl hrc hrs hfr hlo hws hcw (fun a' U hW => word_at hW (Or.inl (by first | rfl | simp [Cond.onTables, Cond.keeps, Cond.steady])) hini)
theorem vx_runV (S : CallFix p m c cc nL s args Ts own) (hM : vx_Met l y ws rm Pc Qc XC mc ms free) (cw : CallW R s args own C index y bytes maxL ret ws rm mc ms n) (hp : PreV s H C b Pc As)
    (hg : g.method = m) (hn : As.length = n) (hsize : g.locals.size = nL) (hstack : g.stack = As.reverse ++ .ref b :: rest) (hW : 2 * g.monitorRoom + (rest.map fun v => v.category).sum ≤ 8) (hdg : decode cc g.pc = .ok (.invokevirtual index, 3)) (hf : cells + mc ≤ R.cells ∧ slots + ms ≤ R.slots) :
    vx_Run p l e R s m args below meth c H locs cells slots mc ms g rest (Qc (Value.ref b :: As).toArray) XC free := by
  have hK : vx_Back l R p e below s args y 3 8 (PreOf R mc ms Pc) (PostOf Qc mc ms free) (vx_Post XC mc ms free) := vx_callBack cw.1 hM hp.1
  obtain ⟨⟨-, -, -, -, -, -, hcode, -, hy, hlen, hl⟩, hin, hse⟩ := cw
  obtain ⟨hx, hb, hml, ho, -⟩ := S
  obtain ⟨-, ⟨cellB, hcB, hoB, hclB⟩, hPc⟩ := hp
  intro T hT X
  rcases vx_callV X hx (C := C) (bytes := bytes) (maxL := maxL) (ret := ret) ho hl hin hse hcode hy hK (by rw [hT]; exact hcB) hoB hclB hg (hsize.trans hml.symm) (argsL := As) (rest := rest) (fun sig h => hn.trans (hlen sig h)) hstack hW (by rw [hb]; exact hdg)
    (fun vm₁ hW₁ => ⟨hf.1, hf.2, hPc (T.setVm vm₁) hT hW₁⟩) with ⟨v, vm₁, ⟨U', l2, c2, s2⟩, hW₁, X', ⟨g', mk, t, L, e1, e2, hq, h1, hL, h2, h3⟩, st⟩ | ⟨q, vm₁, ⟨U', l2, c2, s2⟩, hW₁, X', ⟨g', mk, t, L, E, ce, e1, e2, hq, hce, hcv, hcl, h1, hL, h2, h3⟩, st⟩
  · dsimp only [Pt.U, Pt.locs, Pt.cells, Pt.slots] at X' e1 e2 h1 h2 h3 st
    subst h1; subst h2; subst h3
    exact Or.inl ⟨v, (T.setVm vm₁).calling g' mk (Value.ref b :: As).toArray, t, U', L, hT, X', hL, e1, e2, hq, st⟩
  · dsimp only [Pt.U, Pt.locs, Pt.cells, Pt.slots] at X' e1 e2 h1 h2 h3 st hcl
    subst h1; subst h2; subst h3
    exact Or.inr ⟨q, (T.setVm vm₁).calling g' mk (Value.ref b :: As).toArray, t, U', L, E, ce, hT, X', hL, e1, e2, hq, hce, hcv, vx_cls hW₁ hcl, st⟩
theorem vx_runS (S : CallFix p m c cc nL s args Ts own) (hM : vx_Met l y ws rm Pc Qc XC mc ms free) (cw : CallB R s args own index y bytes maxL ret ws rm mc ms n ∧ (Cond.static y).before args s = true) (hp : PreS s H Pc As)
    (hg : g.method = m) (hn : As.length = n) (hsize : g.locals.size = nL) (hstack : g.stack = As.reverse ++ rest) (hW : 2 * g.monitorRoom + (rest.map fun v => v.category).sum ≤ 8) (hdg : decode cc g.pc = .ok (.invokestatic index, 3)) (hf : cells + mc ≤ R.cells ∧ slots + ms ≤ R.slots) :
    vx_Run p l e R s m args below meth c H locs cells slots mc ms g rest (Qc As.toArray) XC free := by
  have hK : vx_Back l R p e below s args y 3 8 (PreOf R mc ms Pc) (PostOf Qc mc ms free) (vx_Post XC mc ms free) := vx_callBack cw.1 hM hp.1
  obtain ⟨⟨-, -, -, -, -, -, hcode, hini, hy, hlen, hl⟩, hstt⟩ := cw
  obtain ⟨hx, hb, hml, ho, -⟩ := S
  intro T hT X
  rcases vx_callS X hx (bytes := bytes) (maxL := maxL) (ret := ret) ho hl hstt hini hcode hy hK hg (hsize.trans hml.symm) (argsL := As) (rest := rest) (fun sig h => hn.trans (hlen sig h)) hstack hW (by rw [hb]; exact hdg)
    (fun vm₁ hW₁ => ⟨hf.1, hf.2, hp.2 (T.setVm vm₁) hT hW₁⟩) with ⟨v, vm₁, ⟨U', l2, c2, s2⟩, hW₁, X', ⟨g', mk, t, L, e1, e2, hq, h1, hL, h2, h3⟩, st⟩ | ⟨q, vm₁, ⟨U', l2, c2, s2⟩, hW₁, X', ⟨g', mk, t, L, E, ce, e1, e2, hq, hce, hcv, hcl, h1, hL, h2, h3⟩, st⟩
  · dsimp only [Pt.U, Pt.locs, Pt.cells, Pt.slots] at X' e1 e2 h1 h2 h3 st
    subst h1; subst h2; subst h3
    exact Or.inl ⟨v, (T.setVm vm₁).calling g' mk As.toArray, t, U', L, hT, X', hL, e1, e2, hq, st⟩
  · dsimp only [Pt.U, Pt.locs, Pt.cells, Pt.slots] at X' e1 e2 h1 h2 h3 st hcl
    subst h1; subst h2; subst h3
    exact Or.inr ⟨q, (T.setVm vm₁).calling g' mk As.toArray, t, U', L, E, ce, hT, X', hL, e1, e2, hq, hce, hcv, vx_cls hW₁ hcl, st⟩
end Runs
section Rows
variable {p : Program} {l : Launch} {e : Env} {R : Room} {s : State} {m : MethodId} {args : Array Value} {below : List Frame} {meth : Method} {c : Code} {H : Heap} {locs : List Loc} {cells slots : Nat} {Q : State → Prop}
variable {mc ms : Nat} {free : Addr → Prop} {A0 A1 : Nat → Prop} {H0 : Heap} {a : Array Value} {pc : Nat} {ls : Array Slot} {st0 rest : List Value}
theorem vx_keep {st₀ t T' : State} {L : List Loc} (h0 : st₀.heap = H) (e1 : T'.heap = t.heap) (hS : va_S A0 H0 H locs) (hA : ∀ q, q < H.size → A1 q → A0 q) (hf : ∀ q, free q → A0 q) (hL : ∀ q ∈ L, free q.base) (hF : va_F A1 st₀ t) :
    H.size ≤ T'.heap.size ∧ (∀ q : Nat, q < H.size → ¬ A1 q → T'.heap[q]? = H[q]?) ∧ va_S A0 H0 T'.heap (locs ++ L) := by
  obtain ⟨hz, hk⟩ := hF
  rw [h0] at hz hk
  exact ⟨by rw [e1]; exact hz, fun q h1 h2 => by rw [e1]; exact hk q h1 h2,
    ⟨Nat.le_trans hS.1 (by rw [e1]; exact hz), fun q h1 h2 => by rw [e1, hk q (Nat.lt_of_lt_of_le h1 hS.1) (fun z => h2 (hA q (Nat.lt_of_lt_of_le h1 hS.1) z))]; exact hS.2.1 q h1 h2, fun q hq => by
      rcases List.mem_append.mp hq with h | h
      · exact hS.2.2 q h
      · exact hf _ (hL q h)⟩⟩
theorem vx_calli {S SX : Type} {post : Int32 → S → Prop} {px : SX → Prop} {B : S → State → Prop} {BX : String → SX → State → Prop} {AX : Nat → Prop} (hr : vx_Run p l e R s m args below meth c H locs cells slots mc ms (F0 m pc ls st0) rest (va_Qi post B A1 a) (vx_X px BX AX) free) (hS : va_S A0 H0 H locs) (hA : ∀ q, q < H.size → A1 q → A0 q) (hf : ∀ q, free q → A0 q) (hAX : ∀ q, q < H.size → AX q → A0 q)
    (kx : ∀ (E : String) (ce : Cell) (q9 : Addr) (u : SX) (t : State) (H1 : Heap) (locs1 : List Loc), t.heap = H1 → s.vm.Alike t.vm → px u → BX E u t → H.size ≤ H1.size → (∀ q : Nat, q < H.size → ¬ AX q → H1[q]? = H[q]?) → va_S A0 H0 H1 locs1 → H1[q9]? = some ce → ce.vm = .none → s.vm.findClass E = some ce.cls → vx_W p l e R s m args below meth c H1 locs1 (cells + mc) (slots + ms) Q (F0 m pc ls rest) q9)
    (kk : ∀ (r : Int32) (u : S) (t : State) (H1 : Heap) (locs1 : List Loc), t.heap = H1 → s.vm.Alike t.vm → post r u → B u t → H.size ≤ H1.size → (∀ q : Nat, q < H.size → ¬ A1 q → H1[q]? = H[q]?) → va_S A0 H0 H1 locs1 → W p l e R s m args below meth c H1 locs1 (cells + mc) (slots + ms) Q (F0 m (pc + 3) ls (.int r :: rest))) : W p l e R s m args below meth c H locs cells slots Q (F0 m pc ls st0) := by
  intro T hT X
  rcases hr T hT X with ⟨v, st₀, t, T', L, h0, X', hL, e1, e2, ⟨⟨r, u, hv, hp, hb⟩, hF⟩, st⟩ | ⟨q, st₀, t, T', L, E, ce, h0, X', hL, e1, e2, ⟨u, hp, hb, hF⟩, hce, hcv, hcl, st⟩
  · cases hv
    obtain ⟨k1, k2, k3⟩ := vx_keep h0 e1 hS hA hf hL hF
    obtain ⟨t2, a1, b1⟩ := kk r u t T'.heap (locs ++ L) e1.symm (by rw [← e2]; exact X'.warmed.alike) hp hb k1 k2 k3 T' rfl X'
    exact ⟨t2, st t2 a1, b1⟩
  · obtain ⟨k1, k2, k3⟩ := vx_keep h0 e1 hS hAX hf hL hF
    obtain ⟨t2, a1, b1⟩ := kx E ce q u t T'.heap (locs ++ L) e1.symm (by rw [← e2]; exact X'.warmed.alike) hp hb k1 k2 k3 (by rw [e1]; exact hce) hcv hcl T' rfl X'
    exact ⟨t2, st.trans a1, b1⟩
theorem vx_calll {S SX : Type} {post : Int64 → S → Prop} {px : SX → Prop} {B : S → State → Prop} {BX : String → SX → State → Prop} {AX : Nat → Prop} (hr : vx_Run p l e R s m args below meth c H locs cells slots mc ms (F0 m pc ls st0) rest (va_Ql post B A1 a) (vx_X px BX AX) free) (hS : va_S A0 H0 H locs) (hA : ∀ q, q < H.size → A1 q → A0 q) (hf : ∀ q, free q → A0 q) (hAX : ∀ q, q < H.size → AX q → A0 q)
    (kx : ∀ (E : String) (ce : Cell) (q9 : Addr) (u : SX) (t : State) (H1 : Heap) (locs1 : List Loc), t.heap = H1 → s.vm.Alike t.vm → px u → BX E u t → H.size ≤ H1.size → (∀ q : Nat, q < H.size → ¬ AX q → H1[q]? = H[q]?) → va_S A0 H0 H1 locs1 → H1[q9]? = some ce → ce.vm = .none → s.vm.findClass E = some ce.cls → vx_W p l e R s m args below meth c H1 locs1 (cells + mc) (slots + ms) Q (F0 m pc ls rest) q9)
    (kk : ∀ (r : Int64) (u : S) (t : State) (H1 : Heap) (locs1 : List Loc), t.heap = H1 → s.vm.Alike t.vm → post r u → B u t → H.size ≤ H1.size → (∀ q : Nat, q < H.size → ¬ A1 q → H1[q]? = H[q]?) → va_S A0 H0 H1 locs1 → W p l e R s m args below meth c H1 locs1 (cells + mc) (slots + ms) Q (F0 m (pc + 3) ls (.long r :: rest))) : W p l e R s m args below meth c H locs cells slots Q (F0 m pc ls st0) := by
  intro T hT X
  rcases hr T hT X with ⟨v, st₀, t, T', L, h0, X', hL, e1, e2, ⟨⟨r, u, hv, hp, hb⟩, hF⟩, st⟩ | ⟨q, st₀, t, T', L, E, ce, h0, X', hL, e1, e2, ⟨u, hp, hb, hF⟩, hce, hcv, hcl, st⟩
  · cases hv
    obtain ⟨k1, k2, k3⟩ := vx_keep h0 e1 hS hA hf hL hF
    obtain ⟨t2, a1, b1⟩ := kk r u t T'.heap (locs ++ L) e1.symm (by rw [← e2]; exact X'.warmed.alike) hp hb k1 k2 k3 T' rfl X'
    exact ⟨t2, st t2 a1, b1⟩
  · obtain ⟨k1, k2, k3⟩ := vx_keep h0 e1 hS hAX hf hL hF
    obtain ⟨t2, a1, b1⟩ := kx E ce q u t T'.heap (locs ++ L) e1.symm (by rw [← e2]; exact X'.warmed.alike) hp hb k1 k2 k3 (by rw [e1]; exact hce) hcv hcl T' rfl X'
    exact ⟨t2, st.trans a1, b1⟩
theorem vx_callf {S SX : Type} {post : UInt32 → S → Prop} {px : SX → Prop} {B : S → State → Prop} {BX : String → SX → State → Prop} {AX : Nat → Prop} (hr : vx_Run p l e R s m args below meth c H locs cells slots mc ms (F0 m pc ls st0) rest (va_Qf post B A1 a) (vx_X px BX AX) free) (hS : va_S A0 H0 H locs) (hA : ∀ q, q < H.size → A1 q → A0 q) (hf : ∀ q, free q → A0 q) (hAX : ∀ q, q < H.size → AX q → A0 q)
    (kx : ∀ (E : String) (ce : Cell) (q9 : Addr) (u : SX) (t : State) (H1 : Heap) (locs1 : List Loc), t.heap = H1 → s.vm.Alike t.vm → px u → BX E u t → H.size ≤ H1.size → (∀ q : Nat, q < H.size → ¬ AX q → H1[q]? = H[q]?) → va_S A0 H0 H1 locs1 → H1[q9]? = some ce → ce.vm = .none → s.vm.findClass E = some ce.cls → vx_W p l e R s m args below meth c H1 locs1 (cells + mc) (slots + ms) Q (F0 m pc ls rest) q9)
    (kk : ∀ (r : UInt32) (u : S) (t : State) (H1 : Heap) (locs1 : List Loc), t.heap = H1 → s.vm.Alike t.vm → post r u → B u t → H.size ≤ H1.size → (∀ q : Nat, q < H.size → ¬ A1 q → H1[q]? = H[q]?) → va_S A0 H0 H1 locs1 → W p l e R s m args below meth c H1 locs1 (cells + mc) (slots + ms) Q (F0 m (pc + 3) ls (.float r :: rest))) : W p l e R s m args below meth c H locs cells slots Q (F0 m pc ls st0) := by
  intro T hT X
  rcases hr T hT X with ⟨v, st₀, t, T', L, h0, X', hL, e1, e2, ⟨⟨r, u, hv, hp, hb⟩, hF⟩, st⟩ | ⟨q, st₀, t, T', L, E, ce, h0, X', hL, e1, e2, ⟨u, hp, hb, hF⟩, hce, hcv, hcl, st⟩
  · cases hv
    obtain ⟨k1, k2, k3⟩ := vx_keep h0 e1 hS hA hf hL hF
    obtain ⟨t2, a1, b1⟩ := kk r u t T'.heap (locs ++ L) e1.symm (by rw [← e2]; exact X'.warmed.alike) hp hb k1 k2 k3 T' rfl X'
    exact ⟨t2, st t2 a1, b1⟩
  · obtain ⟨k1, k2, k3⟩ := vx_keep h0 e1 hS hAX hf hL hF
    obtain ⟨t2, a1, b1⟩ := kx E ce q u t T'.heap (locs ++ L) e1.symm (by rw [← e2]; exact X'.warmed.alike) hp hb k1 k2 k3 (by rw [e1]; exact hce) hcv hcl T' rfl X'
    exact ⟨t2, st.trans a1, b1⟩
theorem vx_calld {S SX : Type} {post : UInt64 → S → Prop} {px : SX → Prop} {B : S → State → Prop} {BX : String → SX → State → Prop} {AX : Nat → Prop} (hr : vx_Run p l e R s m args below meth c H locs cells slots mc ms (F0 m pc ls st0) rest (va_Qd post B A1 a) (vx_X px BX AX) free) (hS : va_S A0 H0 H locs) (hA : ∀ q, q < H.size → A1 q → A0 q) (hf : ∀ q, free q → A0 q) (hAX : ∀ q, q < H.size → AX q → A0 q)
    (kx : ∀ (E : String) (ce : Cell) (q9 : Addr) (u : SX) (t : State) (H1 : Heap) (locs1 : List Loc), t.heap = H1 → s.vm.Alike t.vm → px u → BX E u t → H.size ≤ H1.size → (∀ q : Nat, q < H.size → ¬ AX q → H1[q]? = H[q]?) → va_S A0 H0 H1 locs1 → H1[q9]? = some ce → ce.vm = .none → s.vm.findClass E = some ce.cls → vx_W p l e R s m args below meth c H1 locs1 (cells + mc) (slots + ms) Q (F0 m pc ls rest) q9)
    (kk : ∀ (r : UInt64) (u : S) (t : State) (H1 : Heap) (locs1 : List Loc), t.heap = H1 → s.vm.Alike t.vm → post r u → B u t → H.size ≤ H1.size → (∀ q : Nat, q < H.size → ¬ A1 q → H1[q]? = H[q]?) → va_S A0 H0 H1 locs1 → W p l e R s m args below meth c H1 locs1 (cells + mc) (slots + ms) Q (F0 m (pc + 3) ls (.double r :: rest))) : W p l e R s m args below meth c H locs cells slots Q (F0 m pc ls st0) := by
  intro T hT X
  rcases hr T hT X with ⟨v, st₀, t, T', L, h0, X', hL, e1, e2, ⟨⟨r, u, hv, hp, hb⟩, hF⟩, st⟩ | ⟨q, st₀, t, T', L, E, ce, h0, X', hL, e1, e2, ⟨u, hp, hb, hF⟩, hce, hcv, hcl, st⟩
  · cases hv
    obtain ⟨k1, k2, k3⟩ := vx_keep h0 e1 hS hA hf hL hF
    obtain ⟨t2, a1, b1⟩ := kk r u t T'.heap (locs ++ L) e1.symm (by rw [← e2]; exact X'.warmed.alike) hp hb k1 k2 k3 T' rfl X'
    exact ⟨t2, st t2 a1, b1⟩
  · obtain ⟨k1, k2, k3⟩ := vx_keep h0 e1 hS hAX hf hL hF
    obtain ⟨t2, a1, b1⟩ := kx E ce q u t T'.heap (locs ++ L) e1.symm (by rw [← e2]; exact X'.warmed.alike) hp hb k1 k2 k3 (by rw [e1]; exact hce) hcv hcl T' rfl X'
    exact ⟨t2, st.trans a1, b1⟩
theorem vx_callv {S SX : Type} {post : S → Prop} {px : SX → Prop} {B : S → State → Prop} {BX : String → SX → State → Prop} {AX : Nat → Prop} (hr : vx_Run p l e R s m args below meth c H locs cells slots mc ms (F0 m pc ls st0) rest (va_Qv post B A1 a) (vx_X px BX AX) free) (hS : va_S A0 H0 H locs) (hA : ∀ q, q < H.size → A1 q → A0 q) (hf : ∀ q, free q → A0 q) (hAX : ∀ q, q < H.size → AX q → A0 q)
    (kx : ∀ (E : String) (ce : Cell) (q9 : Addr) (u : SX) (t : State) (H1 : Heap) (locs1 : List Loc), t.heap = H1 → s.vm.Alike t.vm → px u → BX E u t → H.size ≤ H1.size → (∀ q : Nat, q < H.size → ¬ AX q → H1[q]? = H[q]?) → va_S A0 H0 H1 locs1 → H1[q9]? = some ce → ce.vm = .none → s.vm.findClass E = some ce.cls → vx_W p l e R s m args below meth c H1 locs1 (cells + mc) (slots + ms) Q (F0 m pc ls rest) q9)
    (kk : ∀ (u : S) (t : State) (H1 : Heap) (locs1 : List Loc), t.heap = H1 → s.vm.Alike t.vm → post u → B u t → H.size ≤ H1.size → (∀ q : Nat, q < H.size → ¬ A1 q → H1[q]? = H[q]?) → va_S A0 H0 H1 locs1 → W p l e R s m args below meth c H1 locs1 (cells + mc) (slots + ms) Q (F0 m (pc + 3) ls (rest))) : W p l e R s m args below meth c H locs cells slots Q (F0 m pc ls st0) := by
  intro T hT X
  rcases hr T hT X with ⟨v, st₀, t, T', L, h0, X', hL, e1, e2, ⟨⟨u, hv, hp, hb⟩, hF⟩, st⟩ | ⟨q, st₀, t, T', L, E, ce, h0, X', hL, e1, e2, ⟨u, hp, hb, hF⟩, hce, hcv, hcl, st⟩
  · cases hv
    obtain ⟨k1, k2, k3⟩ := vx_keep h0 e1 hS hA hf hL hF
    obtain ⟨t2, a1, b1⟩ := kk u t T'.heap (locs ++ L) e1.symm (by rw [← e2]; exact X'.warmed.alike) hp hb k1 k2 k3 T' rfl X'
    exact ⟨t2, st t2 a1, b1⟩
  · obtain ⟨k1, k2, k3⟩ := vx_keep h0 e1 hS hAX hf hL hF
    obtain ⟨t2, a1, b1⟩ := kx E ce q u t T'.heap (locs ++ L) e1.symm (by rw [← e2]; exact X'.warmed.alike) hp hb k1 k2 k3 (by rw [e1]; exact hce) hcv hcl T' rfl X'
    exact ⟨t2, st.trans a1, b1⟩
/-- caught by the row x of this method's table; the rows ahead don't take it -/
theorem vx_catch {own name : String} {E : String} {ce : Cell} {q : Addr} (hown : s.vm.findClass own = some m.cls) (pre : List ExceptionTableEntry) (x : ExceptionTableEntry) (suf : List ExceptionTableEntry) (hsplit : c.exceptionTable.toList = pre ++ x :: suf)
    (hpass : ∀ z ∈ pre, covers z pc = false ∨ (z.catchType ≠ 0 ∧ ∃ nm : String, (Cond.classLink own z.catchType nm).before args s = true ∧ va_Nc E nm s)) (hx : covers x pc = true) (h0 : x.catchType ≠ 0)
    (hlink : (Cond.classLink own x.catchType name).before args s = true) (hcast : (Cond.castable E name).before args s = true) (hcell : H[q]? = some ce) (hv : ce.vm = .none) (hcl : s.vm.findClass E = some ce.cls)
    (kk : W p l e R s m args below meth c H locs cells slots Q (F0 m x.handlerPc ls [.ref q])) : vx_W p l e R s m args below meth c H locs cells slots Q (F0 m pc ls rest) q := by
  intro T hT X
  have hpl : e.platform.magicAccessors = ({} : Platform).magicAccessors := by rw [X.admits.platform]
  obtain ⟨c3, c4, hc3, hc4, hasg⟩ := Cond.castable_spec hcast
  cases Option.some.inj (hc3.symm.trans hcl)
  obtain ⟨c5, hc5, hcl5⟩ := Cond.classLink_spec hown hlink e.platform hpl
  cases Option.some.inj (hc4.symm.trans hc5)
  obtain ⟨vm', X', st⟩ := X.thenCaughtThrough q (g := F0 m pc ls rest) rfl (Steps.refl _) (by rw [hT]; exact hcell) (by rw [hv]; rfl) (by obtain ⟨k9, h9, -⟩ := Vm.findClass_spec hcl; exact ⟨k9, h9⟩) pre x suf hsplit
    (fun z hz => by
      rcases hpass z hz with h | ⟨hz0, nm, hl1, hn1⟩
      · exact Or.inl h
      · obtain ⟨c6, hc6, hcl6⟩ := Cond.classLink_spec hown hl1 e.platform hpl
        obtain ⟨a8, b8, h1, h2, h3⟩ := hn1
        cases Option.some.inj (h1.symm.trans hcl)
        cases Option.some.inj (h2.symm.trans hc6)
        exact Or.inr ⟨hz0, _, hcl6, h3⟩) hx (Or.inr ⟨h0, c4, hcl5, hasg⟩)
  obtain ⟨t, a1, b1⟩ := kk (T.setVm vm') hT X'
  exact ⟨t, st.trans a1, b1⟩
end Rows
section Ends
variable {p : Program} {l : Launch} {e : Env} {R : Room} {s : State} {m : MethodId} {args : Array Value} {below : List Frame} {meth : Method} {c : Code} {H : Heap} {locs : List Loc} {cells slots : Nat} {Q : State → Prop}
variable {mc ms : Nat} {free : Addr → Prop} {A0 A1 : Nat → Prop} {H0 : Heap} {a : Array Value} {ls : Array Slot} {st0 rest : List Value}
variable {Qc : Array Value → State → Outcome → State → Prop} {XC : String → State → State → Prop}
/-- what a body that may throw owes at its end -/
def vx_MQ (below : List Frame) (Qc : Array Value → State → Outcome → State → Prop) (XC : String → State → State → Prop) (a : Array Value) (s : State) (mc ms : Nat) (free : Addr → Prop) : State → Prop := fun t =>
  ∃ o, t.status = .running ∧ Ended t below o ∧ vx_Q Qc XC mc ms free a s o t
theorem vx_ret {g : JFrame} {mc ms : Nat} (k : W p l e R s m args below meth c H locs cells slots (MQ below Qc args s mc ms free) g) : W p l e R s m args below meth c H locs cells slots (vx_MQ below Qc XC args s mc ms free) g := by
  intro T hT X
  obtain ⟨t, a1, o, b1, b2, b3, b4⟩ := k T hT X
  exact ⟨t, a1, o, b1, b2, Or.inl ⟨b3, b4⟩⟩
/-- not caught here: it goes on to the caller -/
theorem vx_widen {g : JFrame} {q : Addr} {k n : Nat} (h1 : cells ≤ k) (h2 : slots ≤ n) (kk : vx_W p l e R s m args below meth c H locs k n Q g q) : vx_W p l e R s m args below meth c H locs cells slots Q g q := fun T hT X => kk T hT (stand_widen X h1 h2)
theorem vx_out {pc : Nat} {E : String} {ce : Cell} {q : Addr} {mc ms : Nat} (hout : ∀ x ∈ c.exceptionTable.toList, covers x pc = false) (hlocks : meth.locks = false) (hcell : H[q]? = some ce) (hv : ce.vm = .none) (hcl : s.vm.findClass E = some ce.cls)
    (hx : ∀ t : State, t.heap = H → s.vm.Alike t.vm → XC E s t) (hf : ∀ z ∈ locs, free z.base) (hc : cells ≤ mc) (hs : slots ≤ ms) :
    vx_W p l e R s m args below meth c H locs cells slots (vx_MQ below Qc XC args s mc ms free) (F0 m pc ls rest) q := by
  intro T hT X
  obtain ⟨st1, hrun, hend, hW, hsm⟩ := X.leaveThrown q (g := F0 m pc ls rest) rfl rfl rfl hout hlocks
  have hcell9 : (T.setFrames (.throwing q :: below)).heap[q]? = some ce := by
    show T.heap[q]? = some ce
    rw [hT]; exact hcell
  exact ⟨_, st1, .threw q, hrun, hend, Or.inr ⟨q, rfl, E, ce, locs, hx _ hT hW.alike, hcell9, hv, hcl, hW, hsm.mono hc hs, hf⟩⟩
theorem vx_frame {U : State} {k n : Nat} (h : s.sameButNew ({ U with vm := s.vm } : State) locs k n) : s.heap.size ≤ U.heap.size ∧ ∀ q : Nat, q < s.heap.size → (∀ z ∈ locs, z.base ≠ q) → U.heap[q]? = s.heap[q]? := by
  obtain ⟨-, h2, -, -, -, h6⟩ := h
  refine ⟨h2, fun q hq hz => ?_⟩
  obtain ⟨c9, e1, e2, e3, e4⟩ := h6 q _ (Array.getElem?_eq_getElem hq)
  have hs : c9.slots = (s.heap[q]).slots := Array.ext_getElem? fun i => e4 i fun hm => hz _ hm rfl
  have h9 : c9 = s.heap[q] := by
    rw [hs] at e2
    exact e2
  have e5 : U.heap[q]? = some c9 := e1
  rw [e5, h9, Array.getElem?_eq_getElem hq]
/-- the words of a throw but the four that speak of the heap -/
def vx_no (w : Cond) : Bool := decide (w ≠ .isRef (.static Bundle.tN "UNASSIGNED_STACK" Bundle.steD)) && decide (w ≠ .isRef (.static Bundle.tN "SUPPRESSED_SENTINEL" Bundle.listD)) && decide (w ≠ .laysStatic Bundle.tN "UNASSIGNED_STACK" Bundle.steD) && decide (w ≠ .laysStatic Bundle.tN "SUPPRESSED_SENTINEL" Bundle.listD)
def vx_at0 (own : String) (ic : Nat) (X : String) (names : List String) : List Cond := (Bundle.ownAtoms0 own ic X names).filter vx_no
def vx_atS (own : String) (ic : Nat) (X : String) (names : List String) : List Cond := (Bundle.ownAtoms own ic X names).filter vx_no
/-- a word that the tables alone decide, or a good one -/
def vx_ot (w : Cond) : Bool := w.onTables || goodWord w
theorem vx_ot_at {args a' : Array Value} {s U : State} {w : Cond} (hW : s.WarmedH U.vm) (hvm : s.vm = U.vm) (hg : vx_ot w = true) (h : w.before args s = true) : w.before a' U = true := by
  simp only [vx_ot, Bool.or_eq_true] at hg
  rcases hg with hg | hg
  · exact va_tabs hg hvm h
  · exact word_at hW (good_of_word hg) h
/-- a list's words: the good ones out of the method's own list, the others by premises of their own -/
theorem vx_hat {args : Array Value} {s : State} {L B : List Cond} (h1 : ∀ w ∈ L.filter goodWord, w.before args s = true) (h2 : ∀ w ∈ L.filter (fun w => !goodWord w), w ∈ B) (h3 : ∀ w ∈ B, w.before args s = true) : ∀ w ∈ L, w.before args s = true := by
  intro w hw
  by_cases g : goodWord w = true
  · exact h1 w (List.mem_filter.mpr ⟨hw, g⟩)
  · refine h3 w (h2 w (List.mem_filter.mpr ⟨hw, ?_⟩))
    show (!goodWord w) = true
    cases hgw : goodWord w
    · rfl
    · exact absurd hgw g
theorem vx_c {args : Array Value} {s : State} {w : Cond} {B : List Cond} (h : w.before args s = true) (t : ∀ w ∈ B, w.before args s = true) : ∀ w' ∈ w :: B, w'.before args s = true := fun w' h' => (List.mem_cons.mp h').elim (fun e => by rw [e]; exact h) (t w')
theorem vx_n {args : Array Value} {s : State} : ∀ w ∈ ([] : List Cond), w.before args s = true := fun _ h => nomatch h
theorem vx_own {args : Array Value} {s : State} {L : List Cond} (h1 : ∀ w ∈ L.filter vx_no, w.before args s = true)
    (hU : (Cond.isRef (.static Bundle.tN "UNASSIGNED_STACK" Bundle.steD)).before args s = true) (hN : (Cond.isRef (.static Bundle.tN "SUPPRESSED_SENTINEL" Bundle.listD)).before args s = true)
    (lU : (Cond.laysStatic Bundle.tN "UNASSIGNED_STACK" Bundle.steD).before args s = true) (lN : (Cond.laysStatic Bundle.tN "SUPPRESSED_SENTINEL" Bundle.listD).before args s = true) : ∀ w ∈ L, w.before args s = true := by
  intro w hw
  by_cases e1 : w = .isRef (.static Bundle.tN "UNASSIGNED_STACK" Bundle.steD)
  · rw [e1]; exact hU
  · by_cases e2 : w = .isRef (.static Bundle.tN "SUPPRESSED_SENTINEL" Bundle.listD)
    · rw [e2]; exact hN
    · by_cases e3 : w = .laysStatic Bundle.tN "UNASSIGNED_STACK" Bundle.steD
      · rw [e3]; exact lU
      · by_cases e4 : w = .laysStatic Bundle.tN "SUPPRESSED_SENTINEL" Bundle.listD
        · rw [e4]; exact lN
        · exact h1 w (List.mem_filter.mpr ⟨hw, by unfold vx_no; rw [decide_eq_true e1, decide_eq_true e2, decide_eq_true e3, decide_eq_true e4]; rfl⟩)
/-- where a static field lies, its class's statics cell in H -/
def vx_L (C n d : String) (A : Nat → Prop) (U : State) (H : Heap) : Prop := ∃ (c : ClassId) (k : Class) (i : Nat) (f : Field) (a : Nat) (cell : Cell), U.vm.findClass C = some c ∧ U.fieldFound? C n d = some (c, k, i, f) ∧ f.isStatic = true ∧ k.statics = some a ∧ H[a]? = some cell ∧ cell.vm.isStatics = true ∧ cell.cls = c ∧ f.slot < cell.slots.size ∧ k.staticTypes[f.slot]? = some f.type ∧ ¬ A a
theorem vx_L.moved {C n d : String} {A : Nat → Prop} {u U : State} {H : Heap} (hvm : u.vm.Alike U.vm) (h : vx_L C n d A u H) : vx_L C n d A U H := by
  obtain ⟨c, k, i, f, a, cell, h1, h2, h3, h4, h5, h6, h7, h8, h9, h10⟩ := h
  obtain ⟨k', hi', he⟩ := State.fieldFound?_setVm hvm h2
  exact ⟨c, k', i, f, a, cell, by rw [hvm.findClass]; exact h1, hi', h3, by rw [he]; exact h4, h5, h6, h7, h8, by rw [he]; exact h9, h10⟩
theorem vx_L.kept {C n d : String} {A : Nat → Prop} {U : State} {H H1 : Heap} (h : vx_L C n d A U H) (hq : ∀ a : Nat, a < H.size → ¬ A a → H1[a]? = H[a]?) : vx_L C n d A U H1 := by
  obtain ⟨c, k, i, f, a, cell, h1, h2, h3, h4, h5, h6, h7, h8, h9, h10⟩ := h
  exact ⟨c, k, i, f, a, cell, h1, h2, h3, h4, by rw [hq a (Array.getElem?_eq_some_iff.mp h5).1 h10]; exact h5, h6, h7, h8, h9, h10⟩
theorem vx_L.narrow {C n d : String} {A B : Nat → Prop} {U : State} {H : Heap} (h : vx_L C n d A U H) (hAB : ∀ q, B q → A q) : vx_L C n d B U H := by
  obtain ⟨c, k, i, f, a, cell, h1, h2, h3, h4, h5, h6, h7, h8, h9, h10⟩ := h
  exact ⟨c, k, i, f, a, cell, h1, h2, h3, h4, h5, h6, h7, h8, h9, fun z => h10 (hAB _ z)⟩
theorem vx_L.word {C n d : String} {A : Nat → Prop} {s : State} {args : Array Value} (h : vx_L C n d A s s.heap) : (Cond.laysStatic C n d).before args s = true := by
  obtain ⟨c, k, i, f, a, cell, h1, h2, h3, h4, h5, h6, h7, h8, h9, -⟩ := h
  show (Cond.laysStatic C n d).holds args s none s [] = true
  exact Cond.laysStatic_of h1 h2 h3 h4 h5 h6 h7 h8 h9
/-- .. and what it holds: null or some reference -/
def vx_Zq (C n d : String) (A : Nat → Prop) (U : State) (H : Heap) : Prop := va_Zq C n d A U H ∧ vx_L C n d A U H
theorem vx_Zq.moved {C n d : String} {A : Nat → Prop} {u U : State} {H : Heap} (hvm : u.vm.Alike U.vm) (h : vx_Zq C n d A u H) : vx_Zq C n d A U H := ⟨va_Zq.moved hvm h.1, vx_L.moved hvm h.2⟩
theorem vx_Zq.kept {C n d : String} {A : Nat → Prop} {U : State} {H H1 : Heap} (h : vx_Zq C n d A U H) (hq : ∀ a : Nat, a < H.size → ¬ A a → H1[a]? = H[a]?) : vx_Zq C n d A U H1 := ⟨va_Zq.kept h.1 hq, vx_L.kept h.2 hq⟩
theorem vx_Zq.narrow {C n d : String} {A B : Nat → Prop} {U : State} {H : Heap} (h : vx_Zq C n d A U H) (hAB : ∀ q, B q → A q) : vx_Zq C n d B U H := ⟨va_Zq.narrow h.1 hAB, vx_L.narrow h.2 hAB⟩
theorem vx_Zqof {args : Array Value} {s : State} {C n d : String} {A : Nat → Prop} (hl : (Cond.laysStatic C n d).before args s = true) (hini : (Cond.initialized C).before args s = true) (h : (Cond.isRef (.static C n d)).before args s = true) (hA : ∀ a : Nat, a < s.heap.size → ¬ A a) : vx_Zq C n d A s s.heap := by
  refine ⟨va_Zqof hl hini h hA, ?_⟩
  obtain ⟨c, k, i, f, a, cell, h1, h2, h3, h4, h5, h6, h7, h8, h9⟩ := Cond.laysStatic_spec hl
  exact ⟨c, k, i, f, a, cell, h1, h2, h3, h4, h5, h6, h7, h8, h9, hA a (Array.getElem?_eq_some_iff.mp h5).1⟩
theorem vx_isRef {C n d : String} {v : Value} {A : Nat → Prop} {s : State} {args : Array Value} (h : va_Z C n d v A s s.heap) (hv : v.isRef = true) : (Cond.isRef (.static C n d)).before args s = true := by
  obtain ⟨cf, kf, fi, f, a, cell, h1, h2, h3, h4, h5, h6, h7, -⟩ := h
  have he : (Term.static C n d).eval args s none [] s = some v := by
    simp [Term.eval, State.fieldNamed?, h1, h2, h4, h5, h6, h7]
  simp only [Cond.before, Cond.holds, Cond.value, he]
  cases v <;> simp_all [Value.isRef]
theorem vx_isRefq {C n d : String} {A : Nat → Prop} {s : State} {args : Array Value} (h : va_Zq C n d A s s.heap) : (Cond.isRef (.static C n d)).before args s = true := by
  rcases h with h | ⟨t, h⟩
  · exact vx_isRef h rfl
  · exact vx_isRef h rfl
/-- the same frame, seen from here: as if the method were called anew in this heap -/
theorem vx_rebase {T : State} (X : Stand p l e R s m args below meth c T locs cells slots) {R' : Room} (hf : R'.frames ≤ R.frames) (hl : R'.locals ≤ R.locals) (hc : cells + R'.cells ≤ R.cells) (hs : slots + R'.slots ≤ R.slots) :
    Stand p l e R' ((T.setVm s.vm).setFrames (.invoking m args :: below)) m args below meth c T [] 0 0 := by
  have htop : (T.setVm s.vm).topJava?.isSome := X.here.top
  have hF : ((T.setVm s.vm).setFrames (.invoking m args :: below)).frames = .invoking m args :: below := State.frames_setFrames _ (State.cur_lt_of_top htop)
  obtain ⟨g₀, hg0⟩ := Option.isSome_iff_exists.mp htop
  obtain ⟨r, hr⟩ := State.topJava?_eq_some.mp hg0
  have hl9 : e.platform.stackLimits (T.setVm s.vm).me = e.platform.stackLimits s.me := X.limits
  have hb9 : (T.setVm s.vm).me.stackBytes = s.me.stackBytes := X.bytes
  refine ⟨X.admits, X.cas, X.clock, hF, ?_, X.hears, X.method, X.code, X.here, X.tail, X.warmed, ?_, ?_, ?_⟩
  · have h := X.room
    have hU : ((T.setVm s.vm).setFrames (.invoking m args :: below)).localsInUse = s.localsInUse := by
      rw [State.localsInUse_invoking hF (meth := meth) (c := c) X.method X.code, State.localsInUse_invoking X.frames X.method X.code]
    simp only [State.hasRoom, Bool.and_eq_true, decide_eq_true_eq] at h ⊢
    obtain ⟨⟨⟨⟨h1, h2, h3, h4, h5, h6⟩, h7⟩, h8⟩, h9⟩ := h
    rw [X.frames, List.length_cons] at h2 h3
    have q1 := X.heapSize
    have q2 := X.used
    simp only [hF, hU, List.length_cons, State.stackLimits_setFrames, State.stackBytes_setFrames, hl9, hb9]
    refine ⟨⟨⟨⟨by omega, by omega, by omega, by omega, by omega, h6⟩, ?_⟩, ?_⟩, X.book⟩
    · show T.heap.size + R'.cells ≤ e.platform.maxCells
      omega
    · show T.slotsUsed + R'.slots ≤ e.platform.maxSlots
      omega
  · rw [State.stackLimits_setFrames]; rfl
  · rw [State.stackBytes_setFrames]; rfl
  · refine ⟨?_, Nat.le_refl _, Nat.le_refl _, ?_, ?_, fun a c9 h9 => ⟨c9, h9, rfl, rfl, fun _ _ => rfl⟩⟩
    · obtain ⟨t, ht, -⟩ := State.frames_cons hr
      show T.setVm s.vm = { ((T.setVm s.vm).setFrames (.invoking m args :: below)).setFrames (T.setVm s.vm).frames with heap := T.heap, slotsUsed := T.slotsUsed }
      rw [State.setFrames_setFrames, State.setFrames_self ht]
      rfl
    · show T.slotsUsed = T.slotsUsed + ((T.heap.toList.drop T.heap.size).map (·.slots.size)).sum
      rw [List.drop_eq_nil_of_le (Nat.le_of_eq Array.length_toList)]
      rfl
    · show ((T.heap.toList.drop T.heap.size).map (·.slots.size)).sum ≤ 0
      rw [List.drop_eq_nil_of_le (Nat.le_of_eq Array.length_toList)]
      exact Nat.le_refl _
/-- 'throw new E()': new; dup; invokespecial; athrow -/
theorem vx_throw0 {cc : ByteArray} {pc : Nat} (hexec : p.tables.exec = Jvm.exec) (hb : c.code = cc) (hl : l.stackTraces = false) {own cls : String} {names : List String} {ik ic mc ms : Nat} {A : Nat → Prop}
    (hown : s.vm.findClass own = some m.cls) (hcls : Bundle.fit cls = true) (hnames : ∀ n ∈ names, Bundle.fit n = true)
    (hk : (Cond.classLink own ik cls).before args s = true) (hini : (Cond.initialized cls).before args s = true) (hat : ∀ w ∈ vx_at0 own ic cls names, w.before args s = true)
    (hgood : ∀ w ∈ Cond.classLink own ik cls :: Cond.initialized cls :: vx_at0 own ic cls names, vx_ot w = true)
    (hU : vx_Zq Bundle.tN "UNASSIGNED_STACK" Bundle.steD A s s.heap) (hN : vx_Zq Bundle.tN "SUPPRESSED_SENTINEL" Bundle.listD A s s.heap) (hS : va_S A s.heap H locs) (hsize : ls.size = c.maxLocals)
    (d0 : decode cc pc = .ok (.new ik, 3)) (d3 : decode cc (pc + 3) = .ok (.dup, 1)) (d4 : decode cc (pc + 4) = .ok (.invokespecial ic, 3)) (d7 : decode cc (pc + 7) = .ok (.athrow, 1))
    (hout : ∀ x ∈ c.exceptionTable.toList, covers x (pc + 7) = false)
    (hRframes : names.length + 3 < R.frames) (hRlocals : (rest.map fun v => v.category).sum + (13 * (names.length + 1) + 42) ≤ R.locals) (hRcells : cells + 1 ≤ R.cells) (hRslots : slots + 6 ≤ R.slots) (hlocks : meth.locks = false)
    (hx : ∀ t : State, s.vm.Alike t.vm → H.size ≤ t.heap.size → (∀ q : Nat, q < H.size → t.heap[q]? = H[q]?) → XC cls s t)
    (hf : ∀ z ∈ locs, free z.base) (hc : cells + 1 ≤ mc) (hs : slots + 6 ≤ ms) :
    W p l e R s m args below meth c H locs cells slots (vx_MQ below Qc XC args s mc ms free) (F0 m pc ls rest) := by
  intro T hT X
  have htr : e.platform.stackTraces = false := (show e.platform.stackTraces = l.stackTraces by rw [X.admits.platform]).trans hl
  have Y := vx_rebase X (R' := { frames := R.frames, locals := R.locals, cells := 1, slots := 6 }) (Nat.le_refl _) (Nat.le_refl _) hRcells hRslots
  obtain ⟨s', hA⟩ : ∃ z, z = (T.setVm s.vm).setFrames (.invoking m args :: below) := ⟨_, rfl⟩
  rw [← hA] at Y
  have hvm : s'.vm = s.vm := by rw [hA]; rfl
  have hhp : s'.heap = H := by rw [hA]; exact hT
  have hW0 : s.WarmedH s'.vm := by rw [hvm]; exact State.WarmedH.refl s
  have hat' : ∀ w ∈ vx_at0 own ic cls names, w.before args s' = true := fun w hw => vx_ot_at hW0 hvm.symm (hgood w (List.mem_cons_of_mem _ (List.mem_cons_of_mem _ hw))) (hat w hw)
  have hk' : (Cond.classLink own ik cls).before args s' = true := vx_ot_at hW0 hvm.symm (hgood _ List.mem_cons_self) hk
  have hini' : (Cond.initialized cls).before args s' = true := vx_ot_at hW0 hvm.symm (hgood _ (List.mem_cons_of_mem _ List.mem_cons_self)) hini
  have hU' : vx_Zq Bundle.tN "UNASSIGNED_STACK" Bundle.steD A s' s'.heap := by rw [hhp]; exact vx_Zq.moved hW0.alike (hU.kept hS.2.1)
  have hN' : vx_Zq Bundle.tN "SUPPRESSED_SENTINEL" Bundle.listD A s' s'.heap := by rw [hhp]; exact vx_Zq.moved hW0.alike (hN.kept hS.2.1)
  have h : ∀ w ∈ Bundle.ownAtoms0 own ic cls names, w.before args s' = true := vx_own hat' (vx_isRefq hU'.1) (vx_isRefq hN'.1) hU'.2.word hN'.2.word
  have hown' : s'.vm.findClass own = some m.cls := by rw [hvm]; exact hown
  have hins : (Cond.instantiable cls 6).before args s' = true := h _ (by simp [Bundle.ownAtoms0])
  obtain ⟨vm₁, cX, kX, hfX, hkX, -, -, X₁, st1⟩ := Y.newCold hexec (own := own) (C := cls) (index := ik) (n := 6) hown' hk' hins hini'
    (g := F0 m pc ls rest) rfl (by rw [hb]; exact d0) (Nat.le_refl _) (Nat.le_refl _)
  generalize hT1 : (T.setVm vm₁).pushCell { cls := cX, slots := kX.instanceTypes.map defaultValue, vm := .none } = T1 at X₁ st1
  have hcat : (Value.ref T.heap.size).category = 1 := rfl
  have hcellA : T1.heap[T.heap.size]? = some (freshCell cX kX) := by rw [← hT1]; exact State.heap_pushCell_size _ _
  have d3' : decode c.code (pc + 3) = .ok (.dup, 1) := by rw [hb]; exact d3
  obtain ⟨U, hsteps, hrun, hend, hW, hsame, ce, hce, hO⟩ := X₁.ctorThrow0 hexec htr (own := own) (cls := cls) (names := names) (ic := ic) hown' hcls hnames h (fun x hx => nomatch hx) hfX hkX hcellA (by rw [hhp, hT]; exact Nat.le_refl _)
    (g := { method := m, pc := pc + 4, locals := ls, stack := .ref T.heap.size :: .ref T.heap.size :: rest, locked := none }) rfl hsize rfl rfl (rest := rest) rfl
    (by rw [hb]; exact d4) (by rw [hb]; exact d7) hout hRframes (by simp only [List.map_cons, List.sum_cons, hcat]; omega) hlocks
  obtain ⟨f1, f2⟩ := vx_frame hsame
  rw [hhp] at f1 f2
  have hWs : s.WarmedH U.vm := State.WarmedH.trans hW0 hW
  have hcl : s.vm.findClass cls = some ce.cls := by
    have h9 := hO.cls
    rw [hvm] at h9
    exact h9
  have hall : s.sameButNew ({ U with vm := s.vm } : State) locs mc ms := by
    subst hA
    obtain ⟨e1, e2⟩ := hsame
    rw [State.setFrames_setFrames] at e1
    have h2 : (T.setVm s.vm).sameButNew ({ U with vm := s.vm } : State) [] (0 + 1) (0 + 6) := ⟨e1, e2⟩
    have h3 := X.same.trans h2
    rw [List.append_nil] at h3
    exact h3.mono hc hs
  refine ⟨U, ?_, .threw T.heap.size, hrun, hend, Or.inr ⟨T.heap.size, rfl, cls, ce, locs, hx U hWs.alike f1 (fun q hq => f2 q hq (fun z hz => nomatch hz)), hce, hO.vm, hcl, hWs, hall, hf⟩⟩
  refine st1 _ ?_
  show Steps p.tables e below (T1.setTop { method := m, pc := pc + 3, locals := ls, stack := .ref T.heap.size :: rest, locked := none }) _
  jvm_step X₁.here [X₁.here.top, hexec, d3', Value.category]
  exact hsteps
/-- 'throw new E("text")': new; dup; ldc; invokespecial; athrow -/
theorem vx_throwS {cc : ByteArray} {pc : Nat} (hexec : p.tables.exec = Jvm.exec) (hb : c.code = cc) (hl : l.stackTraces = false) {own cls text : String} {names : List String} {ik is ic mc ms sa : Nat} {A : Nat → Prop}
    (hown : s.vm.findClass own = some m.cls) (hcls : Bundle.fit cls = true) (hnames : ∀ n ∈ names, Bundle.fit n = true)
    (hk : (Cond.classLink own ik cls).before args s = true) (hini : (Cond.initialized cls).before args s = true) (hstr : vk_R own is text sa s) (hat : ∀ w ∈ vx_atS own ic cls names, w.before args s = true)
    (hgood : ∀ w ∈ Cond.classLink own ik cls :: Cond.initialized cls :: vx_atS own ic cls names, vx_ot w = true)
    (hU : vx_Zq Bundle.tN "UNASSIGNED_STACK" Bundle.steD A s s.heap) (hN : vx_Zq Bundle.tN "SUPPRESSED_SENTINEL" Bundle.listD A s s.heap) (hS : va_S A s.heap H locs) (hsize : ls.size = c.maxLocals)
    (d0 : decode cc pc = .ok (.new ik, 3)) (d3 : decode cc (pc + 3) = .ok (.dup, 1)) (d4 : decode cc (pc + 4) = .ok (.ldc is, 2)) (d6 : decode cc (pc + 6) = .ok (.invokespecial ic, 3)) (d9 : decode cc (pc + 9) = .ok (.athrow, 1))
    (hout : ∀ x ∈ c.exceptionTable.toList, covers x (pc + 9) = false)
    (hRframes : names.length + 3 < R.frames) (hRlocals : (rest.map fun v => v.category).sum + (13 * (names.length + 1) + 43) ≤ R.locals) (hRcells : cells + 1 ≤ R.cells) (hRslots : slots + 6 ≤ R.slots) (hlocks : meth.locks = false)
    (hx : ∀ t : State, s.vm.Alike t.vm → H.size ≤ t.heap.size → (∀ q : Nat, q < H.size → t.heap[q]? = H[q]?) → XC cls s t)
    (hf : ∀ z ∈ locs, free z.base) (hc : cells + 1 ≤ mc) (hs : slots + 6 ≤ ms) :
    W p l e R s m args below meth c H locs cells slots (vx_MQ below Qc XC args s mc ms free) (F0 m pc ls rest) := by
  intro T hT X
  have htr : e.platform.stackTraces = false := (show e.platform.stackTraces = l.stackTraces by rw [X.admits.platform]).trans hl
  have Y := vx_rebase X (R' := { frames := R.frames, locals := R.locals, cells := 1, slots := 6 }) (Nat.le_refl _) (Nat.le_refl _) hRcells hRslots
  obtain ⟨s', hA⟩ : ∃ z, z = (T.setVm s.vm).setFrames (.invoking m args :: below) := ⟨_, rfl⟩
  rw [← hA] at Y
  have hvm : s'.vm = s.vm := by rw [hA]; rfl
  have hhp : s'.heap = H := by rw [hA]; exact hT
  have hW0 : s.WarmedH s'.vm := by rw [hvm]; exact State.WarmedH.refl s
  have hat' : ∀ w ∈ vx_atS own ic cls names, w.before args s' = true := fun w hw => vx_ot_at hW0 hvm.symm (hgood w (List.mem_cons_of_mem _ (List.mem_cons_of_mem _ hw))) (hat w hw)
  have hk' : (Cond.classLink own ik cls).before args s' = true := vx_ot_at hW0 hvm.symm (hgood _ List.mem_cons_self) hk
  have hini' : (Cond.initialized cls).before args s' = true := vx_ot_at hW0 hvm.symm (hgood _ (List.mem_cons_of_mem _ List.mem_cons_self)) hini
  have hU' : vx_Zq Bundle.tN "UNASSIGNED_STACK" Bundle.steD A s' s'.heap := by rw [hhp]; exact vx_Zq.moved hW0.alike (hU.kept hS.2.1)
  have hN' : vx_Zq Bundle.tN "SUPPRESSED_SENTINEL" Bundle.listD A s' s'.heap := by rw [hhp]; exact vx_Zq.moved hW0.alike (hN.kept hS.2.1)
  have h : ∀ w ∈ Bundle.ownAtoms own ic cls names, w.before args s' = true := vx_own hat' (vx_isRefq hU'.1) (vx_isRefq hN'.1) hU'.2.word hN'.2.word
  have hown' : s'.vm.findClass own = some m.cls := by rw [hvm]; exact hown
  have hins : (Cond.instantiable cls 6).before args s' = true := h _ (by simp [Bundle.ownAtoms])
  obtain ⟨vm₁, cX, kX, hfX, hkX, -, -, X₁, st1⟩ := Y.newCold hexec (own := own) (C := cls) (index := ik) (n := 6) hown' hk' hins hini'
    (g := F0 m pc ls rest) rfl (by rw [hb]; exact d0) (Nat.le_refl _) (Nat.le_refl _)
  generalize hT1 : (T.setVm vm₁).pushCell { cls := cX, slots := kX.instanceTypes.map defaultValue, vm := .none } = T1 at X₁ st1
  have hcat : (Value.ref T.heap.size).category = 1 := rfl
  have hcellA : T1.heap[T.heap.size]? = some (freshCell cX kX) := by rw [← hT1]; exact State.heap_pushCell_size _ _
  have d3' : decode c.code (pc + 3) = .ok (.dup, 1) := by rw [hb]; exact d3
  have d4' : decode c.code (pc + 4) = .ok (.ldc is, 2) := by rw [hb]; exact d4
  have hstr' : vk_R own is text sa s' := vk_R.warm hW0 hstr
  obtain ⟨U, hsteps, hrun, hend, hW, hsame, ce, hce, hO⟩ := X₁.ctorThrowS hexec htr (own := own) (cls := cls) (names := names) (ic := ic) hown' hcls hnames h (fun x hx => nomatch hx) hfX hkX hcellA (by rw [hhp, hT]; exact Nat.le_refl _) (msg := .ref sa) rfl
    (g := { method := m, pc := pc + 6, locals := ls, stack := .ref sa :: .ref T.heap.size :: .ref T.heap.size :: rest, locked := none }) rfl hsize rfl rfl (rest := rest) rfl
    (by rw [hb]; exact d6) (by rw [hb]; exact d9) hout hRframes (by simp only [List.map_cons, List.sum_cons, hcat]; omega) hlocks
  obtain ⟨f1, f2⟩ := vx_frame hsame
  rw [hhp] at f1 f2
  have hWs : s.WarmedH U.vm := State.WarmedH.trans hW0 hW
  have hcl : s.vm.findClass cls = some ce.cls := by
    have h9 := hO.cls
    rw [hvm] at h9
    exact h9
  have hall : s.sameButNew ({ U with vm := s.vm } : State) locs mc ms := by
    subst hA
    obtain ⟨e1, e2⟩ := hsame
    rw [State.setFrames_setFrames] at e1
    have h2 : (T.setVm s.vm).sameButNew ({ U with vm := s.vm } : State) [] (0 + 1) (0 + 6) := ⟨e1, e2⟩
    have h3 := X.same.trans h2
    rw [List.append_nil] at h3
    exact h3.mono hc hs
  refine ⟨U, ?_, .threw T.heap.size, hrun, hend, Or.inr ⟨T.heap.size, rfl, cls, ce, locs, hx U hWs.alike f1 (fun q hq => f2 q hq (fun z hz => nomatch hz)), hce, hO.vm, hcl, hWs, hall, hf⟩⟩
  refine st1 _ ?_
  show Steps p.tables e below (T1.setTop { method := m, pc := pc + 3, locals := ls, stack := .ref T.heap.size :: rest, locked := none }) _
  jvm_step X₁.here [X₁.here.top, hexec, d3', Value.category]
  exact X₁.ldcString hexec (own := own) (text := text) (index := is) (a := sa) hown' hstr'.1 hstr'.2
    (g := { method := m, pc := pc + 4, locals := ls, stack := .ref T.heap.size :: .ref T.heap.size :: rest, locked := none }) rfl d4' _ hsteps
/-- 'throw new E("text")', the text by a wide index -/
theorem vx_throwSW {cc : ByteArray} {pc : Nat} (hexec : p.tables.exec = Jvm.exec) (hb : c.code = cc) (hl : l.stackTraces = false) {own cls text : String} {names : List String} {ik is ic mc ms sa : Nat} {A : Nat → Prop}
    (hown : s.vm.findClass own = some m.cls) (hcls : Bundle.fit cls = true) (hnames : ∀ n ∈ names, Bundle.fit n = true)
    (hk : (Cond.classLink own ik cls).before args s = true) (hini : (Cond.initialized cls).before args s = true) (hstr : vk_R own is text sa s) (hat : ∀ w ∈ vx_atS own ic cls names, w.before args s = true)
    (hgood : ∀ w ∈ Cond.classLink own ik cls :: Cond.initialized cls :: vx_atS own ic cls names, vx_ot w = true)
    (hU : vx_Zq Bundle.tN "UNASSIGNED_STACK" Bundle.steD A s s.heap) (hN : vx_Zq Bundle.tN "SUPPRESSED_SENTINEL" Bundle.listD A s s.heap) (hS : va_S A s.heap H locs) (hsize : ls.size = c.maxLocals)
    (d0 : decode cc pc = .ok (.new ik, 3)) (d3 : decode cc (pc + 3) = .ok (.dup, 1)) (d4 : decode cc (pc + 4) = .ok (.ldc_w is, 3)) (d7 : decode cc (pc + 7) = .ok (.invokespecial ic, 3)) (d10 : decode cc (pc + 10) = .ok (.athrow, 1))
    (hout : ∀ x ∈ c.exceptionTable.toList, covers x (pc + 10) = false)
    (hRframes : names.length + 3 < R.frames) (hRlocals : (rest.map fun v => v.category).sum + (13 * (names.length + 1) + 43) ≤ R.locals) (hRcells : cells + 1 ≤ R.cells) (hRslots : slots + 6 ≤ R.slots) (hlocks : meth.locks = false)
    (hx : ∀ t : State, s.vm.Alike t.vm → H.size ≤ t.heap.size → (∀ q : Nat, q < H.size → t.heap[q]? = H[q]?) → XC cls s t)
    (hf : ∀ z ∈ locs, free z.base) (hc : cells + 1 ≤ mc) (hs : slots + 6 ≤ ms) :
    W p l e R s m args below meth c H locs cells slots (vx_MQ below Qc XC args s mc ms free) (F0 m pc ls rest) := by
  intro T hT X
  have htr : e.platform.stackTraces = false := (show e.platform.stackTraces = l.stackTraces by rw [X.admits.platform]).trans hl
  have Y := vx_rebase X (R' := { frames := R.frames, locals := R.locals, cells := 1, slots := 6 }) (Nat.le_refl _) (Nat.le_refl _) hRcells hRslots
  obtain ⟨s', hA⟩ : ∃ z, z = (T.setVm s.vm).setFrames (.invoking m args :: below) := ⟨_, rfl⟩
  rw [← hA] at Y
  have hvm : s'.vm = s.vm := by rw [hA]; rfl
  have hhp : s'.heap = H := by rw [hA]; exact hT
  have hW0 : s.WarmedH s'.vm := by rw [hvm]; exact State.WarmedH.refl s
  have hat' : ∀ w ∈ vx_atS own ic cls names, w.before args s' = true := fun w hw => vx_ot_at hW0 hvm.symm (hgood w (List.mem_cons_of_mem _ (List.mem_cons_of_mem _ hw))) (hat w hw)
  have hk' : (Cond.classLink own ik cls).before args s' = true := vx_ot_at hW0 hvm.symm (hgood _ List.mem_cons_self) hk
  have hini' : (Cond.initialized cls).before args s' = true := vx_ot_at hW0 hvm.symm (hgood _ (List.mem_cons_of_mem _ List.mem_cons_self)) hini
  have hU' : vx_Zq Bundle.tN "UNASSIGNED_STACK" Bundle.steD A s' s'.heap := by rw [hhp]; exact vx_Zq.moved hW0.alike (hU.kept hS.2.1)
  have hN' : vx_Zq Bundle.tN "SUPPRESSED_SENTINEL" Bundle.listD A s' s'.heap := by rw [hhp]; exact vx_Zq.moved hW0.alike (hN.kept hS.2.1)
  have h : ∀ w ∈ Bundle.ownAtoms own ic cls names, w.before args s' = true := vx_own hat' (vx_isRefq hU'.1) (vx_isRefq hN'.1) hU'.2.word hN'.2.word
  have hown' : s'.vm.findClass own = some m.cls := by rw [hvm]; exact hown
  have hins : (Cond.instantiable cls 6).before args s' = true := h _ (by simp [Bundle.ownAtoms])
  obtain ⟨vm₁, cX, kX, hfX, hkX, -, -, X₁, st1⟩ := Y.newCold hexec (own := own) (C := cls) (index := ik) (n := 6) hown' hk' hins hini'
    (g := F0 m pc ls rest) rfl (by rw [hb]; exact d0) (Nat.le_refl _) (Nat.le_refl _)
  generalize hT1 : (T.setVm vm₁).pushCell { cls := cX, slots := kX.instanceTypes.map defaultValue, vm := .none } = T1 at X₁ st1
  have hcat : (Value.ref T.heap.size).category = 1 := rfl
  have hcellA : T1.heap[T.heap.size]? = some (freshCell cX kX) := by rw [← hT1]; exact State.heap_pushCell_size _ _
  have d3' : decode c.code (pc + 3) = .ok (.dup, 1) := by rw [hb]; exact d3
  have d4' : decode c.code (pc + 4) = .ok (.ldc_w is, 3) := by rw [hb]; exact d4
  have hstr' : vk_R own is text sa s' := vk_R.warm hW0 hstr
  obtain ⟨U, hsteps, hrun, hend, hW, hsame, ce, hce, hO⟩ := X₁.ctorThrowS hexec htr (own := own) (cls := cls) (names := names) (ic := ic) hown' hcls hnames h (fun x hx => nomatch hx) hfX hkX hcellA (by rw [hhp, hT]; exact Nat.le_refl _) (msg := .ref sa) rfl
    (g := { method := m, pc := pc + 7, locals := ls, stack := .ref sa :: .ref T.heap.size :: .ref T.heap.size :: rest, locked := none }) rfl hsize rfl rfl (rest := rest) rfl
    (by rw [hb]; exact d7) (by rw [hb]; exact d10) hout hRframes (by simp only [List.map_cons, List.sum_cons, hcat]; omega) hlocks
  obtain ⟨f1, f2⟩ := vx_frame hsame
  rw [hhp] at f1 f2
  have hWs : s.WarmedH U.vm := State.WarmedH.trans hW0 hW
  have hcl : s.vm.findClass cls = some ce.cls := by
    have h9 := hO.cls
    rw [hvm] at h9
    exact h9
  have hall : s.sameButNew ({ U with vm := s.vm } : State) locs mc ms := by
    subst hA
    obtain ⟨e1, e2⟩ := hsame
    rw [State.setFrames_setFrames] at e1
    have h2 : (T.setVm s.vm).sameButNew ({ U with vm := s.vm } : State) [] (0 + 1) (0 + 6) := ⟨e1, e2⟩
    have h3 := X.same.trans h2
    rw [List.append_nil] at h3
    exact h3.mono hc hs
  refine ⟨U, ?_, .threw T.heap.size, hrun, hend, Or.inr ⟨T.heap.size, rfl, cls, ce, locs, hx U hWs.alike f1 (fun q hq => f2 q hq (fun z hz => nomatch hz)), hce, hO.vm, hcl, hWs, hall, hf⟩⟩
  refine st1 _ ?_
  show Steps p.tables e below (T1.setTop { method := m, pc := pc + 3, locals := ls, stack := .ref T.heap.size :: rest, locked := none }) _
  jvm_step X₁.here [X₁.here.top, hexec, d3', Value.category]
  exact X₁.ldcStringW hexec (own := own) (text := text) (index := is) (a := sa) hown' hstr'.1 hstr'.2
    (g := { method := m, pc := pc + 4, locals := ls, stack := .ref T.heap.size :: .ref T.heap.size :: rest, locked := none }) rfl d4' _ hsteps
end Ends
section Bodies
variable {l : Launch}
theorem vx_ofW {y : MethodName} {ws ws' : List Cond} {rm : Room} {Pc : Array Value → State → Prop} {Qc : Array Value → State → Outcome → State → Prop} {XC : String → State → State → Prop} {mc ms : Nat} {free : Addr → Prop} {cc : ByteArray} {maxL : Nat} {ret : Option FieldType}
    (hy : plainName y.cls = true) (hw : ws = Cond.code y cc maxL ret :: ws')
    (body : ∀ p e s m args below meth c s₁, BodyLoose p l y (headSpec ws rm) cc maxL ret e s m args below meth c s₁ → c.maxLocals = maxL → (∀ x ∈ c.exceptionTable.toList, False) → Pc args s →
      W p l e (headSpec ws rm).room s m args below meth c s.heap [] 0 0 (vx_MQ below Qc XC args s mc ms free) (entryFrame m args maxL)) : vx_Met l y ws rm Pc Qc XC mc ms free := by
  refine MetFree.of_bodyS (code := cc) (maxLocals := maxL) (ret := ret) hy ?_ ?_
  · intro args s m h hn
    obtain ⟨meth, c, h1, h2, h3, h4, h5, h6, -, -⟩ := Cond.code_spec hn (atoms_spec (ws := ws) h _ (by rw [hw]; exact List.mem_cons_self))
    exact ⟨meth, c, h1, h2, h3, h4, h5, h6⟩
  · intro p e s m args below meth c s₁ B hml hP _
    have hh0 : s₁.heap = s.heap := by rw [B.state]; rfl
    have ht : ∀ x ∈ c.exceptionTable.toList, False := by
      obtain ⟨meth9, c9, h1, h2, -, -, -, -, h7, -⟩ := Cond.code_spec B.named (atoms_spec (ws := ws) B.pre _ (by rw [hw]; exact List.mem_cons_self))
      cases Option.some.inj (h1.symm.trans B.method)
      cases Option.some.inj (h2.symm.trans (Stand.of_body B).code)
      intro x hx
      rw [Array.isEmpty_iff.mp h7] at hx
      cases hx
    obtain ⟨t, a1, o, b1, b2, b3⟩ := body p e s m args below meth c s₁ B hml ht hP s₁ hh0 (Stand.of_body B)
    exact ⟨t, o, a1, b1, b2, b3⟩
/-- the table of a body with handlers -/
theorem vx_table {p : Program} {x y : MethodName} {S : Spec} {cc bytes : ByteArray} {maxL maxL' : Nat} {ret ret' : Option FieldType} {e : Env} {s s₁ : State} {m : MethodId} {args : Array Value} {below : List Frame} {meth : Method} {c : Code} {hh : List (Nat × Nat × Nat × Nat)}
    (B : BodyLoose p l y S cc maxL ret e s m args below meth c s₁) (h : (Cond.codeWith y bytes maxL' ret' hh).before args s = true) : c.exceptionTable.toList = tableOf hh := by
  obtain ⟨m9, meth9, c9, hn9, h1, h2, -, -, h6, -⟩ := Cond.codeWith_spec h
  cases Option.some.inj (hn9.symm.trans B.named)
  cases Option.some.inj (h1.symm.trans B.method)
  cases Option.some.inj (h2.symm.trans (Stand.of_body B).code)
  rw [← h6, table_eq]
end Bodies
end VXA
/-! ===== END ===== -/
/-! ===== BEGIN a static call of a method with an exception table ===== -/
section VXS
variable {p : Program} {l : Launch} {e : Env} {R : Room} {s : State} {m : MethodId} {args : Array Value} {below : List Frame} {meth : Method} {c : Code} {T : State} {H : Heap} {locs : List Loc} {cells slots : Nat}
abbrev vx_CSW (R : Room) (s : State) (args : Array Value) (own : String) (index : Nat) (y : MethodName) (bytes : ByteArray) (maxL : Nat) (ret : Option FieldType) (hh : List (Nat × Nat × Nat × Nat)) (ws : List Cond) (rm : Room) (mc ms n : Nat) : Prop :=
  (rm.cells = mc ∧ rm.slots = ms ∧ rm.frames + 1 ≤ R.frames ∧ 8 + (maxL + 11) + rm.locals ≤ R.locals ∧ (∀ w ∈ ws, ∀ (a' : Array Value) (U : State), s.WarmedH U.vm → w.before a' U = true) ∧ Cond.codeWith y bytes maxL ret hh ∈ ws) ∧
  (Cond.codeWith y bytes maxL ret hh).before args s = true ∧ (Cond.initialized y.cls).before args s = true ∧ (y.cls ≠ "java/lang/invoke/MethodHandle" ∧ y.cls ≠ "java/lang/invoke/VarHandle") ∧
  (∀ sig, parseMethodDescriptor y.desc = some sig → n = sig.parameters.length) ∧ (Cond.methodLink own index y).before args s = true ∧ (Cond.static y).before args s = true
theorem vx_cwSW {own : String} {index maxL mc ms : Nat} {y : MethodName} {bytes : ByteArray} {ret : Option FieldType} {hh : List (Nat × Nat × Nat × Nat)} {Ts ws ws' : List Cond} {rm : Room} (n : Nat) (ht : ∀ w ∈ Ts, w.before args s = true) (hT : GoodIn Ts (va_wsS own index y ws)) (hw : ws = Cond.codeWith y bytes maxL ret hh :: ws') (hrc : rm.cells = mc) (hrs : rm.slots = ms)
    (hd : y.cls ≠ "java/lang/invoke/MethodHandle" ∧ y.cls ≠ "java/lang/invoke/VarHandle" ∧ (parseMethodDescriptor y.desc).map (fun d => d.parameters.length) = some n) (hR : rm.frames + 1 ≤ R.frames ∧ 8 + (maxL + 11) + rm.locals ≤ R.locals) :
    vx_CSW R s args own index y bytes maxL ret hh ws rm mc ms n := by
  have ok : ∀ w ∈ va_wsS own index y ws, w.before args s = true := fun w h => ht w (hT w h).1
  have hG : GoodIn Ts ws := fun w h => hT w (by unfold va_wsS; exact List.mem_append_right _ h)
  have hc : Cond.codeWith y bytes maxL ret hh ∈ ws := by rw [hw]; exact List.mem_cons_self
  refine ⟨⟨hrc, hrs, hR.1, hR.2, pay_in ht hG, hc⟩, ht _ (hG _ hc).1, ok _ (by simp [va_wsS]), ⟨hd.1, hd.2.1⟩, fun sig h => ?_, ok _ (by simp [va_wsS]), ok _ (by simp [va_wsS])⟩
  have h2 := hd.2.2
  rw [h] at h2
  exact (Option.some.inj h2).symm
theorem vx_callSW (X : Stand p l e R s m args below meth c T locs cells slots) (hexec : p.tables.exec = Jvm.exec) {own : String} {index : Nat} {y : MethodName} {bytes : ByteArray} {maxL : Nat} {ret : Option FieldType} {hh : List (Nat × Nat × Nat × Nat)}
    (hown : s.vm.findClass own = some m.cls) (hlink : (Cond.methodLink own index y).before args s = true) (hstat : (Cond.static y).before args s = true) (hinit : (Cond.initialized y.cls).before args s = true)
    (hcode : (Cond.codeWith y bytes maxL ret hh).before args s = true) (hy : y.cls ≠ "java/lang/invoke/MethodHandle" ∧ y.cls ≠ "java/lang/invoke/VarHandle")
    {W9 : Nat} {Pre : Pt → Array Value → Prop} {Post : Pt → Array Value → Option Value → Pt → Prop} (hK : Back l R p e below s args y 3 W9 Pre Post)
    {g : JFrame} (hg : g.method = m) (hsize : g.locals.size = c.maxLocals) {argsL rest : List Value} (hlen : ∀ sig, parseMethodDescriptor y.desc = some sig → argsL.length = sig.parameters.length)
    (hstack : g.stack = argsL.reverse ++ rest) (hW : 2 * g.monitorRoom + (rest.map fun v => v.category).sum ≤ W9) (hdg : decode c.code g.pc = .ok (.invokestatic index, 3))
    (hpre : ∀ vm₁, s.WarmedH vm₁ → Pre ⟨T.setVm vm₁, locs, cells, slots⟩ argsL.toArray) :
    ∃ (v : Option Value) (vm₁ : Vm) (B : Pt), s.WarmedH vm₁ ∧ Stand p l e R s m args below meth c B.U B.locs B.cells B.slots ∧ Post ⟨T.setVm vm₁, locs, cells, slots⟩ argsL.toArray v B ∧
      ∀ target, Steps p.tables e below (B.U.setTop { g with pc := g.pc + 3, stack := v.toList ++ rest }) target → Steps p.tables e below (T.setTop g) target := by
  obtain ⟨mk, methM, cM, hnamed, hmethM, -, -, -, -, -, -, hsigM⟩ := Cond.codeWith_spec hcode
  have hstatic : methM.isStatic = true := Cond.static_spec hnamed hmethM hstat
  obtain ⟨kP, hkP, -⟩ := className_of_methodNamed hnamed
  have hinitP : kP.init = .initialized := Cond.initialized_spec (findClass_of_methodNamed hnamed) hkP hinit
  obtain ⟨vm₁, X₁, hstep₁⟩ := X.invokestatic hexec hown hlink hnamed hmethM hstatic hkP hinitP hy (g := g) hg (argsL := argsL) (rest := rest) (hlen _ hsigM) hstack hdg
  obtain ⟨v, B, X', hpost, hsteps⟩ := hK m meth c ⟨T.setVm vm₁, locs, cells, slots⟩ { g with stack := rest } (.invokestatic index) mk argsL.toArray X₁ hg hsize hdg hW (X₁.named hnamed) (hpre vm₁ X₁.warmed)
  exact ⟨v, vm₁, B, X₁.warmed, X', hpost, fun target h => hstep₁ _ fun acts => by rw [doInvoke_state]; exact hsteps.trans h⟩
theorem vx_runSW {y : MethodName} {bytes cc : ByteArray} {maxL nL mc ms n index : Nat} {ret : Option FieldType} {hh : List (Nat × Nat × Nat × Nat)} {ws : List Cond} {rm : Room} {Pc : Array Value → State → Prop} {Qc : Array Value → State → Outcome → State → Prop} {free : Addr → Prop} {Ts : List Cond} {own : String} {As rest : List Value} {g : JFrame}
    (S : CallFix p m c cc nL s args Ts own) (hM : Met l y ws rm Pc Qc mc ms free) (cw : vx_CSW R s args own index y bytes maxL ret hh ws rm mc ms n) (hp : PreS s H Pc As)
    (hg : g.method = m) (hn : As.length = n) (hsize : g.locals.size = nL) (hstack : g.stack = As.reverse ++ rest) (hW : 2 * g.monitorRoom + (rest.map fun v => v.category).sum ≤ 8) (hdg : decode cc g.pc = .ok (.invokestatic index, 3)) (hf : cells + mc ≤ R.cells ∧ slots + ms ≤ R.slots) :
    va_Run p l e R s m args below meth c H locs cells slots mc ms g rest (Qc As.toArray) (free) := by
  obtain ⟨⟨hrc, hrs, hfr, hlo, hws, hcw⟩, hcode, hini, hy, hlen, hl, hstt⟩ := cw
  have hK : Back l R p e below s args y 3 8 (PreOf R mc ms Pc) (PostOf Qc mc ms free) := va_backW (hh := hh) (bytes := bytes) (maxL := maxL) (ret := ret) hM hp.1 hrc hrs hfr hlo hws hcw (fun a' U hW => word_at hW (Or.inl (by first | rfl | simp [Cond.onTables, Cond.keeps, Cond.steady])) hini)
  obtain ⟨hx, hb, hml, ho, -⟩ := S
  intro T hT X
  obtain ⟨v, vm₁, ⟨U', l2, c2, s2⟩, hW₁, X', ⟨g', mk, t, L, e1, e2, hq, h1, hL, h2, h3⟩, st⟩ := vx_callSW X hx (hh := hh) (bytes := bytes) (maxL := maxL) (ret := ret) ho hl hstt hini hcode hy hK hg (hsize.trans hml.symm) (argsL := As) (rest := rest) (fun sig h => hn.trans (hlen sig h)) hstack hW (by rw [hb]; exact hdg)
    (fun vm₁ hW₁ => ⟨hf.1, hf.2, hp.2 (T.setVm vm₁) hT hW₁⟩)
  dsimp only [Pt.U, Pt.locs, Pt.cells, Pt.slots] at X' e1 e2 h1 h2 h3 st
  subst h1; subst h2; subst h3
  exact ⟨v, (T.setVm vm₁).calling g' mk As.toArray, t, U', L, hT, X', hL, e1, e2, hq, st⟩
/-- not caught here, past rows that name other classes: it goes on to the caller -/
theorem vx_outP {p : Program} {l : Launch} {e : Env} {R : Room} {s : State} {m : MethodId} {args : Array Value} {below : List Frame} {meth : Method} {c : Code} {H : Heap} {locs : List Loc} {cells slots : Nat} {free : Addr → Prop} {ls : Array Slot} {rest : List Value} {Qc : Array Value → State → Outcome → State → Prop} {XC : String → State → State → Prop}
    {pc : Nat} {own E : String} {ce : Cell} {q : Addr} {mc ms : Nat} (hown : s.vm.findClass own = some m.cls) (hlocks : meth.locks = false)
    (hpass : ∀ z ∈ c.exceptionTable.toList, covers z pc = false ∨ (z.catchType ≠ 0 ∧ ∃ nm : String, (Cond.classLink own z.catchType nm).before args s = true ∧ va_Nc E nm s)) (hcell : H[q]? = some ce) (hv : ce.vm = .none) (hcl : s.vm.findClass E = some ce.cls)
    (hx : ∀ t : State, t.heap = H → s.vm.Alike t.vm → XC E s t) (hf : ∀ z ∈ locs, free z.base) (hc : cells ≤ mc) (hs : slots ≤ ms) :
    vx_W p l e R s m args below meth c H locs cells slots (vx_MQ below Qc XC args s mc ms free) (F0 m pc ls rest) q := by
  intro T hT X
  have hpl : e.platform.magicAccessors = ({} : Platform).magicAccessors := by rw [X.admits.platform]
  obtain ⟨vm', hW', X', st⟩ := X.outThrough hlocks q (g := F0 m pc ls rest) rfl rfl rfl (cell := ce) (by rw [hT]; exact hcell) (by rw [hv]; rfl)
    (by obtain ⟨k9, h9, -⟩ := Vm.findClass_spec hcl; exact ⟨k9, h9⟩) (fun z hz => by
      rcases hpass z hz with h | ⟨hz0, nm, hl1, hn1⟩
      · exact Or.inl h
      · obtain ⟨c6, hc6, hcl6⟩ := Cond.classLink_spec hown hl1 e.platform hpl
        obtain ⟨a8, b8, h1, h2, h3⟩ := hn1
        cases Option.some.inj (h1.symm.trans hcl)
        cases Option.some.inj (h2.symm.trans hc6)
        exact Or.inr ⟨hz0, _, hcl6, h3⟩)
  obtain ⟨g₀, hfr⟩ := X'.frames_eq
  have hcell9 : ((T.setVm vm').setFrames (.throwing q :: below)).heap[q]? = some ce := by
    show T.heap[q]? = some ce
    rw [hT]; exact hcell
  have hend : Ended ((T.setVm vm').setFrames (.throwing q :: below)) below (.threw q) := State.frames_setFrames _ (State.cur_lt_of_frames hfr)
  refine ⟨(T.setVm vm').setFrames (.throwing q :: below), ?_, .threw q, X'.here.running, hend, Or.inr ⟨q, rfl, E, ce, locs, hx _ hT (X'.ends _).1.alike, hcell9, hv, hcl, (X'.ends _).1, (X'.ends _).2.mono hc hs, hf⟩⟩
  rw [X.pushThrowing_eq]
  exact st
/-- a thing of a world lies in the heap -/
theorem vx_lt {D : va_G} {cl : List vw_C} {ws : va_W} {H1 : Heap} (h : va_P D cl ws H1) {k : Nat} {q : Nat × va_E} (hk : ws[k]? = some q) : q.1 < H1.size := (h k q hk).lt
end VXS
/-! ===== END ===== -/
/-! ===== BEGIN methods with a table of their own: called by a name, returning or throwing ===== -/
section VXH
/-! vx_backW, vx_callVX, vx_callSX, vx_callVW, vx_runVW, vx_runVX, vx_runSX, vx_ofWH follow the same proofs as their sisters above (Free/Laws.lean, Shelf42/LK1.lean); vx_outP calls Shelf42/NT130.lean (outThrough). -/
section
variable {l : Launch} {R : Room} {p : Program} {e : Env} {below : List Frame} {s : State} {sargs : Array Value} {y : MethodName} {len W9 : Nat}
theorem vx_backW {ws : List Cond} {rm : Room} {Pc : Array Value → State → Prop} {Qc : Array Value → State → Outcome → State → Prop} {XC : String → State → State → Prop} {mc ms : Nat} {free : Addr → Prop} {bytes : ByteArray} {maxL : Nat} {ret : Option FieldType} {hh : List (Nat × Nat × Nat × Nat)}
    (hM : vx_Met l y ws rm Pc Qc XC mc ms free) (hblind : FrameBlind Pc) (hrc : rm.cells = mc) (hrs : rm.slots = ms)
    (hframes : rm.frames + 1 ≤ R.frames) (hlocals : W9 + (maxL + 11) + rm.locals ≤ R.locals)
    (hws : ∀ w ∈ ws, ∀ a' U, s.WarmedH U.vm → w.before a' U = true) (hcode : Cond.codeWith y bytes maxL ret hh ∈ ws) (hinit : ∀ a' U, s.WarmedH U.vm → (Cond.initialized y.cls).before a' U = true) :
    vx_Back l R p e below s sargs y len W9 (PreOf R mc ms Pc) (PostOf Qc mc ms free) (vx_Post XC mc ms free) := by
  intro m meth c A g ig mk a X hg hsize hdg hW hn hp
  have h1 : (headSpec ws rm).pre.before a A.U = true := atoms_intro fun w hw => hws w hw _ _ X.warmed
  have h2 : (Cond.codeWith y bytes maxL ret hh).before a A.U = true := hws _ hcode _ _ X.warmed
  have h3 : (Cond.initialized y.cls).before a A.U = true := hinit _ _ X.warmed
  have h4 : A.cells + (headSpec ws rm).room.cells ≤ R.cells := by rw [show (headSpec ws rm).room.cells = mc from hrc]; exact hp.1
  have h5 : A.slots + (headSpec ws rm).room.slots ≤ R.slots := by rw [show (headSpec ws rm).room.slots = ms from hrs]; exact hp.2.1
  have hPc : Pc a (A.U.calling g mk a) := hblind _ _ _ _ hp.2.2
  obtain ⟨U, Ls, c0, s0⟩ := A
  dsimp only [Pt.U, Pt.locs, Pt.cells, Pt.slots] at h1 h2 h3 h4 h5 X hn hPc ⊢
  obtain ⟨m9, methY, cY, hn9, hmY, hcY, -, hlY, -⟩ := Cond.codeWith_spec h2
  cases Option.some.inj (hn9.symm.trans hn)
  obtain ⟨kY, hkY, -⟩ := className_of_methodNamed hn
  have hinitY : kY.init = .initialized := Cond.initialized_spec (findClass_of_methodNamed hn) hkY h3
  have h : At U g.method c below := by rw [hg]; exact X.here
  have hlocals9 : W9 + (maxL + 11) + (headSpec ws rm).room.locals ≤ R.locals := hlocals
  have happ : (headSpec ws rm).appliesLoose y e.platform (U.calling g mk a) = true :=
    Spec.appliesLoose_calling (g := g) h hdg hn hkY hinitY
      (X.room_calling (g := g) (R' := (headSpec ws rm).room) hsize hmY hcY hframes (by rw [hlY]; omega) h4 h5) h1
  obtain ⟨mid, hmid⟩ := h.above
  have hfr : (U.setTop g).frames = (.java g :: mid) ++ below := by rw [State.frames_setTop' g h.top, hmid]; rfl
  obtain ⟨o, s₂, hsteps, -, hend, hq⟩ := Steps.callFree hM p X.admits X.cas X.clock (acts := []) hfr happ hPc trivial
  have hq' : vx_Q Qc XC mc ms free a (U.calling g mk a) o s₂ := hq
  rw [State.frames_setTop' g h.top] at hend
  obtain ⟨g₀, hg0⟩ := Option.isSome_iff_exists.mp h.top
  obtain ⟨r, hr⟩ := State.topJava?_eq_some.mp hg0
  have hr' : (({ U with heap := s₂.heap, slotsUsed := s₂.slotsUsed } : State).setVm s₂.vm).frames = .java g₀ :: r := hr
  rcases hq' with ⟨hqc, L, hfe, hL⟩ | ⟨q, rfl, E, ce, L, hx, hce, hcv, hcl, hW₂, hsm, hL⟩
  · obtain ⟨⟨v, rfl⟩, hW₂, e2, q2, q3, q4, q5, q6⟩ := id hfe
    have e3 : s₂ = ({ (U.calling g mk a).setFrames s₂.frames with heap := s₂.heap, slotsUsed := s₂.slotsUsed } : State).setVm s₂.vm := by
      have : s₂ = ({ s₂ with vm := (U.calling g mk a).vm } : State).setVm s₂.vm := rfl
      rw [e2] at this
      exact this
    obtain ⟨c₂, i₂, len₂, hc₂, hd₂, hf₂⟩ := hend
    have hW' : U.WarmedH s₂.vm := hW₂
    have hcc : c₂ = c := by
      have h1 : s₂.code? g.method = U.code? g.method := by
        rw [State.code?_eq, State.code?_eq, hW'.alike.method?]
      exact Option.some.inj (hc₂.symm.trans (h1.trans h.code))
    subst hcc
    have hlen : len₂ = len := by rw [hdg] at hd₂; cases hd₂; rfl
    subst hlen
    have hs₂ : s₂ = (({ U with heap := s₂.heap, slotsUsed := s₂.slotsUsed } : State).setVm s₂.vm).setTop { g with pc := g.pc + len₂, stack := v.toList ++ g.stack } := by
      refine e3.trans ?_
      rw [hf₂, State.calling_eq h.top, State.setFrames_setFrames, State.setTop_of_frames _ hr', hr]
      rfl
    have hsame : U.sameButNew ({ U with heap := s₂.heap, slotsUsed := s₂.slotsUsed } : State) L mc ms := by
      refine ⟨?_, q2, q3, q4, q5, q6⟩
      obtain ⟨t, ht, -⟩ := State.frames_cons hr
      show ({ U with heap := s₂.heap, slotsUsed := s₂.slotsUsed } : State) = { U.setFrames U.frames with heap := s₂.heap, slotsUsed := s₂.slotsUsed }
      rw [State.setFrames_self ht]
    subst hg
    refine Or.inl ⟨v, ⟨(({ U with heap := s₂.heap, slotsUsed := s₂.slotsUsed } : State).setVm s₂.vm), Ls ++ L, c0 + mc, s0 + ms⟩,
      ⟨X.admits, X.cas, X.clock, X.frames, X.room, X.hears, X.method, X.code, (X.here.setHeapUsed s₂.heap s₂.slotsUsed).setVm hW'.alike, X.tail, State.WarmedH.trans X.warmed hW', X.limits, X.bytes, X.same.trans (hsame.setVm s.vm)⟩,
      ⟨g, mk, s₂, L, rfl, rfl, hqc, rfl, hL, rfl, rfl⟩, ?_⟩
    show Steps p.tables e below _ ((({ U with heap := s₂.heap, slotsUsed := s₂.slotsUsed } : State).setVm s₂.vm).setTop { g with pc := g.pc + len₂, stack := v.toList ++ g.stack })
    rw [← hs₂]
    exact hsteps
  · obtain ⟨e2, q2, q3, q4, q5, q6⟩ := id hsm
    have e3 : s₂ = ({ (U.calling g mk a).setFrames s₂.frames with heap := s₂.heap, slotsUsed := s₂.slotsUsed } : State).setVm s₂.vm := by
      have : s₂ = ({ s₂ with vm := (U.calling g mk a).vm } : State).setVm s₂.vm := rfl
      rw [e2] at this
      exact this
    have hf₂ : s₂.frames = .throwing q :: .java g :: U.frames.tail := hend
    have hW' : U.WarmedH s₂.vm := hW₂
    have hs₂ : s₂ = ((({ U with heap := s₂.heap, slotsUsed := s₂.slotsUsed } : State).setVm s₂.vm).setTop g).pushFrame (.throwing q) := by
      refine e3.trans ?_
      rw [hf₂, State.calling_eq h.top, State.setFrames_setFrames, State.pushFrame, State.frames_setTop _ hr', State.setTop_of_frames _ hr', State.setFrames_setFrames, hr]
      rfl
    have hsame : U.sameButNew ({ U with heap := s₂.heap, slotsUsed := s₂.slotsUsed } : State) L mc ms := by
      refine ⟨?_, q2, q3, q4, q5, q6⟩
      obtain ⟨t, ht, -⟩ := State.frames_cons hr
      show ({ U with heap := s₂.heap, slotsUsed := s₂.slotsUsed } : State) = { U.setFrames U.frames with heap := s₂.heap, slotsUsed := s₂.slotsUsed }
      rw [State.setFrames_self ht]
    subst hg
    refine Or.inr ⟨q, ⟨(({ U with heap := s₂.heap, slotsUsed := s₂.slotsUsed } : State).setVm s₂.vm), Ls ++ L, c0 + mc, s0 + ms⟩,
      ⟨X.admits, X.cas, X.clock, X.frames, X.room, X.hears, X.method, X.code, (X.here.setHeapUsed s₂.heap s₂.slotsUsed).setVm hW'.alike, X.tail, State.WarmedH.trans X.warmed hW', X.limits, X.bytes, X.same.trans (hsame.setVm s.vm)⟩,
      ⟨g, mk, s₂, L, E, ce, rfl, rfl, hx, hce, hcv, hcl, rfl, hL, rfl, rfl⟩, ?_⟩
    show Steps p.tables e below _ (((({ U with heap := s₂.heap, slotsUsed := s₂.slotsUsed } : State).setVm s₂.vm).setTop g).pushFrame (.throwing q))
    rw [← hs₂]
    exact hsteps
end
variable {p : Program} {l : Launch} {e : Env} {R : Room} {s : State} {m : MethodId} {args : Array Value} {below : List Frame} {meth : Method} {c : Code} {T : State} {H : Heap} {locs : List Loc} {cells slots : Nat}
theorem vx_callVX (X : Stand p l e R s m args below meth c T locs cells slots) (hexec : p.tables.exec = Jvm.exec) {own C : String} {index : Nat} {y : MethodName} {bytes : ByteArray} {maxL : Nat} {ret : Option FieldType} {hh : List (Nat × Nat × Nat × Nat)}
    (hown : s.vm.findClass own = some m.cls) (hlink : (Cond.methodLink own index y).before args s = true) (hinst : (Cond.instanceMethod y).before args s = true) (hsel : (Cond.selects C y y).before args s = true)
    (hcode : (Cond.codeWith y bytes maxL ret hh).before args s = true) (hy : y.cls ≠ "java/lang/invoke/MethodHandle" ∧ y.cls ≠ "java/lang/invoke/VarHandle")
    {W9 : Nat} {Pre : Pt → Array Value → Prop} {Post : Pt → Array Value → Option Value → Pt → Prop} {PostX : Pt → Array Value → Addr → Pt → Prop} (hK : vx_Back l R p e below s args y 3 W9 Pre Post PostX)
    {b : Addr} {cellB : Cell} (hcell : T.heap[b]? = some cellB) (hobj : cellB.vm.isStatics = false) (hcls : s.vm.findClass C = some cellB.cls)
    {g : JFrame} (hg : g.method = m) (hsize : g.locals.size = c.maxLocals) {argsL rest : List Value} (hlen : ∀ sig, parseMethodDescriptor y.desc = some sig → argsL.length = sig.parameters.length)
    (hstack : g.stack = argsL.reverse ++ .ref b :: rest) (hW : 2 * g.monitorRoom + (rest.map fun v => v.category).sum ≤ W9) (hdg : decode c.code g.pc = .ok (.invokevirtual index, 3))
    (hpre : ∀ vm₁, s.WarmedH vm₁ → Pre ⟨T.setVm vm₁, locs, cells, slots⟩ (Value.ref b :: argsL).toArray) :
    (∃ (v : Option Value) (vm₁ : Vm) (B : Pt), s.WarmedH vm₁ ∧ Stand p l e R s m args below meth c B.U B.locs B.cells B.slots ∧ Post ⟨T.setVm vm₁, locs, cells, slots⟩ (Value.ref b :: argsL).toArray v B ∧
      ∀ target, Steps p.tables e below (B.U.setTop { g with pc := g.pc + 3, stack := v.toList ++ rest }) target → Steps p.tables e below (T.setTop g) target) ∨
    (∃ (q : Addr) (vm₁ : Vm) (B : Pt), s.WarmedH vm₁ ∧ Stand p l e R s m args below meth c B.U B.locs B.cells B.slots ∧ PostX ⟨T.setVm vm₁, locs, cells, slots⟩ (Value.ref b :: argsL).toArray q B ∧
      Steps p.tables e below (T.setTop g) ((B.U.setTop { g with stack := rest }).pushFrame (.throwing q))) := by
  obtain ⟨mk, methM, hnamed, hmethM, hstM, habM⟩ := Cond.instanceMethod_spec hinst
  obtain ⟨m8, methM', cM, hn8, hmethM', -, -, -, -, -, -, hsigM⟩ := Cond.codeWith_spec hcode
  cases Option.some.inj (hn8.symm.trans hnamed)
  cases hmethM.symm.trans hmethM'
  obtain ⟨c2, r2, m2, q1, q2, q3, q4, kP, hkP, hkPi⟩ := Cond.selects_spec hsel
  cases hcls.symm.trans q1
  cases (State.methodFound?_of_named hnamed hy).symm.trans q2
  cases hnamed.symm.trans q3
  have hselP : selectMethod e.platform s.vm cellB.cls mk = .method mk := by rw [Launch.admits_selectMethod X.admits]; exact q4
  obtain ⟨vm₁, X₁, hstep₁⟩ := X.invokevirtual hexec hown hlink hnamed hmethM hstM hkP hkPi hy (a := b) (cell := cellB) hcell
    (fun z h => by rw [h] at hobj; cases hobj) hselP hmethM habM hkP hkPi (g := g) hg (argsL := argsL) (rest := rest) (hlen _ hsigM) hstack hdg
  rcases hK m meth c ⟨T.setVm vm₁, locs, cells, slots⟩ { g with stack := rest } (.invokevirtual index) mk (Value.ref b :: argsL).toArray X₁ hg hsize hdg hW (X₁.named hnamed) (hpre vm₁ X₁.warmed) with ⟨v, B, X', hpost, hsteps⟩ | ⟨q, B, X', hpost, hsteps⟩
  · exact Or.inl ⟨v, vm₁, B, X₁.warmed, X', hpost, fun target h => hstep₁ _ fun acts => by rw [doInvoke_state]; exact hsteps.trans h⟩
  · exact Or.inr ⟨q, vm₁, B, X₁.warmed, X', hpost, hstep₁ _ fun acts => by rw [doInvoke_state]; exact hsteps⟩
theorem vx_callSX (X : Stand p l e R s m args below meth c T locs cells slots) (hexec : p.tables.exec = Jvm.exec) {own : String} {index : Nat} {y : MethodName} {bytes : ByteArray} {maxL : Nat} {ret : Option FieldType} {hh : List (Nat × Nat × Nat × Nat)}
    (hown : s.vm.findClass own = some m.cls) (hlink : (Cond.methodLink own index y).before args s = true) (hstat : (Cond.static y).before args s = true) (hinit : (Cond.initialized y.cls).before args s = true)
    (hcode : (Cond.codeWith y bytes maxL ret hh).before args s = true) (hy : y.cls ≠ "java/lang/invoke/MethodHandle" ∧ y.cls ≠ "java/lang/invoke/VarHandle")
    {W9 : Nat} {Pre : Pt → Array Value → Prop} {Post : Pt → Array Value → Option Value → Pt → Prop} {PostX : Pt → Array Value → Addr → Pt → Prop} (hK : vx_Back l R p e below s args y 3 W9 Pre Post PostX)
    {g : JFrame} (hg : g.method = m) (hsize : g.locals.size = c.maxLocals) {argsL rest : List Value} (hlen : ∀ sig, parseMethodDescriptor y.desc = some sig → argsL.length = sig.parameters.length)
    (hstack : g.stack = argsL.reverse ++ rest) (hW : 2 * g.monitorRoom + (rest.map fun v => v.category).sum ≤ W9) (hdg : decode c.code g.pc = .ok (.invokestatic index, 3))
    (hpre : ∀ vm₁, s.WarmedH vm₁ → Pre ⟨T.setVm vm₁, locs, cells, slots⟩ argsL.toArray) :
    (∃ (v : Option Value) (vm₁ : Vm) (B : Pt), s.WarmedH vm₁ ∧ Stand p l e R s m args below meth c B.U B.locs B.cells B.slots ∧ Post ⟨T.setVm vm₁, locs, cells, slots⟩ argsL.toArray v B ∧
      ∀ target, Steps p.tables e below (B.U.setTop { g with pc := g.pc + 3, stack := v.toList ++ rest }) target → Steps p.tables e below (T.setTop g) target) ∨
    (∃ (q : Addr) (vm₁ : Vm) (B : Pt), s.WarmedH vm₁ ∧ Stand p l e R s m args below meth c B.U B.locs B.cells B.slots ∧ PostX ⟨T.setVm vm₁, locs, cells, slots⟩ argsL.toArray q B ∧
      Steps p.tables e below (T.setTop g) ((B.U.setTop { g with stack := rest }).pushFrame (.throwing q))) := by
  obtain ⟨mk, methM, cM, hnamed, hmethM, -, -, -, -, -, -, hsigM⟩ := Cond.codeWith_spec hcode
  have hstatic : methM.isStatic = true := Cond.static_spec hnamed hmethM hstat
  obtain ⟨kP, hkP, -⟩ := className_of_methodNamed hnamed
  have hinitP : kP.init = .initialized := Cond.initialized_spec (findClass_of_methodNamed hnamed) hkP hinit
  obtain ⟨vm₁, X₁, hstep₁⟩ := X.invokestatic hexec hown hlink hnamed hmethM hstatic hkP hinitP hy (g := g) hg (argsL := argsL) (rest := rest) (hlen _ hsigM) hstack hdg
  rcases hK m meth c ⟨T.setVm vm₁, locs, cells, slots⟩ { g with stack := rest } (.invokestatic index) mk argsL.toArray X₁ hg hsize hdg hW (X₁.named hnamed) (hpre vm₁ X₁.warmed) with ⟨v, B, X', hpost, hsteps⟩ | ⟨q, B, X', hpost, hsteps⟩
  · exact Or.inl ⟨v, vm₁, B, X₁.warmed, X', hpost, fun target h => hstep₁ _ fun acts => by rw [doInvoke_state]; exact hsteps.trans h⟩
  · exact Or.inr ⟨q, vm₁, B, X₁.warmed, X', hpost, hstep₁ _ fun acts => by rw [doInvoke_state]; exact hsteps⟩
theorem vx_callVW (X : Stand p l e R s m args below meth c T locs cells slots) (hexec : p.tables.exec = Jvm.exec) {own C : String} {index : Nat} {y : MethodName} {bytes : ByteArray} {maxL : Nat} {ret : Option FieldType} {hh : List (Nat × Nat × Nat × Nat)}
    (hown : s.vm.findClass own = some m.cls) (hlink : (Cond.methodLink own index y).before args s = true) (hinst : (Cond.instanceMethod y).before args s = true) (hsel : (Cond.selects C y y).before args s = true)
    (hcode : (Cond.codeWith y bytes maxL ret hh).before args s = true) (hy : y.cls ≠ "java/lang/invoke/MethodHandle" ∧ y.cls ≠ "java/lang/invoke/VarHandle")
    {W9 : Nat} {Pre : Pt → Array Value → Prop} {Post : Pt → Array Value → Option Value → Pt → Prop} (hK : Back l R p e below s args y 3 W9 Pre Post)
    {b : Addr} {cellB : Cell} (hcell : T.heap[b]? = some cellB) (hobj : cellB.vm.isStatics = false) (hcls : s.vm.findClass C = some cellB.cls)
    {g : JFrame} (hg : g.method = m) (hsize : g.locals.size = c.maxLocals) {argsL rest : List Value} (hlen : ∀ sig, parseMethodDescriptor y.desc = some sig → argsL.length = sig.parameters.length)
    (hstack : g.stack = argsL.reverse ++ .ref b :: rest) (hW : 2 * g.monitorRoom + (rest.map fun v => v.category).sum ≤ W9) (hdg : decode c.code g.pc = .ok (.invokevirtual index, 3))
    (hpre : ∀ vm₁, s.WarmedH vm₁ → Pre ⟨T.setVm vm₁, locs, cells, slots⟩ (Value.ref b :: argsL).toArray) :
    ∃ (v : Option Value) (vm₁ : Vm) (B : Pt), s.WarmedH vm₁ ∧ Stand p l e R s m args below meth c B.U B.locs B.cells B.slots ∧ Post ⟨T.setVm vm₁, locs, cells, slots⟩ (Value.ref b :: argsL).toArray v B ∧
      ∀ target, Steps p.tables e below (B.U.setTop { g with pc := g.pc + 3, stack := v.toList ++ rest }) target → Steps p.tables e below (T.setTop g) target := by
  obtain ⟨mk, methM, hnamed, hmethM, hstM, habM⟩ := Cond.instanceMethod_spec hinst
  obtain ⟨m8, methM', cM, hn8, hmethM', -, -, -, -, -, -, hsigM⟩ := Cond.codeWith_spec hcode
  cases Option.some.inj (hn8.symm.trans hnamed)
  cases hmethM.symm.trans hmethM'
  obtain ⟨c2, r2, m2, q1, q2, q3, q4, kP, hkP, hkPi⟩ := Cond.selects_spec hsel
  cases hcls.symm.trans q1
  cases (State.methodFound?_of_named hnamed hy).symm.trans q2
  cases hnamed.symm.trans q3
  have hselP : selectMethod e.platform s.vm cellB.cls mk = .method mk := by rw [Launch.admits_selectMethod X.admits]; exact q4
  obtain ⟨vm₁, X₁, hstep₁⟩ := X.invokevirtual hexec hown hlink hnamed hmethM hstM hkP hkPi hy (a := b) (cell := cellB) hcell
    (fun z h => by rw [h] at hobj; cases hobj) hselP hmethM habM hkP hkPi (g := g) hg (argsL := argsL) (rest := rest) (hlen _ hsigM) hstack hdg
  obtain ⟨v, B, X', hpost, hsteps⟩ := hK m meth c ⟨T.setVm vm₁, locs, cells, slots⟩ { g with stack := rest } (.invokevirtual index) mk (Value.ref b :: argsL).toArray X₁ hg hsize hdg hW (X₁.named hnamed) (hpre vm₁ X₁.warmed)
  exact ⟨v, vm₁, B, X₁.warmed, X', hpost, fun target h => hstep₁ _ fun acts => by rw [doInvoke_state]; exact hsteps.trans h⟩
abbrev vx_CVW (R : Room) (s : State) (args : Array Value) (own C : String) (index : Nat) (y : MethodName) (bytes : ByteArray) (maxL : Nat) (ret : Option FieldType) (hh : List (Nat × Nat × Nat × Nat)) (ws : List Cond) (rm : Room) (mc ms n : Nat) : Prop :=
  (rm.cells = mc ∧ rm.slots = ms ∧ rm.frames + 1 ≤ R.frames ∧ 8 + (maxL + 11) + rm.locals ≤ R.locals ∧ (∀ w ∈ ws, ∀ (a' : Array Value) (U : State), s.WarmedH U.vm → w.before a' U = true) ∧ Cond.codeWith y bytes maxL ret hh ∈ ws) ∧
  (Cond.codeWith y bytes maxL ret hh).before args s = true ∧ (Cond.initialized y.cls).before args s = true ∧ (y.cls ≠ "java/lang/invoke/MethodHandle" ∧ y.cls ≠ "java/lang/invoke/VarHandle") ∧
  (∀ sig, parseMethodDescriptor y.desc = some sig → n = sig.parameters.length) ∧ (Cond.methodLink own index y).before args s = true ∧ (Cond.instanceMethod y).before args s = true ∧ (Cond.selects C y y).before args s = true
theorem vx_cwVW {own C : String} {index maxL mc ms : Nat} {y : MethodName} {bytes : ByteArray} {ret : Option FieldType} {hh : List (Nat × Nat × Nat × Nat)} {Ts ws ws' : List Cond} {rm : Room} (n : Nat) (ht : ∀ w ∈ Ts, w.before args s = true) (hT : GoodIn Ts (wsV own index C y ws)) (hw : ws = Cond.codeWith y bytes maxL ret hh :: ws') (hrc : rm.cells = mc) (hrs : rm.slots = ms)
    (hd : y.cls = C ∧ y.cls ≠ "java/lang/invoke/MethodHandle" ∧ y.cls ≠ "java/lang/invoke/VarHandle" ∧ (parseMethodDescriptor y.desc).map (fun d => d.parameters.length) = some n) (hR : rm.frames + 1 ≤ R.frames ∧ 8 + (maxL + 11) + rm.locals ≤ R.locals) :
    vx_CVW R s args own C index y bytes maxL ret hh ws rm mc ms n := by
  obtain ⟨hC, hd⟩ := hd
  subst hC
  have ok : ∀ w ∈ wsV own index y.cls y ws, w.before args s = true := fun w h => ht w (hT w h).1
  have hG : GoodIn Ts ws := fun w h => hT w (by unfold wsV; exact List.mem_append_right _ h)
  have hc : Cond.codeWith y bytes maxL ret hh ∈ ws := by rw [hw]; exact List.mem_cons_self
  refine ⟨⟨hrc, hrs, hR.1, hR.2, pay_in ht hG, hc⟩, ht _ (hG _ hc).1, ok _ (by simp [wsV]), ⟨hd.1, hd.2.1⟩, fun sig h => ?_, ok _ (by simp [wsV]), ok _ (by simp [wsV]), ok _ (by simp [wsV])⟩
  have h2 := hd.2.2
  rw [h] at h2
  exact (Option.some.inj h2).symm
theorem vx_runVW {y : MethodName} {bytes cc : ByteArray} {maxL nL mc ms n index : Nat} {ret : Option FieldType} {hh : List (Nat × Nat × Nat × Nat)} {ws : List Cond} {rm : Room} {Pc : Array Value → State → Prop} {Qc : Array Value → State → Outcome → State → Prop} {free : Addr → Prop} {Ts : List Cond} {own C : String} {b : Addr} {As rest : List Value} {g : JFrame}
    (S : CallFix p m c cc nL s args Ts own) (hM : Met l y ws rm Pc Qc mc ms free) (cw : vx_CVW R s args own C index y bytes maxL ret hh ws rm mc ms n) (hp : PreV s H C b Pc As)
    (hg : g.method = m) (hn : As.length = n) (hsize : g.locals.size = nL) (hstack : g.stack = As.reverse ++ .ref b :: rest) (hW : 2 * g.monitorRoom + (rest.map fun v => v.category).sum ≤ 8) (hdg : decode cc g.pc = .ok (.invokevirtual index, 3)) (hf : cells + mc ≤ R.cells ∧ slots + ms ≤ R.slots) :
    va_Run p l e R s m args below meth c H locs cells slots mc ms g rest (Qc (Value.ref b :: As).toArray) free := by
  obtain ⟨⟨hrc, hrs, hfr, hlo, hws, hcw⟩, hcode, hini, hy, hlen, hl, hin, hse⟩ := cw
  have hK : Back l R p e below s args y 3 8 (PreOf R mc ms Pc) (PostOf Qc mc ms free) := va_backW (hh := hh) (bytes := bytes) (maxL := maxL) (ret := ret) hM hp.1 hrc hrs hfr hlo hws hcw (fun a' U hW => word_at hW (Or.inl (by first | rfl | simp [Cond.onTables, Cond.keeps, Cond.steady])) hini)
  obtain ⟨hx, hb, hml, ho, -⟩ := S
  obtain ⟨-, ⟨cellB, hcB, hoB, hclB⟩, hPc⟩ := hp
  intro T hT X
  obtain ⟨v, vm₁, ⟨U', l2, c2, s2⟩, hW₁, X', ⟨g', mk, t, L, e1, e2, hq, h1, hL, h2, h3⟩, st⟩ := vx_callVW X hx (C := C) (hh := hh) (bytes := bytes) (maxL := maxL) (ret := ret) ho hl hin hse hcode hy hK (by rw [hT]; exact hcB) hoB hclB hg (hsize.trans hml.symm) (argsL := As) (rest := rest) (fun sig h => hn.trans (hlen sig h)) hstack hW (by rw [hb]; exact hdg)
    (fun vm₁ hW₁ => ⟨hf.1, hf.2, hPc (T.setVm vm₁) hT hW₁⟩)
  dsimp only [Pt.U, Pt.locs, Pt.cells, Pt.slots] at X' e1 e2 h1 h2 h3 st
  subst h1; subst h2; subst h3
  exact ⟨v, (T.setVm vm₁).calling g' mk (Value.ref b :: As).toArray, t, U', L, hT, X', hL, e1, e2, hq, st⟩
section
variable {y : MethodName} {bytes cc : ByteArray} {maxL nL mc ms n index : Nat} {ret : Option FieldType} {ws : List Cond} {rm : Room} {Pc : Array Value → State → Prop} {Qc : Array Value → State → Outcome → State → Prop} {XC : String → State → State → Prop} {free : Addr → Prop} {Ts : List Cond} {own C : String} {b : Addr} {As rest : List Value} {g : JFrame}
theorem vx_runVX {hh : List (Nat × Nat × Nat × Nat)} (S : CallFix p m c cc nL s args Ts own) (hM : vx_Met l y ws rm Pc Qc XC mc ms free) (cw : vx_CVW R s args own C index y bytes maxL ret hh ws rm mc ms n) (hp : PreV s H C b Pc As)
    (hg : g.method = m) (hn : As.length = n) (hsize : g.locals.size = nL) (hstack : g.stack = As.reverse ++ .ref b :: rest) (hW : 2 * g.monitorRoom + (rest.map fun v => v.category).sum ≤ 8) (hdg : decode cc g.pc = .ok (.invokevirtual index, 3)) (hf : cells + mc ≤ R.cells ∧ slots + ms ≤ R.slots) :
    vx_Run p l e R s m args below meth c H locs cells slots mc ms g rest (Qc (Value.ref b :: As).toArray) XC free := by
  obtain ⟨⟨hrc, hrs, hfr, hlo, hws, hcw⟩, hcode, hini, hy, hlen, hl, hin, hse⟩ := cw
  have hK : vx_Back l R p e below s args y 3 8 (PreOf R mc ms Pc) (PostOf Qc mc ms free) (vx_Post XC mc ms free) := vx_backW (hh := hh) (bytes := bytes) (maxL := maxL) (ret := ret) hM hp.1 hrc hrs hfr hlo hws hcw (fun a' U hW => word_at hW (Or.inl (by first | rfl | simp [Cond.onTables, Cond.keeps, Cond.steady])) hini)
  obtain ⟨hx, hb, hml, ho, -⟩ := S
  obtain ⟨-, ⟨cellB, hcB, hoB, hclB⟩, hPc⟩ := hp
  intro T hT X
  rcases vx_callVX X hx (C := C) (hh := hh) (bytes := bytes) (maxL := maxL) (ret := ret) ho hl hin hse hcode hy hK (by rw [hT]; exact hcB) hoB hclB hg (hsize.trans hml.symm) (argsL := As) (rest := rest) (fun sig h => hn.trans (hlen sig h)) hstack hW (by rw [hb]; exact hdg)
    (fun vm₁ hW₁ => ⟨hf.1, hf.2, hPc (T.setVm vm₁) hT hW₁⟩) with ⟨v, vm₁, ⟨U', l2, c2, s2⟩, hW₁, X', ⟨g', mk, t, L, e1, e2, hq, h1, hL, h2, h3⟩, st⟩ | ⟨q, vm₁, ⟨U', l2, c2, s2⟩, hW₁, X', ⟨g', mk, t, L, E, ce, e1, e2, hq, hce, hcv, hcl, h1, hL, h2, h3⟩, st⟩
  · dsimp only [Pt.U, Pt.locs, Pt.cells, Pt.slots] at X' e1 e2 h1 h2 h3 st
    subst h1; subst h2; subst h3
    exact Or.inl ⟨v, (T.setVm vm₁).calling g' mk (Value.ref b :: As).toArray, t, U', L, hT, X', hL, e1, e2, hq, st⟩
  · dsimp only [Pt.U, Pt.locs, Pt.cells, Pt.slots] at X' e1 e2 h1 h2 h3 st hcl
    subst h1; subst h2; subst h3
    exact Or.inr ⟨q, (T.setVm vm₁).calling g' mk (Value.ref b :: As).toArray, t, U', L, E, ce, hT, X', hL, e1, e2, hq, hce, hcv, vx_cls hW₁ hcl, st⟩
theorem vx_runSX {hh : List (Nat × Nat × Nat × Nat)} (S : CallFix p m c cc nL s args Ts own) (hM : vx_Met l y ws rm Pc Qc XC mc ms free) (cw : vx_CSW R s args own index y bytes maxL ret hh ws rm mc ms n) (hp : PreS s H Pc As)
    (hg : g.method = m) (hn : As.length = n) (hsize : g.locals.size = nL) (hstack : g.stack = As.reverse ++ rest) (hW : 2 * g.monitorRoom + (rest.map fun v => v.category).sum ≤ 8) (hdg : decode cc g.pc = .ok (.invokestatic index, 3)) (hf : cells + mc ≤ R.cells ∧ slots + ms ≤ R.slots) :
    vx_Run p l e R s m args below meth c H locs cells slots mc ms g rest (Qc As.toArray) XC free := by
  obtain ⟨⟨hrc, hrs, hfr, hlo, hws, hcw⟩, hcode, hini, hy, hlen, hl, hstt⟩ := cw
  have hK : vx_Back l R p e below s args y 3 8 (PreOf R mc ms Pc) (PostOf Qc mc ms free) (vx_Post XC mc ms free) := vx_backW (hh := hh) (bytes := bytes) (maxL := maxL) (ret := ret) hM hp.1 hrc hrs hfr hlo hws hcw (fun a' U hW => word_at hW (Or.inl (by first | rfl | simp [Cond.onTables, Cond.keeps, Cond.steady])) hini)
  obtain ⟨hx, hb, hml, ho, -⟩ := S
  intro T hT X
  rcases vx_callSX X hx (hh := hh) (bytes := bytes) (maxL := maxL) (ret := ret) ho hl hstt hini hcode hy hK hg (hsize.trans hml.symm) (argsL := As) (rest := rest) (fun sig h => hn.trans (hlen sig h)) hstack hW (by rw [hb]; exact hdg)
    (fun vm₁ hW₁ => ⟨hf.1, hf.2, hp.2 (T.setVm vm₁) hT hW₁⟩) with ⟨v, vm₁, ⟨U', l2, c2, s2⟩, hW₁, X', ⟨g', mk, t, L, e1, e2, hq, h1, hL, h2, h3⟩, st⟩ | ⟨q, vm₁, ⟨U', l2, c2, s2⟩, hW₁, X', ⟨g', mk, t, L, E, ce, e1, e2, hq, hce, hcv, hcl, h1, hL, h2, h3⟩, st⟩
  · dsimp only [Pt.U, Pt.locs, Pt.cells, Pt.slots] at X' e1 e2 h1 h2 h3 st
    subst h1; subst h2; subst h3
    exact Or.inl ⟨v, (T.setVm vm₁).calling g' mk As.toArray, t, U', L, hT, X', hL, e1, e2, hq, st⟩
  · dsimp only [Pt.U, Pt.locs, Pt.cells, Pt.slots] at X' e1 e2 h1 h2 h3 st hcl
    subst h1; subst h2; subst h3
    exact Or.inr ⟨q, (T.setVm vm₁).calling g' mk As.toArray, t, U', L, E, ce, hT, X', hL, e1, e2, hq, hce, hcv, vx_cls hW₁ hcl, st⟩
end
end VXH
theorem vx_ofWH {l : Launch} {y : MethodName} {ws ws' : List Cond} {rm : Room} {Pc : Array Value → State → Prop} {Qc : Array Value → State → Outcome → State → Prop} {XC : String → State → State → Prop} {mc ms : Nat} {free : Addr → Prop} {cc : ByteArray} {maxL : Nat} {ret : Option FieldType} {hh : List (Nat × Nat × Nat × Nat)}
    (hy : plainName y.cls = true) (hw : ws = Cond.codeWith y cc maxL ret hh :: ws')
    (body : ∀ p e s m args below meth c s₁, BodyLoose p l y (headSpec ws rm) cc maxL ret e s m args below meth c s₁ → c.maxLocals = maxL → Pc args s →
      W p l e (headSpec ws rm).room s m args below meth c s.heap [] 0 0 (vx_MQ below Qc XC args s mc ms free) (entryFrame m args maxL)) : vx_Met l y ws rm Pc Qc XC mc ms free := by
  refine MetFree.of_bodyS (code := cc) (maxLocals := maxL) (ret := ret) hy ?_ ?_
  · intro args s m h hn
    obtain ⟨m9, meth, c, hn9, h1, h2, h3, h4, -, h5, h6, -⟩ := Cond.codeWith_spec (atoms_spec (ws := ws) h _ (by rw [hw]; exact List.mem_cons_self))
    cases hn.symm.trans hn9
    exact ⟨meth, c, h1, h2, h3, h4, h5, h6⟩
  · intro p e s m args below meth c s₁ B hml hP _
    have hh0 : s₁.heap = s.heap := by rw [B.state]; rfl
    obtain ⟨t, a1, o, b1, b2, b3⟩ := body p e s m args below meth c s₁ B hml hP s₁ hh0 (Stand.of_body B)
    exact ⟨t, o, a1, b1, b2, b3⟩
/-! ===== END ===== -/
end
section
/-! names: out of the printed names -/
def RX0 : String := "Highkey$Cursor"
def TX0 : u_T := fun k => match k with
  | 0 => ("Highkey$Cursor", "openedIn", "I", true)
  | 1 => ("Highkey$Cursor", "leaf", "LHighkey$Page;", false)
  | 2 => ("Highkey$Cursor", "lastKey", "I", false)
  | _ => ("Highkey$Cursor", "closed", "Z", false)
def tyX0 : Nat → FieldType := fun k => match k with
  | 0 => .int
  | 1 => .object "Highkey$Page"
  | 2 => .int
  | _ => .boolean
abbrev wsX00 : List Cond := u_ws RX0 TX0 4
theorem nmX0 : ∀ a, a < 4 → ∀ b, b < 4 → a ≠ b → (TX0 a).2.1 ≠ (TX0 b).2.1 := by decide +kernel
theorem tyX0_ok : ∀ k, k < 4 → parseFieldDescriptor (TX0 k).2.2.1 = some (tyX0 k) := by decide +kernel
abbrev cX0_init : ByteArray := prog_2_method_1_code
def yX0_init : MethodName := ⟨RX0, "<init>", "(LHighkey$Page;II)V"⟩
abbrev cX0_walk : ByteArray := prog_2_method_2_code
def yX0_walk : MethodName := ⟨RX0, "walk", "()I"⟩
def RX1 : String := "Highkey$Page"
def TX1 : u_T := fun k => match k with
  | 0 => ("Highkey$Page", "number", "I", true)
  | 1 => ("Highkey$Page", "level", "I", true)
  | 2 => ("Highkey$Page", "low", "I", true)
  | 3 => ("Highkey$Page", "keys", "[I", true)
  | 4 => ("Highkey$Page", "values", "[I", true)
  | 5 => ("Highkey$Page", "children", "[LHighkey$Page;", true)
  | 6 => ("Highkey$Page", "size", "I", false)
  | 7 => ("Highkey$Page", "high", "I", false)
  | 8 => ("Highkey$Page", "right", "LHighkey$Page;", false)
  | 9 => ("Highkey$Page", "dead", "Z", false)
  | _ => ("Highkey$Page", "takenOutIn", "I", false)
def tyX1 : Nat → FieldType := fun k => match k with
  | 0 => .int
  | 1 => .int
  | 2 => .int
  | 3 => .array .int
  | 4 => .array .int
  | 5 => .array (.object "Highkey$Page")
  | 6 => .int
  | 7 => .int
  | 8 => .object "Highkey$Page"
  | 9 => .boolean
  | _ => .int
abbrev wsX10 : List Cond := u_ws RX1 TX1 11
theorem nmX1 : ∀ a, a < 11 → ∀ b, b < 11 → a ≠ b → (TX1 a).2.1 ≠ (TX1 b).2.1 := by decide +kernel
theorem tyX1_ok : ∀ k, k < 11 → parseFieldDescriptor (TX1 k).2.2.1 = some (tyX1 k) := by decide +kernel
abbrev cX1_init : ByteArray := prog_3_method_1_code
def yX1_init : MethodName := ⟨RX1, "<init>", "(IIII)V"⟩
abbrev cX1_has : ByteArray := prog_3_method_2_code
def yX1_has : MethodName := ⟨RX1, "has", "(I)Z"⟩
abbrev cX1_keyIn : ByteArray := prog_3_method_3_code
def yX1_keyIn : MethodName := ⟨RX1, "keyIn", "(I)I"⟩
abbrev cX1_valueIn : ByteArray := prog_3_method_4_code
def yX1_valueIn : MethodName := ⟨RX1, "valueIn", "(I)I"⟩
abbrev cX1_pageIn : ByteArray := prog_3_method_5_code
def yX1_pageIn : MethodName := ⟨RX1, "pageIn", "(I)LHighkey$Page;"⟩
abbrev cX1_countLess : ByteArray := prog_3_method_6_code
def yX1_countLess : MethodName := ⟨RX1, "countLess", "(I)I"⟩
abbrev cX1_placeOf : ByteArray := prog_3_method_7_code
def yX1_placeOf : MethodName := ⟨RX1, "placeOf", "(I)I"⟩
abbrev cX1_leastKeyAbove : ByteArray := prog_3_method_8_code
def yX1_leastKeyAbove : MethodName := ⟨RX1, "leastKeyAbove", "(I)I"⟩
abbrev cX1_onward : ByteArray := prog_3_method_9_code
def yX1_onward : MethodName := ⟨RX1, "onward", "(II)LHighkey$Page;"⟩
abbrev cX1_changeValue : ByteArray := prog_3_method_10_code
def yX1_changeValue : MethodName := ⟨RX1, "changeValue", "(II)I"⟩
abbrev cX1_insert : ByteArray := prog_3_method_11_code
def yX1_insert : MethodName := ⟨RX1, "insert", "(IILHighkey$Page;)V"⟩
abbrev cX1_removeFrom : ByteArray := prog_3_method_12_code
def yX1_removeFrom : MethodName := ⟨RX1, "removeFrom", "(I)V"⟩
abbrev cX1_copy : ByteArray := prog_3_method_13_code
def yX1_copy : MethodName := ⟨RX1, "copy", "(II)V"⟩
abbrev cX1_split : ByteArray := prog_3_method_14_code
def yX1_split : MethodName := ⟨RX1, "split", "(I)LHighkey$Page;"⟩
abbrev cX1_placeOfEmptyLeaf : ByteArray := prog_3_method_15_code
def yX1_placeOfEmptyLeaf : MethodName := ⟨RX1, "placeOfEmptyLeaf", "()I"⟩
def RX2 : String := "Highkey"
def TX2 : u_T := fun k => match k with
  | 0 => ("Highkey", "pageByNumber", "[LHighkey$Page;", true)
  | 1 => ("Highkey", "splitsToPost", "Ljava/util/ArrayList;", true)
  | 2 => ("Highkey", "cursorByNumber", "[LHighkey$Cursor;", true)
  | 3 => ("Highkey", "firstLeaf", "LHighkey$Page;", true)
  | 4 => ("Highkey", "rootPage", "LHighkey$Page;", false)
  | 5 => ("Highkey", "keyCount", "I", false)
  | 6 => ("Highkey", "epochNow", "I", false)
  | _ => ("Highkey", "cursorsOpened", "I", false)
def tyX2 : Nat → FieldType := fun k => match k with
  | 0 => .array (.object "Highkey$Page")
  | 1 => .object "java/util/ArrayList"
  | 2 => .array (.object "Highkey$Cursor")
  | 3 => .object "Highkey$Page"
  | 4 => .object "Highkey$Page"
  | 5 => .int
  | 6 => .int
  | _ => .int
abbrev wsX20 : List Cond := u_ws RX2 TX2 8
theorem nmX2 : ∀ a, a < 8 → ∀ b, b < 8 → a ≠ b → (TX2 a).2.1 ≠ (TX2 b).2.1 := by decide +kernel
theorem tyX2_ok : ∀ k, k < 8 → parseFieldDescriptor (TX2 k).2.2.1 = some (tyX2 k) := by decide +kernel
abbrev cX2_init : ByteArray := prog_1_method_1_code
def yX2_init : MethodName := ⟨RX2, "<init>", "()V"⟩
abbrev cX2_put : ByteArray := prog_1_method_2_code
def yX2_put : MethodName := ⟨RX2, "put", "(II)I"⟩
abbrev cX2_take : ByteArray := prog_1_method_3_code
def yX2_take : MethodName := ⟨RX2, "take", "(I)I"⟩
abbrev cX2_get : ByteArray := prog_1_method_4_code
def yX2_get : MethodName := ⟨RX2, "get", "(I)I"⟩
abbrev cX2_getByLeaves : ByteArray := prog_1_method_5_code
def yX2_getByLeaves : MethodName := ⟨RX2, "getByLeaves", "(I)I"⟩
abbrev cX2_keys : ByteArray := prog_1_method_6_code
def yX2_keys : MethodName := ⟨RX2, "keys", "()I"⟩
abbrev cX2_waiting : ByteArray := prog_1_method_7_code
def yX2_waiting : MethodName := ⟨RX2, "waiting", "()I"⟩
abbrev cX2_post : ByteArray := prog_1_method_8_code
def yX2_post : MethodName := ⟨RX2, "post", "()I"⟩
abbrev cX2_postAll : ByteArray := prog_1_method_9_code
def yX2_postAll : MethodName := ⟨RX2, "postAll", "()I"⟩
abbrev cX2_takeOut : ByteArray := prog_1_method_10_code
def yX2_takeOut : MethodName := ⟨RX2, "takeOut", "()I"⟩
abbrev cX2_recycle : ByteArray := prog_1_method_11_code
def yX2_recycle : MethodName := ⟨RX2, "recycle", "()I"⟩
abbrev cX2_dead : ByteArray := prog_1_method_12_code
def yX2_dead : MethodName := ⟨RX2, "dead", "()I"⟩
abbrev cX2_epoch : ByteArray := prog_1_method_13_code
def yX2_epoch : MethodName := ⟨RX2, "epoch", "()I"⟩
abbrev cX2_pages : ByteArray := prog_1_method_14_code
def yX2_pages : MethodName := ⟨RX2, "pages", "()I"⟩
abbrev cX2_root : ByteArray := prog_1_method_15_code
def yX2_root : MethodName := ⟨RX2, "root", "()I"⟩
abbrev cX2_level : ByteArray := prog_1_method_16_code
def yX2_level : MethodName := ⟨RX2, "level", "(I)I"⟩
abbrev cX2_size : ByteArray := prog_1_method_17_code
def yX2_size : MethodName := ⟨RX2, "size", "(I)I"⟩
abbrev cX2_keyAt : ByteArray := prog_1_method_18_code
def yX2_keyAt : MethodName := ⟨RX2, "keyAt", "(II)I"⟩
abbrev cX2_below : ByteArray := prog_1_method_19_code
def yX2_below : MethodName := ⟨RX2, "below", "(II)I"⟩
abbrev cX2_high : ByteArray := prog_1_method_20_code
def yX2_high : MethodName := ⟨RX2, "high", "(I)I"⟩
abbrev cX2_right : ByteArray := prog_1_method_21_code
def yX2_right : MethodName := ⟨RX2, "right", "(I)I"⟩
abbrev cX2_links : ByteArray := prog_1_method_22_code
def yX2_links : MethodName := ⟨RX2, "links", "(I)I"⟩
abbrev cX2_open : ByteArray := prog_1_method_23_code
def yX2_open : MethodName := ⟨RX2, "open", "(I)I"⟩
abbrev cX2_next : ByteArray := prog_1_method_24_code
def yX2_next : MethodName := ⟨RX2, "next", "(I)I"⟩
abbrev cX2_leafOf : ByteArray := prog_1_method_25_code
def yX2_leafOf : MethodName := ⟨RX2, "leafOf", "(I)I"⟩
abbrev cX2_close : ByteArray := prog_1_method_26_code
def yX2_close : MethodName := ⟨RX2, "close", "(I)I"⟩
abbrev cX2_checkKey : ByteArray := prog_1_method_27_code
def yX2_checkKey : MethodName := ⟨RX2, "checkKey", "(I)V"⟩
abbrev cX2_checkValue : ByteArray := prog_1_method_28_code
def yX2_checkValue : MethodName := ⟨RX2, "checkValue", "(I)V"⟩
abbrev cX2_checkPlace : ByteArray := prog_1_method_29_code
def yX2_checkPlace : MethodName := ⟨RX2, "checkPlace", "(I)V"⟩
abbrev cX2_pageOf : ByteArray := prog_1_method_30_code
def yX2_pageOf : MethodName := ⟨RX2, "pageOf", "(I)LHighkey$Page;"⟩
abbrev cX2_cursorOf : ByteArray := prog_1_method_31_code
def yX2_cursorOf : MethodName := ⟨RX2, "cursorOf", "(I)LHighkey$Cursor;"⟩
abbrev cX2_numberOf : ByteArray := prog_1_method_32_code
def yX2_numberOf : MethodName := ⟨RX2, "numberOf", "(LHighkey$Page;)I"⟩
abbrev cX2_goDown : ByteArray := prog_1_method_33_code
def yX2_goDown : MethodName := ⟨RX2, "goDown", "(II)LHighkey$Page;"⟩
abbrev cX2_lowestFreeNumber : ByteArray := prog_1_method_34_code
def yX2_lowestFreeNumber : MethodName := ⟨RX2, "lowestFreeNumber", "()I"⟩
abbrev cX2_addTo : ByteArray := prog_1_method_35_code
def yX2_addTo : MethodName := ⟨RX2, "addTo", "(LHighkey$Page;IILHighkey$Page;)Z"⟩
abbrev cX2_postLongestWaiting : ByteArray := prog_1_method_36_code
def yX2_postLongestWaiting : MethodName := ⟨RX2, "postLongestWaiting", "()V"⟩
abbrev cX2_growRoot : ByteArray := prog_1_method_37_code
def yX2_growRoot : MethodName := ⟨RX2, "growRoot", "(LHighkey$Page;)V"⟩
abbrev cX2_unlink : ByteArray := prog_1_method_38_code
def yX2_unlink : MethodName := ⟨RX2, "unlink", "(LHighkey$Page;)V"⟩
abbrev cX2_allOpenedAfter : ByteArray := prog_1_method_39_code
def yX2_allOpenedAfter : MethodName := ⟨RX2, "allOpenedAfter", "(I)Z"⟩
def RX3 : String := "HighkeyModel"
def TX3 : u_T := fun k => match k with
  | 0 => ("HighkeyModel", "thrown", "I", false)
  | 1 => ("HighkeyModel", "areThere", "[Z", true)
  | 2 => ("HighkeyModel", "levels", "[I", true)
  | 3 => ("HighkeyModel", "lows", "[I", true)
  | 4 => ("HighkeyModel", "highs", "[I", true)
  | 5 => ("HighkeyModel", "rights", "[I", true)
  | 6 => ("HighkeyModel", "sizes", "[I", true)
  | 7 => ("HighkeyModel", "keys", "[I", true)
  | 8 => ("HighkeyModel", "values", "[I", true)
  | 9 => ("HighkeyModel", "gone", "[I", true)
  | 10 => ("HighkeyModel", "root", "I", false)
  | 11 => ("HighkeyModel", "epoch", "I", false)
  | 12 => ("HighkeyModel", "waiting", "[I", true)
  | 13 => ("HighkeyModel", "waits", "I", false)
  | 14 => ("HighkeyModel", "cursors", "I", false)
  | 15 => ("HighkeyModel", "areOpen", "[Z", true)
  | 16 => ("HighkeyModel", "leaves", "[I", true)
  | 17 => ("HighkeyModel", "lasts", "[I", true)
  | 18 => ("HighkeyModel", "epochs", "[I", true)
  | _ => ("HighkeyModel", "followed", "I", false)
def tyX3 : Nat → FieldType := fun k => match k with
  | 0 => .int
  | 1 => .array .boolean
  | 2 => .array .int
  | 3 => .array .int
  | 4 => .array .int
  | 5 => .array .int
  | 6 => .array .int
  | 7 => .array .int
  | 8 => .array .int
  | 9 => .array .int
  | 10 => .int
  | 11 => .int
  | 12 => .array .int
  | 13 => .int
  | 14 => .int
  | 15 => .array .boolean
  | 16 => .array .int
  | 17 => .array .int
  | 18 => .array .int
  | _ => .int
abbrev wsX30 : List Cond := u_ws RX3 TX3 20
theorem nmX3 : ∀ a, a < 20 → ∀ b, b < 20 → a ≠ b → (TX3 a).2.1 ≠ (TX3 b).2.1 := by decide +kernel
theorem tyX3_ok : ∀ k, k < 20 → parseFieldDescriptor (TX3 k).2.2.1 = some (tyX3 k) := by decide +kernel
abbrev cX3_init : ByteArray := prog_5_method_1_code
def yX3_init : MethodName := ⟨RX3, "<init>", "()V"⟩
abbrev cX3_thrown : ByteArray := prog_5_method_2_code
def yX3_thrown : MethodName := ⟨RX3, "thrown", "()I"⟩
abbrev cX3_holds : ByteArray := prog_5_method_3_code
def yX3_holds : MethodName := ⟨RX3, "holds", "(I)Z"⟩
abbrev cX3_in : ByteArray := prog_5_method_4_code
def yX3_in : MethodName := ⟨RX3, "in", "(III)Z"⟩
abbrev cX3_isKey : ByteArray := prog_5_method_5_code
def yX3_isKey : MethodName := ⟨RX3, "isKey", "(I)Z"⟩
abbrev cX3_made : ByteArray := prog_5_method_6_code
def yX3_made : MethodName := ⟨RX3, "made", "(IIII)I"⟩
abbrev cX3_place : ByteArray := prog_5_method_7_code
def yX3_place : MethodName := ⟨RX3, "place", "(II)I"⟩
abbrev cX3_down : ByteArray := prog_5_method_8_code
def yX3_down : MethodName := ⟨RX3, "down", "(II)I"⟩
abbrev cX3_hasKey : ByteArray := prog_5_method_9_code
def yX3_hasKey : MethodName := ⟨RX3, "hasKey", "(III)Z"⟩
abbrev cX3_sets : ByteArray := prog_5_method_10_code
def yX3_sets : MethodName := ⟨RX3, "sets", "(IIII)V"⟩
abbrev cX3_adds : ByteArray := prog_5_method_11_code
def yX3_adds : MethodName := ⟨RX3, "adds", "(III)V"⟩
abbrev cX3_splits : ByteArray := prog_5_method_12_code
def yX3_splits : MethodName := ⟨RX3, "splits", "(I)V"⟩
abbrev cX3_posts : ByteArray := prog_5_method_13_code
def yX3_posts : MethodName := ⟨RX3, "posts", "()V"⟩
abbrev cX3_put : ByteArray := prog_5_method_14_code
def yX3_put : MethodName := ⟨RX3, "put", "(II)I"⟩
abbrev cX3_removes : ByteArray := prog_5_method_15_code
def yX3_removes : MethodName := ⟨RX3, "removes", "(II)V"⟩
abbrev cX3_valueOf : ByteArray := prog_5_method_16_code
def yX3_valueOf : MethodName := ⟨RX3, "valueOf", "(I)I"⟩
abbrev cX3_take : ByteArray := prog_5_method_17_code
def yX3_take : MethodName := ⟨RX3, "take", "(I)I"⟩
abbrev cX3_get : ByteArray := prog_5_method_18_code
def yX3_get : MethodName := ⟨RX3, "get", "(I)I"⟩
abbrev cX3_getByLeaves : ByteArray := prog_5_method_19_code
def yX3_getByLeaves : MethodName := ⟨RX3, "getByLeaves", "(I)I"⟩
abbrev cX3_keys : ByteArray := prog_5_method_20_code
def yX3_keys : MethodName := ⟨RX3, "keys", "()I"⟩
abbrev cX3_waiting : ByteArray := prog_5_method_21_code
def yX3_waiting : MethodName := ⟨RX3, "waiting", "()I"⟩
abbrev cX3_post : ByteArray := prog_5_method_22_code
def yX3_post : MethodName := ⟨RX3, "post", "()I"⟩
abbrev cX3_postAll : ByteArray := prog_5_method_23_code
def yX3_postAll : MethodName := ⟨RX3, "postAll", "()I"⟩
abbrev cX3_found : ByteArray := prog_5_method_24_code
def yX3_found : MethodName := ⟨RX3, "found", "()I"⟩
abbrev cX3_takeOut : ByteArray := prog_5_method_25_code
def yX3_takeOut : MethodName := ⟨RX3, "takeOut", "()I"⟩
abbrev cX3_mayRecycle : ByteArray := prog_5_method_26_code
def yX3_mayRecycle : MethodName := ⟨RX3, "mayRecycle", "(I)Z"⟩
abbrev cX3_recycle : ByteArray := prog_5_method_27_code
def yX3_recycle : MethodName := ⟨RX3, "recycle", "()I"⟩
abbrev cX3_dead : ByteArray := prog_5_method_28_code
def yX3_dead : MethodName := ⟨RX3, "dead", "()I"⟩
abbrev cX3_epoch : ByteArray := prog_5_method_29_code
def yX3_epoch : MethodName := ⟨RX3, "epoch", "()I"⟩
abbrev cX3_pages : ByteArray := prog_5_method_30_code
def yX3_pages : MethodName := ⟨RX3, "pages", "()I"⟩
abbrev cX3_root : ByteArray := prog_5_method_31_code
def yX3_root : MethodName := ⟨RX3, "root", "()I"⟩
abbrev cX3_isPage : ByteArray := prog_5_method_32_code
def yX3_isPage : MethodName := ⟨RX3, "isPage", "(I)Z"⟩
abbrev cX3_level : ByteArray := prog_5_method_33_code
def yX3_level : MethodName := ⟨RX3, "level", "(I)I"⟩
abbrev cX3_size : ByteArray := prog_5_method_34_code
def yX3_size : MethodName := ⟨RX3, "size", "(I)I"⟩
abbrev cX3_keyAt : ByteArray := prog_5_method_35_code
def yX3_keyAt : MethodName := ⟨RX3, "keyAt", "(II)I"⟩
abbrev cX3_below : ByteArray := prog_5_method_36_code
def yX3_below : MethodName := ⟨RX3, "below", "(II)I"⟩
abbrev cX3_high : ByteArray := prog_5_method_37_code
def yX3_high : MethodName := ⟨RX3, "high", "(I)I"⟩
abbrev cX3_right : ByteArray := prog_5_method_38_code
def yX3_right : MethodName := ⟨RX3, "right", "(I)I"⟩
abbrev cX3_links : ByteArray := prog_5_method_39_code
def yX3_links : MethodName := ⟨RX3, "links", "(I)I"⟩
abbrev cX3_open : ByteArray := prog_5_method_40_code
def yX3_open : MethodName := ⟨RX3, "open", "(I)I"⟩
abbrev cX3_isCursor : ByteArray := prog_5_method_41_code
def yX3_isCursor : MethodName := ⟨RX3, "isCursor", "(I)Z"⟩
abbrev cX3_next : ByteArray := prog_5_method_42_code
def yX3_next : MethodName := ⟨RX3, "next", "(I)I"⟩
abbrev cX3_leafOf : ByteArray := prog_5_method_43_code
def yX3_leafOf : MethodName := ⟨RX3, "leafOf", "(I)I"⟩
abbrev cX3_close : ByteArray := prog_5_method_44_code
def yX3_close : MethodName := ⟨RX3, "close", "(I)I"⟩
def RJx145de : String := "java/io/Serializable"
def TJx145de : u_T := fun k => match k with
  | _ => ("", "", "", false)
def tyJx145de : Nat → FieldType := fun k => match k with
  | _ => .int
abbrev wsJx145de0 : List Cond := u_ws RJx145de TJx145de 0
theorem nmJx145de : ∀ a, a < 0 → ∀ b, b < 0 → a ≠ b → (TJx145de a).2.1 ≠ (TJx145de b).2.1 := by decide +kernel
theorem tyJx145de_ok : ∀ k, k < 0 → parseFieldDescriptor (TJx145de k).2.2.1 = some (tyJx145de k) := by decide +kernel
def RJx8e188 : String := "java/lang/Cloneable"
def TJx8e188 : u_T := fun k => match k with
  | _ => ("", "", "", false)
def tyJx8e188 : Nat → FieldType := fun k => match k with
  | _ => .int
abbrev wsJx8e1880 : List Cond := u_ws RJx8e188 TJx8e188 0
theorem nmJx8e188 : ∀ a, a < 0 → ∀ b, b < 0 → a ≠ b → (TJx8e188 a).2.1 ≠ (TJx8e188 b).2.1 := by decide +kernel
theorem tyJx8e188_ok : ∀ k, k < 0 → parseFieldDescriptor (TJx8e188 k).2.2.1 = some (tyJx8e188 k) := by decide +kernel
def RJxab1ab : String := "java/lang/Iterable"
def TJxab1ab : u_T := fun k => match k with
  | _ => ("", "", "", false)
def tyJxab1ab : Nat → FieldType := fun k => match k with
  | _ => .int
abbrev wsJxab1ab0 : List Cond := u_ws RJxab1ab TJxab1ab 0
theorem nmJxab1ab : ∀ a, a < 0 → ∀ b, b < 0 → a ≠ b → (TJxab1ab a).2.1 ≠ (TJxab1ab b).2.1 := by decide +kernel
theorem tyJxab1ab_ok : ∀ k, k < 0 → parseFieldDescriptor (TJxab1ab k).2.2.1 = some (tyJxab1ab k) := by decide +kernel
def RJ9 : String := "java/lang/Math"
def TJ9 : u_T := fun k => match k with
  | _ => ("", "", "", false)
def tyJ9 : Nat → FieldType := fun k => match k with
  | _ => .int
abbrev wsJ90 : List Cond := u_ws RJ9 TJ9 0
theorem nmJ9 : ∀ a, a < 0 → ∀ b, b < 0 → a ≠ b → (TJ9 a).2.1 ≠ (TJ9 b).2.1 := by decide +kernel
theorem tyJ9_ok : ∀ k, k < 0 → parseFieldDescriptor (TJ9 k).2.2.1 = some (tyJ9 k) := by decide +kernel
abbrev cJ9_max_7cf53 : ByteArray := prog_13_method_65_code
def yJ9_max_7cf53 : MethodName := ⟨RJ9, "max", "(II)I"⟩
abbrev cJ9_min_7cf53 : ByteArray := prog_13_method_69_code
def yJ9_min_7cf53 : MethodName := ⟨RJ9, "min", "(II)I"⟩
def RJ0 : String := "java/lang/String"
def TJ0 : u_T := fun k => match k with
  | _ => ("", "", "", false)
def tyJ0 : Nat → FieldType := fun k => match k with
  | _ => .int
abbrev wsJ00 : List Cond := u_ws RJ0 TJ0 0
theorem nmJ0 : ∀ a, a < 0 → ∀ b, b < 0 → a ≠ b → (TJ0 a).2.1 ≠ (TJ0 b).2.1 := by decide +kernel
theorem tyJ0_ok : ∀ k, k < 0 → parseFieldDescriptor (TJ0 k).2.2.1 = some (tyJ0 k) := by decide +kernel
def RJ10 : String := "java/lang/System"
def TJ10 : u_T := fun k => match k with
  | _ => ("", "", "", false)
def tyJ10 : Nat → FieldType := fun k => match k with
  | _ => .int
abbrev wsJ100 : List Cond := u_ws RJ10 TJ10 0
theorem nmJ10 : ∀ a, a < 0 → ∀ b, b < 0 → a ≠ b → (TJ10 a).2.1 ≠ (TJ10 b).2.1 := by decide +kernel
theorem tyJ10_ok : ∀ k, k < 0 → parseFieldDescriptor (TJ10 k).2.2.1 = some (tyJ10 k) := by decide +kernel
def RJxa1e45 : String := "java/util/AbstractCollection"
def TJxa1e45 : u_T := fun k => match k with
  | _ => ("", "", "", false)
def tyJxa1e45 : Nat → FieldType := fun k => match k with
  | _ => .int
abbrev wsJxa1e450 : List Cond := u_ws RJxa1e45 TJxa1e45 0
theorem nmJxa1e45 : ∀ a, a < 0 → ∀ b, b < 0 → a ≠ b → (TJxa1e45 a).2.1 ≠ (TJxa1e45 b).2.1 := by decide +kernel
theorem tyJxa1e45_ok : ∀ k, k < 0 → parseFieldDescriptor (TJxa1e45 k).2.2.1 = some (tyJxa1e45 k) := by decide +kernel
abbrev cJxa1e45_init_da8c8 : ByteArray := prog_18_method_1_code
def yJxa1e45_init_da8c8 : MethodName := ⟨RJxa1e45, "<init>", "()V"⟩
def RJxc12de : String := "java/util/AbstractList"
def TJxc12de : u_T := fun k => match k with
  | _ => ("", "", "", false)
def tyJxc12de : Nat → FieldType := fun k => match k with
  | _ => .int
abbrev wsJxc12de0 : List Cond := u_ws RJxc12de TJxc12de 0
theorem nmJxc12de : ∀ a, a < 0 → ∀ b, b < 0 → a ≠ b → (TJxc12de a).2.1 ≠ (TJxc12de b).2.1 := by decide +kernel
theorem tyJxc12de_ok : ∀ k, k < 0 → parseFieldDescriptor (TJxc12de k).2.2.1 = some (tyJxc12de k) := by decide +kernel
abbrev cJxc12de_init_da8c8 : ByteArray := prog_19_method_1_code
def yJxc12de_init_da8c8 : MethodName := ⟨RJxc12de, "<init>", "()V"⟩
def RJx4a65c : String := "java/util/ArrayList"
def TJx4a65c : u_T := fun k => match k with
  | 0 => ("java/util/AbstractList", "modCount", "I", false)
  | 1 => ("java/util/ArrayList", "elementData", "[Ljava/lang/Object;", false)
  | _ => ("java/util/ArrayList", "size", "I", false)
def tyJx4a65c : Nat → FieldType := fun k => match k with
  | 0 => .int
  | 1 => .array (.object "java/lang/Object")
  | _ => .int
abbrev wsJx4a65c0 : List Cond := u_ws RJx4a65c TJx4a65c 3
theorem nmJx4a65c : ∀ a, a < 3 → ∀ b, b < 3 → a ≠ b → (TJx4a65c a).2.1 ≠ (TJx4a65c b).2.1 := by decide +kernel
theorem tyJx4a65c_ok : ∀ k, k < 3 → parseFieldDescriptor (TJx4a65c k).2.2.1 = some (tyJx4a65c k) := by decide +kernel
abbrev cJx4a65c_init_da8c8 : ByteArray := prog_20_method_2_code
def yJx4a65c_init_da8c8 : MethodName := ⟨RJx4a65c, "<init>", "()V"⟩
abbrev cJx4a65c_grow_92f84 : ByteArray := prog_20_method_6_code
def yJx4a65c_grow_92f84 : MethodName := ⟨RJx4a65c, "grow", "(I)[Ljava/lang/Object;"⟩
abbrev cJx4a65c_grow_d5877 : ByteArray := prog_20_method_7_code
def yJx4a65c_grow_d5877 : MethodName := ⟨RJx4a65c, "grow", "()[Ljava/lang/Object;"⟩
abbrev cJx4a65c_size_8abf5 : ByteArray := prog_20_method_8_code
def yJx4a65c_size_8abf5 : MethodName := ⟨RJx4a65c, "size", "()I"⟩
abbrev cJx4a65c_isEmpty_aae02 : ByteArray := prog_20_method_9_code
def yJx4a65c_isEmpty_aae02 : MethodName := ⟨RJx4a65c, "isEmpty", "()Z"⟩
abbrev cJx4a65c_add_72be8 : ByteArray := prog_20_method_24_code
def yJx4a65c_add_72be8 : MethodName := ⟨RJx4a65c, "add", "(Ljava/lang/Object;[Ljava/lang/Object;I)V"⟩
abbrev cJx4a65c_add_9ea2d : ByteArray := prog_20_method_25_code
def yJx4a65c_add_9ea2d : MethodName := ⟨RJx4a65c, "add", "(Ljava/lang/Object;)Z"⟩
abbrev cJx4a65c_remove_915e3 : ByteArray := prog_20_method_29_code
def yJx4a65c_remove_915e3 : MethodName := ⟨RJx4a65c, "remove", "(I)Ljava/lang/Object;"⟩
abbrev cJx4a65c_fastRemove_b59b0 : ByteArray := prog_20_method_39_code
def yJx4a65c_fastRemove_b59b0 : MethodName := ⟨RJx4a65c, "fastRemove", "([Ljava/lang/Object;I)V"⟩
def RJ7 : String := "java/util/Arrays"
def TJ7 : u_T := fun k => match k with
  | _ => ("", "", "", false)
def tyJ7 : Nat → FieldType := fun k => match k with
  | _ => .int
abbrev wsJ70 : List Cond := u_ws RJ7 TJ7 0
theorem nmJ7 : ∀ a, a < 0 → ∀ b, b < 0 → a ≠ b → (TJ7 a).2.1 ≠ (TJ7 b).2.1 := by decide +kernel
theorem tyJ7_ok : ∀ k, k < 0 → parseFieldDescriptor (TJ7 k).2.2.1 = some (tyJ7 k) := by decide +kernel
abbrev cJ7_copyOf_1904c : ByteArray := prog_21_method_119_code
def yJ7_copyOf_1904c : MethodName := ⟨RJ7, "copyOf", "([Ljava/lang/Object;I)[Ljava/lang/Object;"⟩
abbrev cJ7_copyOf_6403c : ByteArray := prog_21_method_120_code
def yJ7_copyOf_6403c : MethodName := ⟨RJ7, "copyOf", "([Ljava/lang/Object;ILjava/lang/Class;)[Ljava/lang/Object;"⟩
def RJx5ef63 : String := "java/util/Collection"
def TJx5ef63 : u_T := fun k => match k with
  | _ => ("", "", "", false)
def tyJx5ef63 : Nat → FieldType := fun k => match k with
  | _ => .int
abbrev wsJx5ef630 : List Cond := u_ws RJx5ef63 TJx5ef63 0
theorem nmJx5ef63 : ∀ a, a < 0 → ∀ b, b < 0 → a ≠ b → (TJx5ef63 a).2.1 ≠ (TJx5ef63 b).2.1 := by decide +kernel
theorem tyJx5ef63_ok : ∀ k, k < 0 → parseFieldDescriptor (TJx5ef63 k).2.2.1 = some (tyJx5ef63 k) := by decide +kernel
def RJxbd725 : String := "java/util/List"
def TJxbd725 : u_T := fun k => match k with
  | _ => ("", "", "", false)
def tyJxbd725 : Nat → FieldType := fun k => match k with
  | _ => .int
abbrev wsJxbd7250 : List Cond := u_ws RJxbd725 TJxbd725 0
theorem nmJxbd725 : ∀ a, a < 0 → ∀ b, b < 0 → a ≠ b → (TJxbd725 a).2.1 ≠ (TJxbd725 b).2.1 := by decide +kernel
theorem tyJxbd725_ok : ∀ k, k < 0 → parseFieldDescriptor (TJxbd725 k).2.2.1 = some (tyJxbd725 k) := by decide +kernel
def RJ15 : String := "java/util/Objects"
def TJ15 : u_T := fun k => match k with
  | _ => ("", "", "", false)
def tyJ15 : Nat → FieldType := fun k => match k with
  | _ => .int
abbrev wsJ150 : List Cond := u_ws RJ15 TJ15 0
theorem nmJ15 : ∀ a, a < 0 → ∀ b, b < 0 → a ≠ b → (TJ15 a).2.1 ≠ (TJ15 b).2.1 := by decide +kernel
theorem tyJ15_ok : ∀ k, k < 0 → parseFieldDescriptor (TJ15 k).2.2.1 = some (tyJ15 k) := by decide +kernel
abbrev cJ15_checkIndex_7cf53 : ByteArray := prog_24_method_17_code
def yJ15_checkIndex_7cf53 : MethodName := ⟨RJ15, "checkIndex", "(II)I"⟩
def RJxf0a74 : String := "java/util/RandomAccess"
def TJxf0a74 : u_T := fun k => match k with
  | _ => ("", "", "", false)
def tyJxf0a74 : Nat → FieldType := fun k => match k with
  | _ => .int
abbrev wsJxf0a740 : List Cond := u_ws RJxf0a74 TJxf0a74 0
theorem nmJxf0a74 : ∀ a, a < 0 → ∀ b, b < 0 → a ≠ b → (TJxf0a74 a).2.1 ≠ (TJxf0a74 b).2.1 := by decide +kernel
theorem tyJxf0a74_ok : ∀ k, k < 0 → parseFieldDescriptor (TJxf0a74 k).2.2.1 = some (tyJxf0a74 k) := by decide +kernel
def RJxa66e6 : String := "java/util/SequencedCollection"
def TJxa66e6 : u_T := fun k => match k with
  | _ => ("", "", "", false)
def tyJxa66e6 : Nat → FieldType := fun k => match k with
  | _ => .int
abbrev wsJxa66e60 : List Cond := u_ws RJxa66e6 TJxa66e6 0
theorem nmJxa66e6 : ∀ a, a < 0 → ∀ b, b < 0 → a ≠ b → (TJxa66e6 a).2.1 ≠ (TJxa66e6 b).2.1 := by decide +kernel
theorem tyJxa66e6_ok : ∀ k, k < 0 → parseFieldDescriptor (TJxa66e6 k).2.2.1 = some (tyJxa66e6 k) := by decide +kernel
def RJ8 : String := "jdk/internal/util/ArraysSupport"
def TJ8 : u_T := fun k => match k with
  | _ => ("", "", "", false)
def tyJ8 : Nat → FieldType := fun k => match k with
  | _ => .int
abbrev wsJ80 : List Cond := u_ws RJ8 TJ8 0
theorem nmJ8 : ∀ a, a < 0 → ∀ b, b < 0 → a ≠ b → (TJ8 a).2.1 ≠ (TJ8 b).2.1 := by decide +kernel
theorem tyJ8_ok : ∀ k, k < 0 → parseFieldDescriptor (TJ8 k).2.2.1 = some (tyJ8 k) := by decide +kernel
abbrev cJ8_newLength_cabcc : ByteArray := prog_27_method_27_code
def yJ8_newLength_cabcc : MethodName := ⟨RJ8, "newLength", "(III)I"⟩
abbrev cJ8_hugeLength_7cf53 : ByteArray := prog_27_method_28_code
def yJ8_hugeLength_7cf53 : MethodName := ⟨RJ8, "hugeLength", "(II)I"⟩
def RJ3 : String := "jdk/internal/util/Preconditions"
def TJ3 : u_T := fun k => match k with
  | _ => ("", "", "", false)
def tyJ3 : Nat → FieldType := fun k => match k with
  | _ => .int
abbrev wsJ30 : List Cond := u_ws RJ3 TJ3 0
theorem nmJ3 : ∀ a, a < 0 → ∀ b, b < 0 → a ≠ b → (TJ3 a).2.1 ≠ (TJ3 b).2.1 := by decide +kernel
theorem tyJ3_ok : ∀ k, k < 0 → parseFieldDescriptor (TJ3 k).2.2.1 = some (tyJ3 k) := by decide +kernel
abbrev cJ3_checkIndex_8e157 : ByteArray := prog_28_method_11_code
def yJ3_checkIndex_8e157 : MethodName := ⟨RJ3, "checkIndex", "(IILjava/util/function/BiFunction;)I"⟩
def RL : String := "HighkeyLaw"
abbrev cL_put : ByteArray := method_3_code
def yL_put : MethodName := ⟨RL, "put", "(LHighkey;II[J)I"⟩
abbrev cL_take : ByteArray := method_4_code
def yL_take : MethodName := ⟨RL, "take", "(LHighkey;I[J)I"⟩
abbrev cL_get : ByteArray := method_5_code
def yL_get : MethodName := ⟨RL, "get", "(LHighkey;I[J)I"⟩
abbrev cL_getByLeaves : ByteArray := method_6_code
def yL_getByLeaves : MethodName := ⟨RL, "getByLeaves", "(LHighkey;I[J)I"⟩
abbrev cL_post : ByteArray := method_7_code
def yL_post : MethodName := ⟨RL, "post", "(LHighkey;[J)I"⟩
abbrev cL_level : ByteArray := method_8_code
def yL_level : MethodName := ⟨RL, "level", "(LHighkey;I[J)I"⟩
abbrev cL_size : ByteArray := method_9_code
def yL_size : MethodName := ⟨RL, "size", "(LHighkey;I[J)I"⟩
abbrev cL_keyAt : ByteArray := method_10_code
def yL_keyAt : MethodName := ⟨RL, "keyAt", "(LHighkey;II[J)I"⟩
abbrev cL_below : ByteArray := method_11_code
def yL_below : MethodName := ⟨RL, "below", "(LHighkey;II[J)I"⟩
abbrev cL_high : ByteArray := method_12_code
def yL_high : MethodName := ⟨RL, "high", "(LHighkey;I[J)I"⟩
abbrev cL_right : ByteArray := method_13_code
def yL_right : MethodName := ⟨RL, "right", "(LHighkey;I[J)I"⟩
abbrev cL_links : ByteArray := method_14_code
def yL_links : MethodName := ⟨RL, "links", "(LHighkey;I[J)I"⟩
abbrev cL_open : ByteArray := method_15_code
def yL_open : MethodName := ⟨RL, "open", "(LHighkey;I[J)I"⟩
abbrev cL_next : ByteArray := method_16_code
def yL_next : MethodName := ⟨RL, "next", "(LHighkey;I[J)I"⟩
abbrev cL_leafOf : ByteArray := method_17_code
def yL_leafOf : MethodName := ⟨RL, "leafOf", "(LHighkey;I[J)I"⟩
abbrev cL_close : ByteArray := method_18_code
def yL_close : MethodName := ⟨RL, "close", "(LHighkey;I[J)I"⟩
abbrev cL_law : ByteArray := code
def yL_law : MethodName := ⟨RL, "law", "([I)Z"⟩
abbrev vwCl : List vw_C := [(RJx4a65c, TJx4a65c, 3), (RX0, TX0, 4), (RX1, TX1, 11), (RX2, TX2, 8), (RX3, TX3, 20)]
end
section
/-! the words: one list of all good words of the tables, for every method alike -/
def AL : List Cond := lw_tbl.filter goodWord
theorem al_of {w : Cond} (h : w ∈ lw_tbl) (g : goodWord w = true) : w ∈ AL := List.mem_filter.mpr ⟨h, g⟩
theorem al_sub {w : Cond} (h : w ∈ AL) : w ∈ lw_tbl := (List.mem_filter.mp h).1
theorem al_t {w : Cond} (h : w ∈ tables_1) (g : goodWord w = true) : w ∈ AL := al_of (List.mem_append_right _ h) g
theorem al_1 {w : Cond} (h : w ∈ tables_1_1) (g : goodWord w = true) : w ∈ AL := al_t (List.mem_append_left _ h) g
theorem al_2 {w : Cond} (h : w ∈ tables_1_2) (g : goodWord w = true) : w ∈ AL := al_t (List.mem_append_right _ (List.mem_append_left _ h)) g
theorem al_3 {w : Cond} (h : w ∈ tables_1_3) (g : goodWord w = true) : w ∈ AL := al_t (List.mem_append_right _ (List.mem_append_right _ (List.mem_append_left _ h))) g
theorem al_4 {w : Cond} (h : w ∈ tables_1_4) (g : goodWord w = true) : w ∈ AL := al_t (List.mem_append_right _ (List.mem_append_right _ (List.mem_append_right _ h))) g
theorem al_p {w : Cond} (h : w ∈ k2_sels lw_privs) (g : goodWord w = true) : w ∈ AL := al_of (List.mem_append_left _ h) g
theorem tl_1 {w : Cond} (h : w ∈ tables_1_1) : w ∈ lw_tbl := List.mem_append_right _ (List.mem_append_left _ h)
theorem tl_2 {w : Cond} (h : w ∈ tables_1_2) : w ∈ lw_tbl := List.mem_append_right _ (List.mem_append_right _ (List.mem_append_left _ h))
theorem tl_3 {w : Cond} (h : w ∈ tables_1_3) : w ∈ lw_tbl := List.mem_append_right _ (List.mem_append_right _ (List.mem_append_right _ (List.mem_append_left _ h)))
theorem tl_4 {w : Cond} (h : w ∈ tables_1_4) : w ∈ lw_tbl := List.mem_append_right _ (List.mem_append_right _ (List.mem_append_right _ (List.mem_append_right _ h)))
theorem gAL : GoodIn AL AL := fun w h => ⟨h, good_of_word (List.mem_filter.mp h).2⟩
theorem gAL_tbl : GoodIn lw_tbl AL := fun w h => ⟨al_sub h, good_of_word (List.mem_filter.mp h).2⟩
theorem good_AL {w : Cond} (h : w ∈ AL) : goodWord w = true := (List.mem_filter.mp h).2
theorem kw_0 : (Cond.initialized "HighkeyLaw") ∈ AL := al_1 (List.mem_of_getElem? (i := 0) (by decide +kernel)) (by decide +kernel)
theorem kw_1 : (Cond.initialized "Highkey") ∈ AL := al_1 (List.mem_of_getElem? (i := 1) (by decide +kernel)) (by decide +kernel)
theorem kw_2 : (Cond.initialized "java/util/AbstractCollection") ∈ AL := al_1 (List.mem_of_getElem? (i := 2) (by decide +kernel)) (by decide +kernel)
theorem kw_3 : (Cond.initialized "java/util/AbstractList") ∈ AL := al_1 (List.mem_of_getElem? (i := 3) (by decide +kernel)) (by decide +kernel)
theorem kw_4 : (Cond.initialized "java/util/ArrayList") ∈ AL := al_1 (List.mem_of_getElem? (i := 4) (by decide +kernel)) (by decide +kernel)
theorem kw_5 : (Cond.initialized "Highkey$Page") ∈ AL := al_1 (List.mem_of_getElem? (i := 5) (by decide +kernel)) (by decide +kernel)
theorem kw_6 : (Cond.initialized "HighkeyModel") ∈ AL := al_1 (List.mem_of_getElem? (i := 6) (by decide +kernel)) (by decide +kernel)
theorem kw_7 : (Cond.initialized "java/lang/Throwable") ∈ AL := al_1 (List.mem_of_getElem? (i := 7) (by decide +kernel)) (by decide +kernel)
theorem kw_8 : (Cond.initialized "java/lang/Exception") ∈ AL := al_1 (List.mem_of_getElem? (i := 8) (by decide +kernel)) (by decide +kernel)
theorem kw_9 : (Cond.initialized "java/lang/RuntimeException") ∈ AL := al_1 (List.mem_of_getElem? (i := 9) (by decide +kernel)) (by decide +kernel)
theorem kw_10 : (Cond.initialized "java/lang/IllegalArgumentException") ∈ AL := al_1 (List.mem_of_getElem? (i := 10) (by decide +kernel)) (by decide +kernel)
theorem kw_11 : (Cond.initialized "jdk/internal/util/ArraysSupport") ∈ AL := al_1 (List.mem_of_getElem? (i := 11) (by decide +kernel)) (by decide +kernel)
theorem kw_12 : (Cond.initialized "java/lang/Math") ∈ AL := al_1 (List.mem_of_getElem? (i := 12) (by decide +kernel)) (by decide +kernel)
theorem kw_13 : (Cond.initialized "java/util/Arrays") ∈ AL := al_1 (List.mem_of_getElem? (i := 13) (by decide +kernel)) (by decide +kernel)
theorem kw_14 : (Cond.initialized "java/lang/System") ∈ AL := al_1 (List.mem_of_getElem? (i := 14) (by decide +kernel)) (by decide +kernel)
theorem kw_15 : (Cond.initialized "java/lang/IllegalStateException") ∈ AL := al_1 (List.mem_of_getElem? (i := 15) (by decide +kernel)) (by decide +kernel)
theorem kw_16 : (Cond.initialized "java/util/Objects") ∈ AL := al_1 (List.mem_of_getElem? (i := 16) (by decide +kernel)) (by decide +kernel)
theorem kw_17 : (Cond.initialized "jdk/internal/util/Preconditions") ∈ AL := al_1 (List.mem_of_getElem? (i := 17) (by decide +kernel)) (by decide +kernel)
theorem kw_18 : (Cond.initialized "java/lang/IndexOutOfBoundsException") ∈ AL := al_1 (List.mem_of_getElem? (i := 18) (by decide +kernel)) (by decide +kernel)
theorem kw_19 : (Cond.initialized "Highkey$Cursor") ∈ AL := al_1 (List.mem_of_getElem? (i := 19) (by decide +kernel)) (by decide +kernel)
theorem kw_20 : (Cond.classLink "HighkeyLaw" 8 "Highkey") ∈ AL := al_1 (List.mem_of_getElem? (i := 20) (by decide +kernel)) (by decide +kernel)
theorem kw_21 : (Cond.instantiable "Highkey" 8) ∈ AL := al_1 (List.mem_of_getElem? (i := 21) (by decide +kernel)) (by decide +kernel)
theorem kw_22 : (Cond.methodLink "HighkeyLaw" 66 yX2_init) ∈ AL := al_1 (List.mem_of_getElem? (i := 22) (by decide +kernel)) (by decide +kernel)
theorem kw_23 : (Cond.instanceMethod yX2_init) ∈ AL := al_1 (List.mem_of_getElem? (i := 23) (by decide +kernel)) (by decide +kernel)
theorem kw_24 : (Cond.code yX2_init prog_1_method_1_code 1 none) ∈ AL := al_1 (List.mem_of_getElem? (i := 24) (by decide +kernel)) (by decide +kernel)
theorem kw_25 : (Cond.methodLink "Highkey" 1 ({ cls := "java/lang/Object", name := "<init>", desc := "()V" } : MethodName)) ∈ AL := al_1 (List.mem_of_getElem? (i := 25) (by decide +kernel)) (by decide +kernel)
theorem kw_26 : (Cond.instanceMethod ({ cls := "java/lang/Object", name := "<init>", desc := "()V" } : MethodName)) ∈ AL := al_1 (List.mem_of_getElem? (i := 26) (by decide +kernel)) (by decide +kernel)
theorem kw_27 : (Cond.code ({ cls := "java/lang/Object", name := "<init>", desc := "()V" } : MethodName) object_method_1_code 1 none) ∈ AL := al_1 (List.mem_of_getElem? (i := 27) (by decide +kernel)) (by decide +kernel)
theorem kw_28 : (Cond.classLink "Highkey" 9 "Highkey$Page") ∈ AL := al_1 (List.mem_of_getElem? (i := 28) (by decide +kernel)) (by decide +kernel)
theorem kn_29 : (Cond.arrayOver (FieldType.object "Highkey$Page")) ∈ lw_tbl := tl_1 (List.mem_of_getElem? (i := 29) (by decide +kernel))
theorem kw_30 : (Cond.classLink "Highkey" 15 "java/util/ArrayList") ∈ AL := al_1 (List.mem_of_getElem? (i := 30) (by decide +kernel)) (by decide +kernel)
theorem kw_31 : (Cond.instantiable "java/util/ArrayList" 3) ∈ AL := al_1 (List.mem_of_getElem? (i := 31) (by decide +kernel)) (by decide +kernel)
theorem kw_32 : (Cond.methodLink "Highkey" 17 yJx4a65c_init_da8c8) ∈ AL := al_1 (List.mem_of_getElem? (i := 32) (by decide +kernel)) (by decide +kernel)
theorem kw_33 : (Cond.instanceMethod yJx4a65c_init_da8c8) ∈ AL := al_1 (List.mem_of_getElem? (i := 33) (by decide +kernel)) (by decide +kernel)
theorem kw_34 : (Cond.code yJx4a65c_init_da8c8 prog_20_method_2_code 1 none) ∈ AL := al_1 (List.mem_of_getElem? (i := 34) (by decide +kernel)) (by decide +kernel)
theorem kw_35 : (Cond.methodLink "java/util/ArrayList" 1 yJxc12de_init_da8c8) ∈ AL := al_1 (List.mem_of_getElem? (i := 35) (by decide +kernel)) (by decide +kernel)
theorem kw_36 : (Cond.instanceMethod yJxc12de_init_da8c8) ∈ AL := al_1 (List.mem_of_getElem? (i := 36) (by decide +kernel)) (by decide +kernel)
theorem kw_37 : (Cond.code yJxc12de_init_da8c8 prog_19_method_1_code 1 none) ∈ AL := al_1 (List.mem_of_getElem? (i := 37) (by decide +kernel)) (by decide +kernel)
theorem kw_38 : (Cond.methodLink "java/util/AbstractList" 1 yJxa1e45_init_da8c8) ∈ AL := al_1 (List.mem_of_getElem? (i := 38) (by decide +kernel)) (by decide +kernel)
theorem kw_39 : (Cond.instanceMethod yJxa1e45_init_da8c8) ∈ AL := al_1 (List.mem_of_getElem? (i := 39) (by decide +kernel)) (by decide +kernel)
theorem kw_40 : (Cond.code yJxa1e45_init_da8c8 prog_18_method_1_code 1 none) ∈ AL := al_1 (List.mem_of_getElem? (i := 40) (by decide +kernel)) (by decide +kernel)
theorem kw_41 : (Cond.methodLink "java/util/AbstractCollection" 1 ({ cls := "java/lang/Object", name := "<init>", desc := "()V" } : MethodName)) ∈ AL := al_1 (List.mem_of_getElem? (i := 41) (by decide +kernel)) (by decide +kernel)
theorem kw_42 : (Cond.fieldLink "java/util/ArrayList" 39 "java/util/ArrayList" "DEFAULTCAPACITY_EMPTY_ELEMENTDATA" "[Ljava/lang/Object;") ∈ AL := al_1 (List.mem_of_getElem? (i := 42) (by decide +kernel)) (by decide +kernel)
theorem kw_44 : (Cond.fieldLink "java/util/ArrayList" 9 "java/util/ArrayList" "elementData" "[Ljava/lang/Object;") ∈ AL := al_1 (List.mem_of_getElem? (i := 44) (by decide +kernel)) (by decide +kernel)
theorem kw_45 : (Cond.fieldLink "java/util/ArrayList" 48 "java/util/ArrayList" "size" "I") ∈ AL := al_1 (List.mem_of_getElem? (i := 45) (by decide +kernel)) (by decide +kernel)
theorem kw_46 : (Cond.fieldLink "java/util/AbstractList" 7 "java/util/AbstractList" "modCount" "I") ∈ AL := al_1 (List.mem_of_getElem? (i := 46) (by decide +kernel)) (by decide +kernel)
theorem kw_47 : (Cond.fieldLink "java/util/ArrayList" 63 "java/util/ArrayList" "modCount" "I") ∈ AL := al_1 (List.mem_of_getElem? (i := 47) (by decide +kernel)) (by decide +kernel)
theorem kw_48 : (Cond.sameField "java/util/ArrayList" "java/util/AbstractList" "modCount" "I") ∈ AL := al_1 (List.mem_of_getElem? (i := 48) (by decide +kernel)) (by decide +kernel)
theorem kw_49 : (Cond.lays "java/util/ArrayList" "java/util/ArrayList" "elementData" "[Ljava/lang/Object;") ∈ AL := al_1 (List.mem_of_getElem? (i := 49) (by decide +kernel)) (by decide +kernel)
theorem kw_51 : (Cond.lays "java/util/ArrayList" "java/util/ArrayList" "size" "I") ∈ AL := al_1 (List.mem_of_getElem? (i := 51) (by decide +kernel)) (by decide +kernel)
theorem kw_53 : (Cond.lays "java/util/ArrayList" "java/util/AbstractList" "modCount" "I") ∈ AL := al_1 (List.mem_of_getElem? (i := 53) (by decide +kernel)) (by decide +kernel)
theorem kw_55 : (Cond.superclass "java/util/ArrayList" "java/util/AbstractList") ∈ AL := al_1 (List.mem_of_getElem? (i := 55) (by decide +kernel)) (by decide +kernel)
theorem kw_56 : (Cond.classLink "Highkey" 22 "Highkey$Cursor") ∈ AL := al_1 (List.mem_of_getElem? (i := 56) (by decide +kernel)) (by decide +kernel)
theorem kn_57 : (Cond.arrayOver (FieldType.object "Highkey$Cursor")) ∈ lw_tbl := tl_1 (List.mem_of_getElem? (i := 57) (by decide +kernel))
theorem kw_58 : (Cond.instantiable "Highkey$Page" 11) ∈ AL := al_1 (List.mem_of_getElem? (i := 58) (by decide +kernel)) (by decide +kernel)
theorem kw_59 : (Cond.methodLink "Highkey" 28 yX1_init) ∈ AL := al_1 (List.mem_of_getElem? (i := 59) (by decide +kernel)) (by decide +kernel)
theorem kw_60 : (Cond.instanceMethod yX1_init) ∈ AL := al_1 (List.mem_of_getElem? (i := 60) (by decide +kernel)) (by decide +kernel)
theorem kw_61 : (Cond.code yX1_init prog_3_method_1_code 5 none) ∈ AL := al_1 (List.mem_of_getElem? (i := 61) (by decide +kernel)) (by decide +kernel)
theorem kw_62 : (Cond.methodLink "Highkey$Page" 3 ({ cls := "java/lang/Object", name := "<init>", desc := "()V" } : MethodName)) ∈ AL := al_1 (List.mem_of_getElem? (i := 62) (by decide +kernel)) (by decide +kernel)
theorem kw_63 : (Cond.classLink "Highkey$Page" 9 "Highkey$Page") ∈ AL := al_1 (List.mem_of_getElem? (i := 63) (by decide +kernel)) (by decide +kernel)
theorem kw_64 : (Cond.fieldLink "Highkey$Page" 22 "Highkey$Page" "number" "I") ∈ AL := al_1 (List.mem_of_getElem? (i := 64) (by decide +kernel)) (by decide +kernel)
theorem kw_65 : (Cond.fieldLink "Highkey" 106 "Highkey$Page" "number" "I") ∈ AL := al_1 (List.mem_of_getElem? (i := 65) (by decide +kernel)) (by decide +kernel)
theorem kw_66 : (Cond.fieldLink "Highkey$Page" 26 "Highkey$Page" "level" "I") ∈ AL := al_1 (List.mem_of_getElem? (i := 66) (by decide +kernel)) (by decide +kernel)
theorem kw_67 : (Cond.fieldLink "Highkey" 92 "Highkey$Page" "level" "I") ∈ AL := al_1 (List.mem_of_getElem? (i := 67) (by decide +kernel)) (by decide +kernel)
theorem kw_68 : (Cond.fieldLink "Highkey$Page" 29 "Highkey$Page" "low" "I") ∈ AL := al_1 (List.mem_of_getElem? (i := 68) (by decide +kernel)) (by decide +kernel)
theorem kw_69 : (Cond.fieldLink "Highkey" 202 "Highkey$Page" "low" "I") ∈ AL := al_1 (List.mem_of_getElem? (i := 69) (by decide +kernel)) (by decide +kernel)
theorem kw_70 : (Cond.fieldLink "Highkey$Page" 11 "Highkey$Page" "keys" "[I") ∈ AL := al_1 (List.mem_of_getElem? (i := 70) (by decide +kernel)) (by decide +kernel)
theorem kw_71 : (Cond.fieldLink "Highkey$Page" 15 "Highkey$Page" "values" "[I") ∈ AL := al_1 (List.mem_of_getElem? (i := 71) (by decide +kernel)) (by decide +kernel)
theorem kw_72 : (Cond.fieldLink "Highkey$Page" 18 "Highkey$Page" "children" "[LHighkey$Page;") ∈ AL := al_1 (List.mem_of_getElem? (i := 72) (by decide +kernel)) (by decide +kernel)
theorem kw_73 : (Cond.fieldLink "Highkey$Page" 35 "Highkey$Page" "size" "I") ∈ AL := al_1 (List.mem_of_getElem? (i := 73) (by decide +kernel)) (by decide +kernel)
theorem kw_74 : (Cond.fieldLink "Highkey" 126 "Highkey$Page" "size" "I") ∈ AL := al_1 (List.mem_of_getElem? (i := 74) (by decide +kernel)) (by decide +kernel)
theorem kw_75 : (Cond.fieldLink "Highkey$Page" 32 "Highkey$Page" "high" "I") ∈ AL := al_1 (List.mem_of_getElem? (i := 75) (by decide +kernel)) (by decide +kernel)
theorem kw_76 : (Cond.fieldLink "Highkey" 138 "Highkey$Page" "high" "I") ∈ AL := al_1 (List.mem_of_getElem? (i := 76) (by decide +kernel)) (by decide +kernel)
theorem kw_77 : (Cond.fieldLink "Highkey$Cursor" 28 "Highkey$Page" "right" "LHighkey$Page;") ∈ AL := al_1 (List.mem_of_getElem? (i := 77) (by decide +kernel)) (by decide +kernel)
theorem kw_78 : (Cond.fieldLink "Highkey" 71 "Highkey$Page" "right" "LHighkey$Page;") ∈ AL := al_1 (List.mem_of_getElem? (i := 78) (by decide +kernel)) (by decide +kernel)
theorem kw_79 : (Cond.fieldLink "Highkey$Page" 49 "Highkey$Page" "right" "LHighkey$Page;") ∈ AL := al_1 (List.mem_of_getElem? (i := 79) (by decide +kernel)) (by decide +kernel)
theorem kw_80 : (Cond.fieldLink "Highkey" 109 "Highkey$Page" "dead" "Z") ∈ AL := al_1 (List.mem_of_getElem? (i := 80) (by decide +kernel)) (by decide +kernel)
theorem kw_81 : (Cond.fieldLink "Highkey" 113 "Highkey$Page" "takenOutIn" "I") ∈ AL := al_1 (List.mem_of_getElem? (i := 81) (by decide +kernel)) (by decide +kernel)
theorem kw_82 : (Cond.laysFinal "Highkey$Page" "Highkey$Page" "number" "I") ∈ AL := al_1 (List.mem_of_getElem? (i := 82) (by decide +kernel)) (by decide +kernel)
theorem kw_84 : (Cond.laysFinal "Highkey$Page" "Highkey$Page" "level" "I") ∈ AL := al_1 (List.mem_of_getElem? (i := 84) (by decide +kernel)) (by decide +kernel)
theorem kw_86 : (Cond.laysFinal "Highkey$Page" "Highkey$Page" "low" "I") ∈ AL := al_1 (List.mem_of_getElem? (i := 86) (by decide +kernel)) (by decide +kernel)
theorem kw_88 : (Cond.laysFinal "Highkey$Page" "Highkey$Page" "keys" "[I") ∈ AL := al_1 (List.mem_of_getElem? (i := 88) (by decide +kernel)) (by decide +kernel)
theorem kw_90 : (Cond.laysFinal "Highkey$Page" "Highkey$Page" "values" "[I") ∈ AL := al_1 (List.mem_of_getElem? (i := 90) (by decide +kernel)) (by decide +kernel)
theorem kw_92 : (Cond.laysFinal "Highkey$Page" "Highkey$Page" "children" "[LHighkey$Page;") ∈ AL := al_1 (List.mem_of_getElem? (i := 92) (by decide +kernel)) (by decide +kernel)
theorem kw_94 : (Cond.lays "Highkey$Page" "Highkey$Page" "size" "I") ∈ AL := al_1 (List.mem_of_getElem? (i := 94) (by decide +kernel)) (by decide +kernel)
theorem kw_96 : (Cond.lays "Highkey$Page" "Highkey$Page" "high" "I") ∈ AL := al_1 (List.mem_of_getElem? (i := 96) (by decide +kernel)) (by decide +kernel)
theorem kw_98 : (Cond.lays "Highkey$Page" "Highkey$Page" "right" "LHighkey$Page;") ∈ AL := al_1 (List.mem_of_getElem? (i := 98) (by decide +kernel)) (by decide +kernel)
theorem kw_100 : (Cond.lays "Highkey$Page" "Highkey$Page" "dead" "Z") ∈ AL := al_1 (List.mem_of_getElem? (i := 100) (by decide +kernel)) (by decide +kernel)
theorem kw_102 : (Cond.lays "Highkey$Page" "Highkey$Page" "takenOutIn" "I") ∈ AL := al_1 (List.mem_of_getElem? (i := 102) (by decide +kernel)) (by decide +kernel)
theorem kw_104 : (Cond.superclass "Highkey$Page" "java/lang/Object") ∈ AL := al_1 (List.mem_of_getElem? (i := 104) (by decide +kernel)) (by decide +kernel)
theorem kw_105 : (Cond.arrayClass FieldType.int) ∈ AL := al_1 (List.mem_of_getElem? (i := 105) (by decide +kernel)) (by decide +kernel)
theorem kw_106 : (Cond.fieldLink "Highkey" 11 "Highkey" "pageByNumber" "[LHighkey$Page;") ∈ AL := al_1 (List.mem_of_getElem? (i := 106) (by decide +kernel)) (by decide +kernel)
theorem kw_107 : (Cond.fieldLink "Highkey" 18 "Highkey" "splitsToPost" "Ljava/util/ArrayList;") ∈ AL := al_1 (List.mem_of_getElem? (i := 107) (by decide +kernel)) (by decide +kernel)
theorem kw_108 : (Cond.fieldLink "Highkey" 24 "Highkey" "cursorByNumber" "[LHighkey$Cursor;") ∈ AL := al_1 (List.mem_of_getElem? (i := 108) (by decide +kernel)) (by decide +kernel)
theorem kw_109 : (Cond.fieldLink "Highkey" 31 "Highkey" "firstLeaf" "LHighkey$Page;") ∈ AL := al_1 (List.mem_of_getElem? (i := 109) (by decide +kernel)) (by decide +kernel)
theorem kw_110 : (Cond.fieldLink "Highkey" 35 "Highkey" "rootPage" "LHighkey$Page;") ∈ AL := al_1 (List.mem_of_getElem? (i := 110) (by decide +kernel)) (by decide +kernel)
theorem kw_111 : (Cond.fieldLink "Highkey" 61 "Highkey" "keyCount" "I") ∈ AL := al_1 (List.mem_of_getElem? (i := 111) (by decide +kernel)) (by decide +kernel)
theorem kw_112 : (Cond.fieldLink "Highkey" 120 "Highkey" "epochNow" "I") ∈ AL := al_1 (List.mem_of_getElem? (i := 112) (by decide +kernel)) (by decide +kernel)
theorem kw_113 : (Cond.fieldLink "Highkey" 144 "Highkey" "cursorsOpened" "I") ∈ AL := al_1 (List.mem_of_getElem? (i := 113) (by decide +kernel)) (by decide +kernel)
theorem kw_114 : (Cond.laysFinal "Highkey" "Highkey" "pageByNumber" "[LHighkey$Page;") ∈ AL := al_1 (List.mem_of_getElem? (i := 114) (by decide +kernel)) (by decide +kernel)
theorem kw_116 : (Cond.laysFinal "Highkey" "Highkey" "splitsToPost" "Ljava/util/ArrayList;") ∈ AL := al_1 (List.mem_of_getElem? (i := 116) (by decide +kernel)) (by decide +kernel)
theorem kw_118 : (Cond.laysFinal "Highkey" "Highkey" "cursorByNumber" "[LHighkey$Cursor;") ∈ AL := al_1 (List.mem_of_getElem? (i := 118) (by decide +kernel)) (by decide +kernel)
theorem kw_120 : (Cond.laysFinal "Highkey" "Highkey" "firstLeaf" "LHighkey$Page;") ∈ AL := al_1 (List.mem_of_getElem? (i := 120) (by decide +kernel)) (by decide +kernel)
theorem kw_122 : (Cond.lays "Highkey" "Highkey" "rootPage" "LHighkey$Page;") ∈ AL := al_1 (List.mem_of_getElem? (i := 122) (by decide +kernel)) (by decide +kernel)
theorem kw_124 : (Cond.lays "Highkey" "Highkey" "keyCount" "I") ∈ AL := al_1 (List.mem_of_getElem? (i := 124) (by decide +kernel)) (by decide +kernel)
theorem kw_126 : (Cond.lays "Highkey" "Highkey" "epochNow" "I") ∈ AL := al_1 (List.mem_of_getElem? (i := 126) (by decide +kernel)) (by decide +kernel)
theorem kw_128 : (Cond.lays "Highkey" "Highkey" "cursorsOpened" "I") ∈ AL := al_1 (List.mem_of_getElem? (i := 128) (by decide +kernel)) (by decide +kernel)
theorem kw_130 : (Cond.superclass "Highkey" "java/lang/Object") ∈ AL := al_1 (List.mem_of_getElem? (i := 130) (by decide +kernel)) (by decide +kernel)
theorem kw_131 : (Cond.methodLink "HighkeyLaw" 89 yX2_keys) ∈ AL := al_1 (List.mem_of_getElem? (i := 131) (by decide +kernel)) (by decide +kernel)
theorem kw_132 : (Cond.instanceMethod yX2_keys) ∈ AL := al_1 (List.mem_of_getElem? (i := 132) (by decide +kernel)) (by decide +kernel)
theorem kw_133 : (Cond.selects "Highkey" yX2_keys yX2_keys) ∈ AL := al_1 (List.mem_of_getElem? (i := 133) (by decide +kernel)) (by decide +kernel)
theorem kw_134 : (Cond.code yX2_keys prog_1_method_6_code 1 (some FieldType.int)) ∈ AL := al_1 (List.mem_of_getElem? (i := 134) (by decide +kernel)) (by decide +kernel)
theorem kw_135 : (Cond.methodLink "HighkeyLaw" 93 yX2_waiting) ∈ AL := al_1 (List.mem_of_getElem? (i := 135) (by decide +kernel)) (by decide +kernel)
theorem kw_136 : (Cond.instanceMethod yX2_waiting) ∈ AL := al_1 (List.mem_of_getElem? (i := 136) (by decide +kernel)) (by decide +kernel)
theorem kw_137 : (Cond.selects "Highkey" yX2_waiting yX2_waiting) ∈ AL := al_1 (List.mem_of_getElem? (i := 137) (by decide +kernel)) (by decide +kernel)
theorem kw_138 : (Cond.code yX2_waiting prog_1_method_7_code 1 (some FieldType.int)) ∈ AL := al_1 (List.mem_of_getElem? (i := 138) (by decide +kernel)) (by decide +kernel)
theorem kw_139 : (Cond.methodLink "Highkey" 74 yJx4a65c_size_8abf5) ∈ AL := al_1 (List.mem_of_getElem? (i := 139) (by decide +kernel)) (by decide +kernel)
theorem kw_140 : (Cond.instanceMethod yJx4a65c_size_8abf5) ∈ AL := al_1 (List.mem_of_getElem? (i := 140) (by decide +kernel)) (by decide +kernel)
theorem kw_141 : (Cond.selects "java/util/ArrayList" yJx4a65c_size_8abf5 yJx4a65c_size_8abf5) ∈ AL := al_1 (List.mem_of_getElem? (i := 141) (by decide +kernel)) (by decide +kernel)
theorem kw_142 : (Cond.code yJx4a65c_size_8abf5 prog_20_method_8_code 1 (some FieldType.int)) ∈ AL := al_1 (List.mem_of_getElem? (i := 142) (by decide +kernel)) (by decide +kernel)
theorem kw_143 : (Cond.methodLink "HighkeyLaw" 101 yX2_postAll) ∈ AL := al_1 (List.mem_of_getElem? (i := 143) (by decide +kernel)) (by decide +kernel)
theorem kw_144 : (Cond.instanceMethod yX2_postAll) ∈ AL := al_1 (List.mem_of_getElem? (i := 144) (by decide +kernel)) (by decide +kernel)
theorem kw_145 : (Cond.selects "Highkey" yX2_postAll yX2_postAll) ∈ AL := al_1 (List.mem_of_getElem? (i := 145) (by decide +kernel)) (by decide +kernel)
theorem kw_146 : (Cond.code yX2_postAll prog_1_method_9_code 2 (some FieldType.int)) ∈ AL := al_1 (List.mem_of_getElem? (i := 146) (by decide +kernel)) (by decide +kernel)
theorem kw_147 : (Cond.methodLink "Highkey" 78 yJx4a65c_isEmpty_aae02) ∈ AL := al_1 (List.mem_of_getElem? (i := 147) (by decide +kernel)) (by decide +kernel)
theorem kw_148 : (Cond.instanceMethod yJx4a65c_isEmpty_aae02) ∈ AL := al_1 (List.mem_of_getElem? (i := 148) (by decide +kernel)) (by decide +kernel)
theorem kw_149 : (Cond.selects "java/util/ArrayList" yJx4a65c_isEmpty_aae02 yJx4a65c_isEmpty_aae02) ∈ AL := al_1 (List.mem_of_getElem? (i := 149) (by decide +kernel)) (by decide +kernel)
theorem kw_150 : (Cond.code yJx4a65c_isEmpty_aae02 prog_20_method_9_code 1 (some FieldType.boolean)) ∈ AL := al_1 (List.mem_of_getElem? (i := 150) (by decide +kernel)) (by decide +kernel)
theorem kw_151 : (Cond.methodLink "Highkey" 89 yX2_postLongestWaiting) ∈ AL := al_1 (List.mem_of_getElem? (i := 151) (by decide +kernel)) (by decide +kernel)
theorem kw_153 : (Cond.instanceMethod yX2_postLongestWaiting) ∈ AL := al_1 (List.mem_of_getElem? (i := 153) (by decide +kernel)) (by decide +kernel)
theorem kw_154 : (Cond.code yX2_postLongestWaiting prog_1_method_36_code 2 none) ∈ AL := al_1 (List.mem_of_getElem? (i := 154) (by decide +kernel)) (by decide +kernel)
theorem kw_155 : (Cond.methodLink "Highkey" 195 yJx4a65c_remove_915e3) ∈ AL := al_1 (List.mem_of_getElem? (i := 155) (by decide +kernel)) (by decide +kernel)
theorem kw_156 : (Cond.instanceMethod yJx4a65c_remove_915e3) ∈ AL := al_1 (List.mem_of_getElem? (i := 156) (by decide +kernel)) (by decide +kernel)
theorem kw_157 : (Cond.selects "java/util/ArrayList" yJx4a65c_remove_915e3 yJx4a65c_remove_915e3) ∈ AL := al_1 (List.mem_of_getElem? (i := 157) (by decide +kernel)) (by decide +kernel)
theorem kw_158 : (Cond.code yJx4a65c_remove_915e3 prog_20_method_29_code 4 (some (FieldType.object "java/lang/Object"))) ∈ AL := al_1 (List.mem_of_getElem? (i := 158) (by decide +kernel)) (by decide +kernel)
theorem kw_159 : (Cond.methodLink "java/util/ArrayList" 118 yJ15_checkIndex_7cf53) ∈ AL := al_1 (List.mem_of_getElem? (i := 159) (by decide +kernel)) (by decide +kernel)
theorem kw_160 : (Cond.static yJ15_checkIndex_7cf53) ∈ AL := al_1 (List.mem_of_getElem? (i := 160) (by decide +kernel)) (by decide +kernel)
theorem kw_161 : (Cond.code yJ15_checkIndex_7cf53 prog_24_method_17_code 2 (some FieldType.int)) ∈ AL := al_1 (List.mem_of_getElem? (i := 161) (by decide +kernel)) (by decide +kernel)
theorem kw_162 : (Cond.methodLink "java/util/Objects" 105 yJ3_checkIndex_8e157) ∈ AL := al_1 (List.mem_of_getElem? (i := 162) (by decide +kernel)) (by decide +kernel)
theorem kw_163 : (Cond.static yJ3_checkIndex_8e157) ∈ AL := al_1 (List.mem_of_getElem? (i := 163) (by decide +kernel)) (by decide +kernel)
theorem kw_164 : (Cond.code yJ3_checkIndex_8e157 prog_28_method_11_code 3 (some FieldType.int)) ∈ AL := al_1 (List.mem_of_getElem? (i := 164) (by decide +kernel)) (by decide +kernel)
theorem kw_165 : (Cond.methodLink "java/util/ArrayList" 144 yJx4a65c_fastRemove_b59b0) ∈ AL := al_1 (List.mem_of_getElem? (i := 165) (by decide +kernel)) (by decide +kernel)
theorem kw_167 : (Cond.instanceMethod yJx4a65c_fastRemove_b59b0) ∈ AL := al_1 (List.mem_of_getElem? (i := 167) (by decide +kernel)) (by decide +kernel)
theorem kw_168 : (Cond.code yJx4a65c_fastRemove_b59b0 prog_20_method_39_code 4 none) ∈ AL := al_1 (List.mem_of_getElem? (i := 168) (by decide +kernel)) (by decide +kernel)
theorem kw_169 : (Cond.methodLink "java/util/ArrayList" 112 ({ cls := "java/lang/System", name := "arraycopy", desc := "(Ljava/lang/Object;ILjava/lang/Object;II)V" } : MethodName)) ∈ AL := al_1 (List.mem_of_getElem? (i := 169) (by decide +kernel)) (by decide +kernel)
theorem kw_170 : (Cond.static ({ cls := "java/lang/System", name := "arraycopy", desc := "(Ljava/lang/Object;ILjava/lang/Object;II)V" } : MethodName)) ∈ AL := al_1 (List.mem_of_getElem? (i := 170) (by decide +kernel)) (by decide +kernel)
theorem kw_171 : (Cond.native ({ cls := "java/lang/System", name := "arraycopy", desc := "(Ljava/lang/Object;ILjava/lang/Object;II)V" } : MethodName)) ∈ AL := al_1 (List.mem_of_getElem? (i := 171) (by decide +kernel)) (by decide +kernel)
theorem kw_172 : (Cond.methodLink "Highkey" 199 yX2_growRoot) ∈ AL := al_1 (List.mem_of_getElem? (i := 172) (by decide +kernel)) (by decide +kernel)
theorem kw_174 : (Cond.instanceMethod yX2_growRoot) ∈ AL := al_1 (List.mem_of_getElem? (i := 174) (by decide +kernel)) (by decide +kernel)
theorem kw_175 : (Cond.code yX2_growRoot prog_1_method_37_code 4 none) ∈ AL := al_1 (List.mem_of_getElem? (i := 175) (by decide +kernel)) (by decide +kernel)
theorem kw_176 : (Cond.methodLink "Highkey" 185 yX2_lowestFreeNumber) ∈ AL := al_1 (List.mem_of_getElem? (i := 176) (by decide +kernel)) (by decide +kernel)
theorem kw_178 : (Cond.instanceMethod yX2_lowestFreeNumber) ∈ AL := al_1 (List.mem_of_getElem? (i := 178) (by decide +kernel)) (by decide +kernel)
theorem kw_179 : (Cond.code yX2_lowestFreeNumber prog_1_method_34_code 2 (some FieldType.int)) ∈ AL := al_1 (List.mem_of_getElem? (i := 179) (by decide +kernel)) (by decide +kernel)
theorem kw_180 : (Cond.methodLink "Highkey" 181 yX1_insert) ∈ AL := al_1 (List.mem_of_getElem? (i := 180) (by decide +kernel)) (by decide +kernel)
theorem kw_181 : (Cond.instanceMethod yX1_insert) ∈ AL := al_1 (List.mem_of_getElem? (i := 181) (by decide +kernel)) (by decide +kernel)
theorem kw_182 : (Cond.selects "Highkey$Page" yX1_insert yX1_insert) ∈ AL := al_1 (List.mem_of_getElem? (i := 182) (by decide +kernel)) (by decide +kernel)
theorem kw_183 : (Cond.code yX1_insert prog_3_method_11_code 6 none) ∈ AL := al_1 (List.mem_of_getElem? (i := 183) (by decide +kernel)) (by decide +kernel)
theorem kw_184 : (Cond.methodLink "Highkey$Page" 42 yX1_countLess) ∈ AL := al_1 (List.mem_of_getElem? (i := 184) (by decide +kernel)) (by decide +kernel)
theorem kw_185 : (Cond.instanceMethod yX1_countLess) ∈ AL := al_1 (List.mem_of_getElem? (i := 185) (by decide +kernel)) (by decide +kernel)
theorem kw_186 : (Cond.selects "Highkey$Page" yX1_countLess yX1_countLess) ∈ AL := al_1 (List.mem_of_getElem? (i := 186) (by decide +kernel)) (by decide +kernel)
theorem kw_187 : (Cond.code yX1_countLess prog_3_method_6_code 3 (some FieldType.int)) ∈ AL := al_1 (List.mem_of_getElem? (i := 187) (by decide +kernel)) (by decide +kernel)
theorem kw_188 : (Cond.methodLink "Highkey$Page" 57 yX1_copy) ∈ AL := al_1 (List.mem_of_getElem? (i := 188) (by decide +kernel)) (by decide +kernel)
theorem kw_190 : (Cond.instanceMethod yX1_copy) ∈ AL := al_1 (List.mem_of_getElem? (i := 190) (by decide +kernel)) (by decide +kernel)
theorem kw_191 : (Cond.code yX1_copy prog_3_method_13_code 3 none) ∈ AL := al_1 (List.mem_of_getElem? (i := 191) (by decide +kernel)) (by decide +kernel)
theorem kw_192 : (Cond.methodLink "Highkey" 45 yX2_goDown) ∈ AL := al_1 (List.mem_of_getElem? (i := 192) (by decide +kernel)) (by decide +kernel)
theorem kw_194 : (Cond.instanceMethod yX2_goDown) ∈ AL := al_1 (List.mem_of_getElem? (i := 194) (by decide +kernel)) (by decide +kernel)
theorem kw_195 : (Cond.code yX2_goDown prog_1_method_33_code 6 (some (FieldType.object "Highkey$Page"))) ∈ AL := al_1 (List.mem_of_getElem? (i := 195) (by decide +kernel)) (by decide +kernel)
theorem kw_196 : (Cond.methodLink "Highkey" 141 yX1_onward) ∈ AL := al_1 (List.mem_of_getElem? (i := 196) (by decide +kernel)) (by decide +kernel)
theorem kw_197 : (Cond.instanceMethod yX1_onward) ∈ AL := al_1 (List.mem_of_getElem? (i := 197) (by decide +kernel)) (by decide +kernel)
theorem kw_198 : (Cond.selects "Highkey$Page" yX1_onward yX1_onward) ∈ AL := al_1 (List.mem_of_getElem? (i := 198) (by decide +kernel)) (by decide +kernel)
theorem kw_199 : (Cond.code yX1_onward prog_3_method_9_code 3 (some (FieldType.object "Highkey$Page"))) ∈ AL := al_1 (List.mem_of_getElem? (i := 199) (by decide +kernel)) (by decide +kernel)
theorem kw_200 : (Cond.methodLink "Highkey$Page" 53 yX1_pageIn) ∈ AL := al_1 (List.mem_of_getElem? (i := 200) (by decide +kernel)) (by decide +kernel)
theorem kw_201 : (Cond.instanceMethod yX1_pageIn) ∈ AL := al_1 (List.mem_of_getElem? (i := 201) (by decide +kernel)) (by decide +kernel)
theorem kw_202 : (Cond.selects "Highkey$Page" yX1_pageIn yX1_pageIn) ∈ AL := al_1 (List.mem_of_getElem? (i := 202) (by decide +kernel)) (by decide +kernel)
theorem kw_203 : (Cond.code yX1_pageIn prog_3_method_5_code 2 (some (FieldType.object "Highkey$Page"))) ∈ AL := al_1 (List.mem_of_getElem? (i := 203) (by decide +kernel)) (by decide +kernel)
theorem kw_204 : (Cond.methodLink "Highkey$Page" 38 yX1_has) ∈ AL := al_1 (List.mem_of_getElem? (i := 204) (by decide +kernel)) (by decide +kernel)
theorem kw_205 : (Cond.instanceMethod yX1_has) ∈ AL := al_1 (List.mem_of_getElem? (i := 205) (by decide +kernel)) (by decide +kernel)
theorem kw_206 : (Cond.selects "Highkey$Page" yX1_has yX1_has) ∈ AL := al_1 (List.mem_of_getElem? (i := 206) (by decide +kernel)) (by decide +kernel)
theorem kw_207 : (Cond.code yX1_has prog_3_method_2_code 2 (some FieldType.boolean)) ∈ AL := al_1 (List.mem_of_getElem? (i := 207) (by decide +kernel)) (by decide +kernel)
theorem kw_208 : (Cond.methodLink "Highkey" 57 yX2_addTo) ∈ AL := al_1 (List.mem_of_getElem? (i := 208) (by decide +kernel)) (by decide +kernel)
theorem kw_210 : (Cond.instanceMethod yX2_addTo) ∈ AL := al_1 (List.mem_of_getElem? (i := 210) (by decide +kernel)) (by decide +kernel)
theorem kw_211 : (Cond.code yX2_addTo prog_1_method_35_code 7 (some FieldType.boolean)) ∈ AL := al_1 (List.mem_of_getElem? (i := 211) (by decide +kernel)) (by decide +kernel)
theorem kw_212 : (Cond.methodLink "Highkey" 188 yX1_split) ∈ AL := al_1 (List.mem_of_getElem? (i := 212) (by decide +kernel)) (by decide +kernel)
theorem kw_213 : (Cond.instanceMethod yX1_split) ∈ AL := al_1 (List.mem_of_getElem? (i := 213) (by decide +kernel)) (by decide +kernel)
theorem kw_214 : (Cond.selects "Highkey$Page" yX1_split yX1_split) ∈ AL := al_1 (List.mem_of_getElem? (i := 214) (by decide +kernel)) (by decide +kernel)
theorem kw_215 : (Cond.code yX1_split prog_3_method_14_code 4 (some (FieldType.object "Highkey$Page"))) ∈ AL := al_1 (List.mem_of_getElem? (i := 215) (by decide +kernel)) (by decide +kernel)
theorem kw_216 : (Cond.methodLink "Highkey$Page" 46 yX1_keyIn) ∈ AL := al_1 (List.mem_of_getElem? (i := 216) (by decide +kernel)) (by decide +kernel)
theorem kw_217 : (Cond.instanceMethod yX1_keyIn) ∈ AL := al_1 (List.mem_of_getElem? (i := 217) (by decide +kernel)) (by decide +kernel)
theorem kw_218 : (Cond.selects "Highkey$Page" yX1_keyIn yX1_keyIn) ∈ AL := al_1 (List.mem_of_getElem? (i := 218) (by decide +kernel)) (by decide +kernel)
theorem kw_219 : (Cond.code yX1_keyIn prog_3_method_3_code 2 (some FieldType.int)) ∈ AL := al_1 (List.mem_of_getElem? (i := 219) (by decide +kernel)) (by decide +kernel)
theorem kw_220 : (Cond.methodLink "Highkey$Page" 61 yX1_init) ∈ AL := al_1 (List.mem_of_getElem? (i := 220) (by decide +kernel)) (by decide +kernel)
theorem kw_221 : (Cond.methodLink "Highkey$Page" 64 yX1_insert) ∈ AL := al_1 (List.mem_of_getElem? (i := 221) (by decide +kernel)) (by decide +kernel)
theorem kw_222 : (Cond.methodLink "Highkey" 191 yJx4a65c_add_9ea2d) ∈ AL := al_1 (List.mem_of_getElem? (i := 222) (by decide +kernel)) (by decide +kernel)
theorem kw_223 : (Cond.instanceMethod yJx4a65c_add_9ea2d) ∈ AL := al_1 (List.mem_of_getElem? (i := 223) (by decide +kernel)) (by decide +kernel)
theorem kw_224 : (Cond.selects "java/util/ArrayList" yJx4a65c_add_9ea2d yJx4a65c_add_9ea2d) ∈ AL := al_1 (List.mem_of_getElem? (i := 224) (by decide +kernel)) (by decide +kernel)
theorem kw_225 : (Cond.code yJx4a65c_add_9ea2d prog_20_method_25_code 2 (some FieldType.boolean)) ∈ AL := al_1 (List.mem_of_getElem? (i := 225) (by decide +kernel)) (by decide +kernel)
theorem kw_226 : (Cond.methodLink "java/util/ArrayList" 131 yJx4a65c_add_72be8) ∈ AL := al_1 (List.mem_of_getElem? (i := 226) (by decide +kernel)) (by decide +kernel)
theorem kw_228 : (Cond.instanceMethod yJx4a65c_add_72be8) ∈ AL := al_1 (List.mem_of_getElem? (i := 228) (by decide +kernel)) (by decide +kernel)
theorem kw_229 : (Cond.code yJx4a65c_add_72be8 prog_20_method_24_code 4 none) ∈ AL := al_1 (List.mem_of_getElem? (i := 229) (by decide +kernel)) (by decide +kernel)
theorem kw_230 : (Cond.methodLink "java/util/ArrayList" 129 yJx4a65c_grow_d5877) ∈ AL := al_1 (List.mem_of_getElem? (i := 230) (by decide +kernel)) (by decide +kernel)
theorem kw_232 : (Cond.instanceMethod yJx4a65c_grow_d5877) ∈ AL := al_1 (List.mem_of_getElem? (i := 232) (by decide +kernel)) (by decide +kernel)
theorem kw_233 : (Cond.code yJx4a65c_grow_d5877 prog_20_method_7_code 1 (some (FieldType.array (FieldType.object "java/lang/Object")))) ∈ AL := al_1 (List.mem_of_getElem? (i := 233) (by decide +kernel)) (by decide +kernel)
theorem kw_234 : (Cond.methodLink "java/util/ArrayList" 69 yJx4a65c_grow_92f84) ∈ AL := al_1 (List.mem_of_getElem? (i := 234) (by decide +kernel)) (by decide +kernel)
theorem kw_236 : (Cond.instanceMethod yJx4a65c_grow_92f84) ∈ AL := al_1 (List.mem_of_getElem? (i := 236) (by decide +kernel)) (by decide +kernel)
theorem kw_237 : (Cond.code yJx4a65c_grow_92f84 prog_20_method_6_code 4 (some (FieldType.array (FieldType.object "java/lang/Object")))) ∈ AL := al_1 (List.mem_of_getElem? (i := 237) (by decide +kernel)) (by decide +kernel)
theorem kw_238 : (Cond.methodLink "java/util/ArrayList" 73 yJ8_newLength_cabcc) ∈ AL := al_1 (List.mem_of_getElem? (i := 238) (by decide +kernel)) (by decide +kernel)
theorem kw_239 : (Cond.static yJ8_newLength_cabcc) ∈ AL := al_1 (List.mem_of_getElem? (i := 239) (by decide +kernel)) (by decide +kernel)
theorem kw_240 : (Cond.code yJ8_newLength_cabcc prog_27_method_27_code 4 (some FieldType.int)) ∈ AL := al_2 (List.mem_of_getElem? (i := 0) (by decide +kernel)) (by decide +kernel)
theorem kw_241 : (Cond.methodLink "jdk/internal/util/ArraysSupport" 194 yJ9_max_7cf53) ∈ AL := al_2 (List.mem_of_getElem? (i := 1) (by decide +kernel)) (by decide +kernel)
theorem kw_242 : (Cond.static yJ9_max_7cf53) ∈ AL := al_2 (List.mem_of_getElem? (i := 2) (by decide +kernel)) (by decide +kernel)
theorem kw_243 : (Cond.code yJ9_max_7cf53 prog_13_method_65_code 2 (some FieldType.int)) ∈ AL := al_2 (List.mem_of_getElem? (i := 3) (by decide +kernel)) (by decide +kernel)
theorem kw_244 : (Cond.constant "jdk/internal/util/ArraysSupport" 200 (2147483639 : Int32)) ∈ AL := al_2 (List.mem_of_getElem? (i := 4) (by decide +kernel)) (by decide +kernel)
theorem kw_245 : (Cond.methodLink "jdk/internal/util/ArraysSupport" 201 yJ8_hugeLength_7cf53) ∈ AL := al_2 (List.mem_of_getElem? (i := 5) (by decide +kernel)) (by decide +kernel)
theorem kw_246 : (Cond.static yJ8_hugeLength_7cf53) ∈ AL := al_2 (List.mem_of_getElem? (i := 6) (by decide +kernel)) (by decide +kernel)
theorem kw_247 : (Cond.code yJ8_hugeLength_7cf53 prog_27_method_28_code 3 (some FieldType.int)) ∈ AL := al_2 (List.mem_of_getElem? (i := 7) (by decide +kernel)) (by decide +kernel)
theorem kw_248 : (Cond.methodLink "java/util/ArrayList" 66 yJ7_copyOf_1904c) ∈ AL := al_2 (List.mem_of_getElem? (i := 8) (by decide +kernel)) (by decide +kernel)
theorem kw_249 : (Cond.static yJ7_copyOf_1904c) ∈ AL := al_2 (List.mem_of_getElem? (i := 9) (by decide +kernel)) (by decide +kernel)
theorem kw_250 : (Cond.code yJ7_copyOf_1904c prog_21_method_119_code 2 (some (FieldType.array (FieldType.object "java/lang/Object")))) ∈ AL := al_2 (List.mem_of_getElem? (i := 10) (by decide +kernel)) (by decide +kernel)
theorem kw_251 : (Cond.methodLink "java/util/Arrays" 86 ({ cls := "java/lang/Object", name := "getClass", desc := "()Ljava/lang/Class;" } : MethodName)) ∈ AL := al_2 (List.mem_of_getElem? (i := 11) (by decide +kernel)) (by decide +kernel)
theorem kw_252 : (Cond.instanceMethod ({ cls := "java/lang/Object", name := "getClass", desc := "()Ljava/lang/Class;" } : MethodName)) ∈ AL := al_2 (List.mem_of_getElem? (i := 12) (by decide +kernel)) (by decide +kernel)
theorem kw_253 : (Cond.sameMethod "java/lang/Object" "java/lang/Object" "getClass" "()Ljava/lang/Class;") ∈ AL := al_2 (List.mem_of_getElem? (i := 13) (by decide +kernel)) (by decide +kernel)
theorem kw_254 : (Cond.selects "Highkey" ({ cls := "java/lang/Object", name := "getClass", desc := "()Ljava/lang/Class;" } : MethodName) ({ cls := "java/lang/Object", name := "getClass", desc := "()Ljava/lang/Class;" } : MethodName)) ∈ AL := al_2 (List.mem_of_getElem? (i := 14) (by decide +kernel)) (by decide +kernel)
theorem kw_255 : (Cond.selects "Highkey$Cursor" ({ cls := "java/lang/Object", name := "getClass", desc := "()Ljava/lang/Class;" } : MethodName) ({ cls := "java/lang/Object", name := "getClass", desc := "()Ljava/lang/Class;" } : MethodName)) ∈ AL := al_2 (List.mem_of_getElem? (i := 15) (by decide +kernel)) (by decide +kernel)
theorem kw_256 : (Cond.selects "Highkey$Page" ({ cls := "java/lang/Object", name := "getClass", desc := "()Ljava/lang/Class;" } : MethodName) ({ cls := "java/lang/Object", name := "getClass", desc := "()Ljava/lang/Class;" } : MethodName)) ∈ AL := al_2 (List.mem_of_getElem? (i := 16) (by decide +kernel)) (by decide +kernel)
theorem kw_257 : (Cond.selects "HighkeyModel" ({ cls := "java/lang/Object", name := "getClass", desc := "()Ljava/lang/Class;" } : MethodName) ({ cls := "java/lang/Object", name := "getClass", desc := "()Ljava/lang/Class;" } : MethodName)) ∈ AL := al_2 (List.mem_of_getElem? (i := 17) (by decide +kernel)) (by decide +kernel)
theorem kw_258 : (Cond.selects "java/lang/IllegalArgumentException" ({ cls := "java/lang/Object", name := "getClass", desc := "()Ljava/lang/Class;" } : MethodName) ({ cls := "java/lang/Object", name := "getClass", desc := "()Ljava/lang/Class;" } : MethodName)) ∈ AL := al_2 (List.mem_of_getElem? (i := 18) (by decide +kernel)) (by decide +kernel)
theorem kw_259 : (Cond.selects "java/lang/IllegalStateException" ({ cls := "java/lang/Object", name := "getClass", desc := "()Ljava/lang/Class;" } : MethodName) ({ cls := "java/lang/Object", name := "getClass", desc := "()Ljava/lang/Class;" } : MethodName)) ∈ AL := al_2 (List.mem_of_getElem? (i := 19) (by decide +kernel)) (by decide +kernel)
theorem kw_260 : (Cond.selects "java/lang/IndexOutOfBoundsException" ({ cls := "java/lang/Object", name := "getClass", desc := "()Ljava/lang/Class;" } : MethodName) ({ cls := "java/lang/Object", name := "getClass", desc := "()Ljava/lang/Class;" } : MethodName)) ∈ AL := al_2 (List.mem_of_getElem? (i := 20) (by decide +kernel)) (by decide +kernel)
theorem kw_261 : (Cond.selects "java/util/ArrayList" ({ cls := "java/lang/Object", name := "getClass", desc := "()Ljava/lang/Class;" } : MethodName) ({ cls := "java/lang/Object", name := "getClass", desc := "()Ljava/lang/Class;" } : MethodName)) ∈ AL := al_2 (List.mem_of_getElem? (i := 21) (by decide +kernel)) (by decide +kernel)
theorem kw_262 : (Cond.native ({ cls := "java/lang/Object", name := "getClass", desc := "()Ljava/lang/Class;" } : MethodName)) ∈ AL := al_2 (List.mem_of_getElem? (i := 22) (by decide +kernel)) (by decide +kernel)
theorem kw_263 : (Cond.methodLink "java/util/Arrays" 300 yJ7_copyOf_6403c) ∈ AL := al_2 (List.mem_of_getElem? (i := 23) (by decide +kernel)) (by decide +kernel)
theorem kw_264 : (Cond.static yJ7_copyOf_6403c) ∈ AL := al_2 (List.mem_of_getElem? (i := 24) (by decide +kernel)) (by decide +kernel)
theorem kw_265 : (Cond.code yJ7_copyOf_6403c prog_21_method_120_code 4 (some (FieldType.array (FieldType.object "java/lang/Object")))) ∈ AL := al_2 (List.mem_of_getElem? (i := 25) (by decide +kernel)) (by decide +kernel)
theorem kw_266 : (Cond.classLink "java/util/Arrays" 110 "[Ljava/lang/Object;") ∈ AL := al_2 (List.mem_of_getElem? (i := 26) (by decide +kernel)) (by decide +kernel)
theorem kn_267 : (Cond.arrayOver (FieldType.object "java/lang/Object")) ∈ lw_tbl := tl_2 (List.mem_of_getElem? (i := 27) (by decide +kernel))
theorem kw_268 : (Cond.classLink "java/util/Arrays" 2 "java/lang/Object") ∈ AL := al_2 (List.mem_of_getElem? (i := 28) (by decide +kernel)) (by decide +kernel)
theorem kw_269 : (Cond.methodLink "java/util/Arrays" 304 yJ9_min_7cf53) ∈ AL := al_2 (List.mem_of_getElem? (i := 29) (by decide +kernel)) (by decide +kernel)
theorem kw_270 : (Cond.static yJ9_min_7cf53) ∈ AL := al_2 (List.mem_of_getElem? (i := 30) (by decide +kernel)) (by decide +kernel)
theorem kw_271 : (Cond.code yJ9_min_7cf53 prog_13_method_69_code 2 (some FieldType.int)) ∈ AL := al_2 (List.mem_of_getElem? (i := 31) (by decide +kernel)) (by decide +kernel)
theorem kw_272 : (Cond.methodLink "java/util/Arrays" 150 ({ cls := "java/lang/System", name := "arraycopy", desc := "(Ljava/lang/Object;ILjava/lang/Object;II)V" } : MethodName)) ∈ AL := al_2 (List.mem_of_getElem? (i := 32) (by decide +kernel)) (by decide +kernel)
theorem kw_273 : (Cond.methodLink "java/util/ArrayList" 79 yJ9_max_7cf53) ∈ AL := al_2 (List.mem_of_getElem? (i := 33) (by decide +kernel)) (by decide +kernel)
theorem kw_274 : (Cond.classLink "java/util/ArrayList" 7 "java/lang/Object") ∈ AL := al_2 (List.mem_of_getElem? (i := 34) (by decide +kernel)) (by decide +kernel)
theorem kw_275 : (Cond.methodLink "HighkeyLaw" 105 yX2_takeOut) ∈ AL := al_2 (List.mem_of_getElem? (i := 35) (by decide +kernel)) (by decide +kernel)
theorem kw_276 : (Cond.instanceMethod yX2_takeOut) ∈ AL := al_2 (List.mem_of_getElem? (i := 36) (by decide +kernel)) (by decide +kernel)
theorem kw_277 : (Cond.selects "Highkey" yX2_takeOut yX2_takeOut) ∈ AL := al_2 (List.mem_of_getElem? (i := 37) (by decide +kernel)) (by decide +kernel)
theorem kw_278 : (Cond.code yX2_takeOut prog_1_method_10_code 4 (some FieldType.int)) ∈ AL := al_2 (List.mem_of_getElem? (i := 38) (by decide +kernel)) (by decide +kernel)
theorem kw_279 : (Cond.methodLink "Highkey" 95 yX1_placeOfEmptyLeaf) ∈ AL := al_2 (List.mem_of_getElem? (i := 39) (by decide +kernel)) (by decide +kernel)
theorem kw_280 : (Cond.instanceMethod yX1_placeOfEmptyLeaf) ∈ AL := al_2 (List.mem_of_getElem? (i := 40) (by decide +kernel)) (by decide +kernel)
theorem kw_281 : (Cond.selects "Highkey$Page" yX1_placeOfEmptyLeaf yX1_placeOfEmptyLeaf) ∈ AL := al_2 (List.mem_of_getElem? (i := 41) (by decide +kernel)) (by decide +kernel)
theorem kw_282 : (Cond.code yX1_placeOfEmptyLeaf prog_3_method_15_code 3 (some FieldType.int)) ∈ AL := al_2 (List.mem_of_getElem? (i := 42) (by decide +kernel)) (by decide +kernel)
theorem kw_283 : (Cond.methodLink "Highkey" 98 yX1_pageIn) ∈ AL := al_2 (List.mem_of_getElem? (i := 43) (by decide +kernel)) (by decide +kernel)
theorem kw_284 : (Cond.methodLink "Highkey" 68 yX1_removeFrom) ∈ AL := al_2 (List.mem_of_getElem? (i := 44) (by decide +kernel)) (by decide +kernel)
theorem kw_285 : (Cond.instanceMethod yX1_removeFrom) ∈ AL := al_2 (List.mem_of_getElem? (i := 45) (by decide +kernel)) (by decide +kernel)
theorem kw_286 : (Cond.selects "Highkey$Page" yX1_removeFrom yX1_removeFrom) ∈ AL := al_2 (List.mem_of_getElem? (i := 46) (by decide +kernel)) (by decide +kernel)
theorem kw_287 : (Cond.code yX1_removeFrom prog_3_method_12_code 3 none) ∈ AL := al_2 (List.mem_of_getElem? (i := 47) (by decide +kernel)) (by decide +kernel)
theorem kw_288 : (Cond.methodLink "Highkey" 102 yX2_unlink) ∈ AL := al_2 (List.mem_of_getElem? (i := 48) (by decide +kernel)) (by decide +kernel)
theorem kw_290 : (Cond.instanceMethod yX2_unlink) ∈ AL := al_2 (List.mem_of_getElem? (i := 50) (by decide +kernel)) (by decide +kernel)
theorem kw_291 : (Cond.code yX2_unlink prog_1_method_38_code 3 none) ∈ AL := al_2 (List.mem_of_getElem? (i := 51) (by decide +kernel)) (by decide +kernel)
theorem kw_292 : (Cond.methodLink "HighkeyLaw" 109 yX2_recycle) ∈ AL := al_2 (List.mem_of_getElem? (i := 52) (by decide +kernel)) (by decide +kernel)
theorem kw_293 : (Cond.instanceMethod yX2_recycle) ∈ AL := al_2 (List.mem_of_getElem? (i := 53) (by decide +kernel)) (by decide +kernel)
theorem kw_294 : (Cond.selects "Highkey" yX2_recycle yX2_recycle) ∈ AL := al_2 (List.mem_of_getElem? (i := 54) (by decide +kernel)) (by decide +kernel)
theorem kw_295 : (Cond.code yX2_recycle prog_1_method_11_code 4 (some FieldType.int)) ∈ AL := al_2 (List.mem_of_getElem? (i := 55) (by decide +kernel)) (by decide +kernel)
theorem kw_296 : (Cond.methodLink "Highkey" 116 yX2_allOpenedAfter) ∈ AL := al_2 (List.mem_of_getElem? (i := 56) (by decide +kernel)) (by decide +kernel)
theorem kw_298 : (Cond.instanceMethod yX2_allOpenedAfter) ∈ AL := al_2 (List.mem_of_getElem? (i := 58) (by decide +kernel)) (by decide +kernel)
theorem kw_299 : (Cond.code yX2_allOpenedAfter prog_1_method_39_code 6 (some FieldType.boolean)) ∈ AL := al_2 (List.mem_of_getElem? (i := 59) (by decide +kernel)) (by decide +kernel)
theorem kw_300 : (Cond.methodLink "HighkeyLaw" 113 yX2_dead) ∈ AL := al_2 (List.mem_of_getElem? (i := 60) (by decide +kernel)) (by decide +kernel)
theorem kw_301 : (Cond.instanceMethod yX2_dead) ∈ AL := al_2 (List.mem_of_getElem? (i := 61) (by decide +kernel)) (by decide +kernel)
theorem kw_302 : (Cond.selects "Highkey" yX2_dead yX2_dead) ∈ AL := al_2 (List.mem_of_getElem? (i := 62) (by decide +kernel)) (by decide +kernel)
theorem kw_303 : (Cond.code yX2_dead prog_1_method_12_code 6 (some FieldType.int)) ∈ AL := al_2 (List.mem_of_getElem? (i := 63) (by decide +kernel)) (by decide +kernel)
theorem kw_304 : (Cond.methodLink "HighkeyLaw" 117 yX2_epoch) ∈ AL := al_2 (List.mem_of_getElem? (i := 64) (by decide +kernel)) (by decide +kernel)
theorem kw_305 : (Cond.instanceMethod yX2_epoch) ∈ AL := al_2 (List.mem_of_getElem? (i := 65) (by decide +kernel)) (by decide +kernel)
theorem kw_306 : (Cond.selects "Highkey" yX2_epoch yX2_epoch) ∈ AL := al_2 (List.mem_of_getElem? (i := 66) (by decide +kernel)) (by decide +kernel)
theorem kw_307 : (Cond.code yX2_epoch prog_1_method_13_code 1 (some FieldType.int)) ∈ AL := al_2 (List.mem_of_getElem? (i := 67) (by decide +kernel)) (by decide +kernel)
theorem kw_308 : (Cond.methodLink "HighkeyLaw" 121 yX2_pages) ∈ AL := al_2 (List.mem_of_getElem? (i := 68) (by decide +kernel)) (by decide +kernel)
theorem kw_309 : (Cond.instanceMethod yX2_pages) ∈ AL := al_2 (List.mem_of_getElem? (i := 69) (by decide +kernel)) (by decide +kernel)
theorem kw_310 : (Cond.selects "Highkey" yX2_pages yX2_pages) ∈ AL := al_2 (List.mem_of_getElem? (i := 70) (by decide +kernel)) (by decide +kernel)
theorem kw_311 : (Cond.code yX2_pages prog_1_method_14_code 6 (some FieldType.int)) ∈ AL := al_2 (List.mem_of_getElem? (i := 71) (by decide +kernel)) (by decide +kernel)
theorem kw_312 : (Cond.methodLink "HighkeyLaw" 125 yX2_root) ∈ AL := al_2 (List.mem_of_getElem? (i := 72) (by decide +kernel)) (by decide +kernel)
theorem kw_313 : (Cond.instanceMethod yX2_root) ∈ AL := al_2 (List.mem_of_getElem? (i := 73) (by decide +kernel)) (by decide +kernel)
theorem kw_314 : (Cond.selects "Highkey" yX2_root yX2_root) ∈ AL := al_2 (List.mem_of_getElem? (i := 74) (by decide +kernel)) (by decide +kernel)
theorem kw_315 : (Cond.code yX2_root prog_1_method_15_code 1 (some FieldType.int)) ∈ AL := al_2 (List.mem_of_getElem? (i := 75) (by decide +kernel)) (by decide +kernel)
theorem kw_316 : (Cond.methodLink "HighkeyLaw" 70 yL_put) ∈ AL := al_2 (List.mem_of_getElem? (i := 76) (by decide +kernel)) (by decide +kernel)
theorem kw_317 : (Cond.static yL_put) ∈ AL := al_2 (List.mem_of_getElem? (i := 77) (by decide +kernel)) (by decide +kernel)
theorem kw_318 : (Cond.codeWith yL_put method_3_code 5 (some FieldType.int) [(0, 10, 13, 13)]) ∈ AL := al_2 (List.mem_of_getElem? (i := 78) (by decide +kernel)) (by decide +kernel)
theorem kw_319 : (Cond.classLink "HighkeyLaw" 13 "java/lang/IllegalArgumentException") ∈ AL := al_2 (List.mem_of_getElem? (i := 79) (by decide +kernel)) (by decide +kernel)
theorem kw_320 : (Cond.methodLink "HighkeyLaw" 7 yX2_put) ∈ AL := al_2 (List.mem_of_getElem? (i := 80) (by decide +kernel)) (by decide +kernel)
theorem kw_321 : (Cond.instanceMethod yX2_put) ∈ AL := al_2 (List.mem_of_getElem? (i := 81) (by decide +kernel)) (by decide +kernel)
theorem kw_322 : (Cond.selects "Highkey" yX2_put yX2_put) ∈ AL := al_2 (List.mem_of_getElem? (i := 82) (by decide +kernel)) (by decide +kernel)
theorem kw_323 : (Cond.code yX2_put prog_1_method_2_code 5 (some FieldType.int)) ∈ AL := al_2 (List.mem_of_getElem? (i := 83) (by decide +kernel)) (by decide +kernel)
theorem kw_324 : (Cond.methodLink "Highkey" 38 yX2_checkKey) ∈ AL := al_2 (List.mem_of_getElem? (i := 84) (by decide +kernel)) (by decide +kernel)
theorem kw_325 : (Cond.static yX2_checkKey) ∈ AL := al_2 (List.mem_of_getElem? (i := 85) (by decide +kernel)) (by decide +kernel)
theorem kw_326 : (Cond.code yX2_checkKey prog_1_method_27_code 1 none) ∈ AL := al_2 (List.mem_of_getElem? (i := 86) (by decide +kernel)) (by decide +kernel)
theorem kw_327 : (Cond.classLink "Highkey" 165 "java/lang/IllegalArgumentException") ∈ AL := al_2 (List.mem_of_getElem? (i := 87) (by decide +kernel)) (by decide +kernel)
theorem kw_328 : (Cond.instantiable "java/lang/IllegalArgumentException" 6) ∈ AL := al_2 (List.mem_of_getElem? (i := 88) (by decide +kernel)) (by decide +kernel)
theorem kn_329 : (Cond.castable "java/lang/IllegalArgumentException" "java/lang/IllegalArgumentException") ∈ lw_tbl := tl_2 (List.mem_of_getElem? (i := 89) (by decide +kernel))
theorem kn_330 : (Cond.declares ({ cls := "java/lang/RuntimeException", name := "<init>", desc := "()V" } : MethodName)) ∈ lw_tbl := tl_2 (List.mem_of_getElem? (i := 90) (by decide +kernel))
theorem kn_331 : (Cond.declares ({ cls := "java/lang/RuntimeException", name := "<init>", desc := "(Ljava/lang/String;)V" } : MethodName)) ∈ lw_tbl := tl_2 (List.mem_of_getElem? (i := 91) (by decide +kernel))
theorem kn_332 : (Cond.declares ({ cls := "java/lang/Exception", name := "<init>", desc := "()V" } : MethodName)) ∈ lw_tbl := tl_2 (List.mem_of_getElem? (i := 92) (by decide +kernel))
theorem kn_333 : (Cond.declares ({ cls := "java/lang/Exception", name := "<init>", desc := "(Ljava/lang/String;)V" } : MethodName)) ∈ lw_tbl := tl_2 (List.mem_of_getElem? (i := 93) (by decide +kernel))
theorem kn_334 : (Cond.declares ({ cls := "java/lang/Throwable", name := "<init>", desc := "()V" } : MethodName)) ∈ lw_tbl := tl_2 (List.mem_of_getElem? (i := 94) (by decide +kernel))
theorem kn_335 : (Cond.declares ({ cls := "java/lang/Throwable", name := "<init>", desc := "(Ljava/lang/String;)V" } : MethodName)) ∈ lw_tbl := tl_2 (List.mem_of_getElem? (i := 95) (by decide +kernel))
theorem kw_336 : (Cond.selects "java/lang/IllegalArgumentException" ({ cls := "java/lang/Throwable", name := "fillInStackTrace", desc := "(I)Ljava/lang/Throwable;" } : MethodName) ({ cls := "java/lang/Throwable", name := "fillInStackTrace", desc := "(I)Ljava/lang/Throwable;" } : MethodName)) ∈ AL := al_2 (List.mem_of_getElem? (i := 96) (by decide +kernel)) (by decide +kernel)
theorem kw_337 : (Cond.selects "java/lang/IllegalArgumentException" ({ cls := "java/lang/Throwable", name := "fillInStackTrace", desc := "()Ljava/lang/Throwable;" } : MethodName) ({ cls := "java/lang/Throwable", name := "fillInStackTrace", desc := "()Ljava/lang/Throwable;" } : MethodName)) ∈ AL := al_2 (List.mem_of_getElem? (i := 97) (by decide +kernel)) (by decide +kernel)
theorem kw_338 : (Cond.lays "java/lang/IllegalArgumentException" "java/lang/Throwable" "cause" "Ljava/lang/Throwable;") ∈ AL := al_2 (List.mem_of_getElem? (i := 98) (by decide +kernel)) (by decide +kernel)
theorem kw_339 : (Cond.lays "java/lang/Throwable" "java/lang/Throwable" "cause" "Ljava/lang/Throwable;") ∈ AL := al_2 (List.mem_of_getElem? (i := 99) (by decide +kernel)) (by decide +kernel)
theorem kw_340 : (Cond.lays "java/lang/IllegalArgumentException" "java/lang/Throwable" "stackTrace" "[Ljava/lang/StackTraceElement;") ∈ AL := al_2 (List.mem_of_getElem? (i := 100) (by decide +kernel)) (by decide +kernel)
theorem kw_341 : (Cond.lays "java/lang/Throwable" "java/lang/Throwable" "stackTrace" "[Ljava/lang/StackTraceElement;") ∈ AL := al_2 (List.mem_of_getElem? (i := 101) (by decide +kernel)) (by decide +kernel)
theorem kw_342 : (Cond.lays "java/lang/IllegalArgumentException" "java/lang/Throwable" "suppressedExceptions" "Ljava/util/List;") ∈ AL := al_2 (List.mem_of_getElem? (i := 102) (by decide +kernel)) (by decide +kernel)
theorem kw_343 : (Cond.lays "java/lang/Throwable" "java/lang/Throwable" "suppressedExceptions" "Ljava/util/List;") ∈ AL := al_2 (List.mem_of_getElem? (i := 103) (by decide +kernel)) (by decide +kernel)
theorem kw_344 : (Cond.lays "java/lang/IllegalArgumentException" "java/lang/Throwable" "detailMessage" "Ljava/lang/String;") ∈ AL := al_2 (List.mem_of_getElem? (i := 104) (by decide +kernel)) (by decide +kernel)
theorem kw_345 : (Cond.lays "java/lang/Throwable" "java/lang/Throwable" "detailMessage" "Ljava/lang/String;") ∈ AL := al_2 (List.mem_of_getElem? (i := 105) (by decide +kernel)) (by decide +kernel)
theorem kw_346 : (Cond.lays "java/lang/IllegalArgumentException" "java/lang/Throwable" "backtrace" "Ljava/lang/Object;") ∈ AL := al_2 (List.mem_of_getElem? (i := 106) (by decide +kernel)) (by decide +kernel)
theorem kw_347 : (Cond.lays "java/lang/Throwable" "java/lang/Throwable" "backtrace" "Ljava/lang/Object;") ∈ AL := al_2 (List.mem_of_getElem? (i := 107) (by decide +kernel)) (by decide +kernel)
theorem kw_348 : (Cond.fieldLink "java/lang/Throwable" 198 "java/lang/Throwable" "backtrace" "Ljava/lang/Object;") ∈ AL := al_2 (List.mem_of_getElem? (i := 108) (by decide +kernel)) (by decide +kernel)
theorem kw_349 : (Cond.superclass "java/lang/Throwable" "java/lang/Object") ∈ AL := al_2 (List.mem_of_getElem? (i := 109) (by decide +kernel)) (by decide +kernel)
theorem kw_350 : (Cond.instanceMethod ({ cls := "java/lang/Throwable", name := "<init>", desc := "()V" } : MethodName)) ∈ AL := al_2 (List.mem_of_getElem? (i := 110) (by decide +kernel)) (by decide +kernel)
theorem kw_351 : (Cond.code ({ cls := "java/lang/Throwable", name := "<init>", desc := "()V" } : MethodName) prog_17_method_1_code 1 none) ∈ AL := al_2 (List.mem_of_getElem? (i := 111) (by decide +kernel)) (by decide +kernel)
theorem kw_352 : (Cond.methodLink "java/lang/Throwable" 1 ({ cls := "java/lang/Object", name := "<init>", desc := "()V" } : MethodName)) ∈ AL := al_2 (List.mem_of_getElem? (i := 112) (by decide +kernel)) (by decide +kernel)
theorem kw_353 : (Cond.fieldLink "java/lang/Throwable" 13 "java/lang/Throwable" "UNASSIGNED_STACK" "[Ljava/lang/StackTraceElement;") ∈ AL := al_2 (List.mem_of_getElem? (i := 113) (by decide +kernel)) (by decide +kernel)
theorem kw_355 : (Cond.fieldLink "java/lang/Throwable" 20 "java/lang/Throwable" "SUPPRESSED_SENTINEL" "Ljava/util/List;") ∈ AL := al_2 (List.mem_of_getElem? (i := 115) (by decide +kernel)) (by decide +kernel)
theorem kw_357 : (Cond.methodLink "java/lang/Throwable" 27 ({ cls := "java/lang/Throwable", name := "fillInStackTrace", desc := "()Ljava/lang/Throwable;" } : MethodName)) ∈ AL := al_2 (List.mem_of_getElem? (i := 117) (by decide +kernel)) (by decide +kernel)
theorem kw_358 : (Cond.instanceMethod ({ cls := "java/lang/Throwable", name := "fillInStackTrace", desc := "()Ljava/lang/Throwable;" } : MethodName)) ∈ AL := al_2 (List.mem_of_getElem? (i := 118) (by decide +kernel)) (by decide +kernel)
theorem kw_359 : (Cond.sameMethod "java/lang/Throwable" "java/lang/Throwable" "fillInStackTrace" "()Ljava/lang/Throwable;") ∈ AL := al_2 (List.mem_of_getElem? (i := 119) (by decide +kernel)) (by decide +kernel)
theorem kw_360 : (Cond.selects "java/lang/IllegalStateException" ({ cls := "java/lang/Throwable", name := "fillInStackTrace", desc := "()Ljava/lang/Throwable;" } : MethodName) ({ cls := "java/lang/Throwable", name := "fillInStackTrace", desc := "()Ljava/lang/Throwable;" } : MethodName)) ∈ AL := al_2 (List.mem_of_getElem? (i := 120) (by decide +kernel)) (by decide +kernel)
theorem kw_361 : (Cond.selects "java/lang/IndexOutOfBoundsException" ({ cls := "java/lang/Throwable", name := "fillInStackTrace", desc := "()Ljava/lang/Throwable;" } : MethodName) ({ cls := "java/lang/Throwable", name := "fillInStackTrace", desc := "()Ljava/lang/Throwable;" } : MethodName)) ∈ AL := al_2 (List.mem_of_getElem? (i := 121) (by decide +kernel)) (by decide +kernel)
theorem kw_362 : (Cond.codeSync ({ cls := "java/lang/Throwable", name := "fillInStackTrace", desc := "()Ljava/lang/Throwable;" } : MethodName) prog_17_method_18_code 1 (some (FieldType.object "java/lang/Throwable"))) ∈ AL := al_2 (List.mem_of_getElem? (i := 122) (by decide +kernel)) (by decide +kernel)
theorem kw_363 : (Cond.methodLink "java/lang/Throwable" 202 ({ cls := "java/lang/Throwable", name := "fillInStackTrace", desc := "(I)Ljava/lang/Throwable;" } : MethodName)) ∈ AL := al_2 (List.mem_of_getElem? (i := 123) (by decide +kernel)) (by decide +kernel)
theorem kw_365 : (Cond.instanceMethod ({ cls := "java/lang/Throwable", name := "fillInStackTrace", desc := "(I)Ljava/lang/Throwable;" } : MethodName)) ∈ AL := al_2 (List.mem_of_getElem? (i := 125) (by decide +kernel)) (by decide +kernel)
theorem kw_366 : (Cond.instantiable "java/lang/Throwable" 6) ∈ AL := al_2 (List.mem_of_getElem? (i := 126) (by decide +kernel)) (by decide +kernel)
theorem kw_367 : (Cond.native ({ cls := "java/lang/Throwable", name := "fillInStackTrace", desc := "(I)Ljava/lang/Throwable;" } : MethodName)) ∈ AL := al_2 (List.mem_of_getElem? (i := 127) (by decide +kernel)) (by decide +kernel)
theorem kn_368 : (Cond.stringRef "Highkey" 167 "no such key") ∈ lw_tbl := tl_2 (List.mem_of_getElem? (i := 128) (by decide +kernel))
theorem kw_369 : (Cond.methodLink "Highkey" 169 ({ cls := "java/lang/IllegalArgumentException", name := "<init>", desc := "(Ljava/lang/String;)V" } : MethodName)) ∈ AL := al_2 (List.mem_of_getElem? (i := 129) (by decide +kernel)) (by decide +kernel)
theorem kw_370 : (Cond.instanceMethod ({ cls := "java/lang/IllegalArgumentException", name := "<init>", desc := "(Ljava/lang/String;)V" } : MethodName)) ∈ AL := al_2 (List.mem_of_getElem? (i := 130) (by decide +kernel)) (by decide +kernel)
theorem kw_371 : (Cond.code ({ cls := "java/lang/IllegalArgumentException", name := "<init>", desc := "(Ljava/lang/String;)V" } : MethodName) prog_9_method_2_code 2 none) ∈ AL := al_2 (List.mem_of_getElem? (i := 131) (by decide +kernel)) (by decide +kernel)
theorem kw_372 : (Cond.methodLink "java/lang/IllegalArgumentException" 7 ({ cls := "java/lang/RuntimeException", name := "<init>", desc := "(Ljava/lang/String;)V" } : MethodName)) ∈ AL := al_2 (List.mem_of_getElem? (i := 132) (by decide +kernel)) (by decide +kernel)
theorem kw_373 : (Cond.instanceMethod ({ cls := "java/lang/RuntimeException", name := "<init>", desc := "(Ljava/lang/String;)V" } : MethodName)) ∈ AL := al_2 (List.mem_of_getElem? (i := 133) (by decide +kernel)) (by decide +kernel)
theorem kw_374 : (Cond.code ({ cls := "java/lang/RuntimeException", name := "<init>", desc := "(Ljava/lang/String;)V" } : MethodName) prog_14_method_2_code 2 none) ∈ AL := al_2 (List.mem_of_getElem? (i := 134) (by decide +kernel)) (by decide +kernel)
theorem kw_375 : (Cond.methodLink "java/lang/RuntimeException" 7 ({ cls := "java/lang/Exception", name := "<init>", desc := "(Ljava/lang/String;)V" } : MethodName)) ∈ AL := al_2 (List.mem_of_getElem? (i := 135) (by decide +kernel)) (by decide +kernel)
theorem kw_376 : (Cond.instanceMethod ({ cls := "java/lang/Exception", name := "<init>", desc := "(Ljava/lang/String;)V" } : MethodName)) ∈ AL := al_2 (List.mem_of_getElem? (i := 136) (by decide +kernel)) (by decide +kernel)
theorem kw_377 : (Cond.code ({ cls := "java/lang/Exception", name := "<init>", desc := "(Ljava/lang/String;)V" } : MethodName) prog_8_method_2_code 2 none) ∈ AL := al_2 (List.mem_of_getElem? (i := 137) (by decide +kernel)) (by decide +kernel)
theorem kw_378 : (Cond.methodLink "java/lang/Exception" 7 ({ cls := "java/lang/Throwable", name := "<init>", desc := "(Ljava/lang/String;)V" } : MethodName)) ∈ AL := al_2 (List.mem_of_getElem? (i := 138) (by decide +kernel)) (by decide +kernel)
theorem kw_379 : (Cond.instanceMethod ({ cls := "java/lang/Throwable", name := "<init>", desc := "(Ljava/lang/String;)V" } : MethodName)) ∈ AL := al_2 (List.mem_of_getElem? (i := 139) (by decide +kernel)) (by decide +kernel)
theorem kw_380 : (Cond.code ({ cls := "java/lang/Throwable", name := "<init>", desc := "(Ljava/lang/String;)V" } : MethodName) prog_17_method_2_code 2 none) ∈ AL := al_2 (List.mem_of_getElem? (i := 140) (by decide +kernel)) (by decide +kernel)
theorem kw_381 : (Cond.fieldLink "java/lang/Throwable" 198 "java/lang/Throwable" "backtrace" "Ljava/lang/Object;") ∈ AL := al_2 (List.mem_of_getElem? (i := 141) (by decide +kernel)) (by decide +kernel)
theorem kw_382 : (Cond.fieldLink "java/lang/Throwable" 31 "java/lang/Throwable" "detailMessage" "Ljava/lang/String;") ∈ AL := al_2 (List.mem_of_getElem? (i := 142) (by decide +kernel)) (by decide +kernel)
theorem kw_383 : (Cond.fieldLink "java/lang/Throwable" 7 "java/lang/Throwable" "cause" "Ljava/lang/Throwable;") ∈ AL := al_2 (List.mem_of_getElem? (i := 143) (by decide +kernel)) (by decide +kernel)
theorem kw_384 : (Cond.fieldLink "java/lang/Throwable" 17 "java/lang/Throwable" "stackTrace" "[Ljava/lang/StackTraceElement;") ∈ AL := al_2 (List.mem_of_getElem? (i := 144) (by decide +kernel)) (by decide +kernel)
theorem kw_385 : (Cond.fieldLink "java/lang/Throwable" 24 "java/lang/Throwable" "suppressedExceptions" "Ljava/util/List;") ∈ AL := al_2 (List.mem_of_getElem? (i := 145) (by decide +kernel)) (by decide +kernel)
theorem kw_390 : (Cond.lays "java/lang/IllegalArgumentException" "java/lang/Throwable" "depth" "I") ∈ AL := al_2 (List.mem_of_getElem? (i := 150) (by decide +kernel)) (by decide +kernel)
theorem kw_393 : (Cond.superclass "java/lang/IllegalArgumentException" "java/lang/RuntimeException") ∈ AL := al_2 (List.mem_of_getElem? (i := 153) (by decide +kernel)) (by decide +kernel)
theorem kw_394 : (Cond.arrayClass FieldType.byte) ∈ AL := al_2 (List.mem_of_getElem? (i := 154) (by decide +kernel)) (by decide +kernel)
theorem kw_395 : (Cond.methodLink "Highkey" 42 yX2_checkValue) ∈ AL := al_2 (List.mem_of_getElem? (i := 155) (by decide +kernel)) (by decide +kernel)
theorem kw_396 : (Cond.static yX2_checkValue) ∈ AL := al_2 (List.mem_of_getElem? (i := 156) (by decide +kernel)) (by decide +kernel)
theorem kw_397 : (Cond.code yX2_checkValue prog_1_method_28_code 1 none) ∈ AL := al_2 (List.mem_of_getElem? (i := 157) (by decide +kernel)) (by decide +kernel)
theorem kn_398 : (Cond.stringRef "Highkey" 170 "no such value") ∈ lw_tbl := tl_2 (List.mem_of_getElem? (i := 158) (by decide +kernel))
theorem kw_399 : (Cond.methodLink "Highkey" 49 yX1_placeOf) ∈ AL := al_2 (List.mem_of_getElem? (i := 159) (by decide +kernel)) (by decide +kernel)
theorem kw_400 : (Cond.instanceMethod yX1_placeOf) ∈ AL := al_2 (List.mem_of_getElem? (i := 160) (by decide +kernel)) (by decide +kernel)
theorem kw_401 : (Cond.selects "Highkey$Page" yX1_placeOf yX1_placeOf) ∈ AL := al_2 (List.mem_of_getElem? (i := 161) (by decide +kernel)) (by decide +kernel)
theorem kw_402 : (Cond.code yX1_placeOf prog_3_method_7_code 3 (some FieldType.int)) ∈ AL := al_2 (List.mem_of_getElem? (i := 162) (by decide +kernel)) (by decide +kernel)
theorem kw_403 : (Cond.methodLink "Highkey" 53 yX1_changeValue) ∈ AL := al_2 (List.mem_of_getElem? (i := 163) (by decide +kernel)) (by decide +kernel)
theorem kw_404 : (Cond.instanceMethod yX1_changeValue) ∈ AL := al_2 (List.mem_of_getElem? (i := 164) (by decide +kernel)) (by decide +kernel)
theorem kw_405 : (Cond.selects "Highkey$Page" yX1_changeValue yX1_changeValue) ∈ AL := al_2 (List.mem_of_getElem? (i := 165) (by decide +kernel)) (by decide +kernel)
theorem kw_406 : (Cond.code yX1_changeValue prog_3_method_10_code 4 (some FieldType.int)) ∈ AL := al_2 (List.mem_of_getElem? (i := 166) (by decide +kernel)) (by decide +kernel)
theorem kw_407 : (Cond.methodLink "HighkeyLaw" 79 yL_take) ∈ AL := al_2 (List.mem_of_getElem? (i := 167) (by decide +kernel)) (by decide +kernel)
theorem kw_408 : (Cond.static yL_take) ∈ AL := al_2 (List.mem_of_getElem? (i := 168) (by decide +kernel)) (by decide +kernel)
theorem kw_409 : (Cond.codeWith yL_take method_4_code 4 (some FieldType.int) [(0, 9, 12, 13)]) ∈ AL := al_2 (List.mem_of_getElem? (i := 169) (by decide +kernel)) (by decide +kernel)
theorem kw_410 : (Cond.methodLink "HighkeyLaw" 15 yX2_take) ∈ AL := al_2 (List.mem_of_getElem? (i := 170) (by decide +kernel)) (by decide +kernel)
theorem kw_411 : (Cond.instanceMethod yX2_take) ∈ AL := al_2 (List.mem_of_getElem? (i := 171) (by decide +kernel)) (by decide +kernel)
theorem kw_412 : (Cond.selects "Highkey" yX2_take yX2_take) ∈ AL := al_2 (List.mem_of_getElem? (i := 172) (by decide +kernel)) (by decide +kernel)
theorem kw_413 : (Cond.code yX2_take prog_1_method_3_code 5 (some FieldType.int)) ∈ AL := al_2 (List.mem_of_getElem? (i := 173) (by decide +kernel)) (by decide +kernel)
theorem kw_414 : (Cond.methodLink "Highkey" 65 yX1_valueIn) ∈ AL := al_2 (List.mem_of_getElem? (i := 174) (by decide +kernel)) (by decide +kernel)
theorem kw_415 : (Cond.instanceMethod yX1_valueIn) ∈ AL := al_2 (List.mem_of_getElem? (i := 175) (by decide +kernel)) (by decide +kernel)
theorem kw_416 : (Cond.selects "Highkey$Page" yX1_valueIn yX1_valueIn) ∈ AL := al_2 (List.mem_of_getElem? (i := 176) (by decide +kernel)) (by decide +kernel)
theorem kw_417 : (Cond.code yX1_valueIn prog_3_method_4_code 2 (some FieldType.int)) ∈ AL := al_2 (List.mem_of_getElem? (i := 177) (by decide +kernel)) (by decide +kernel)
theorem kw_418 : (Cond.methodLink "HighkeyLaw" 83 yL_get) ∈ AL := al_2 (List.mem_of_getElem? (i := 178) (by decide +kernel)) (by decide +kernel)
theorem kw_419 : (Cond.static yL_get) ∈ AL := al_2 (List.mem_of_getElem? (i := 179) (by decide +kernel)) (by decide +kernel)
theorem kw_420 : (Cond.codeWith yL_get method_5_code 4 (some FieldType.int) [(0, 9, 12, 13)]) ∈ AL := al_2 (List.mem_of_getElem? (i := 180) (by decide +kernel)) (by decide +kernel)
theorem kw_421 : (Cond.methodLink "HighkeyLaw" 19 yX2_get) ∈ AL := al_2 (List.mem_of_getElem? (i := 181) (by decide +kernel)) (by decide +kernel)
theorem kw_422 : (Cond.instanceMethod yX2_get) ∈ AL := al_2 (List.mem_of_getElem? (i := 182) (by decide +kernel)) (by decide +kernel)
theorem kw_423 : (Cond.selects "Highkey" yX2_get yX2_get) ∈ AL := al_2 (List.mem_of_getElem? (i := 183) (by decide +kernel)) (by decide +kernel)
theorem kw_424 : (Cond.code yX2_get prog_1_method_4_code 3 (some FieldType.int)) ∈ AL := al_2 (List.mem_of_getElem? (i := 184) (by decide +kernel)) (by decide +kernel)
theorem kw_425 : (Cond.methodLink "HighkeyLaw" 86 yL_getByLeaves) ∈ AL := al_2 (List.mem_of_getElem? (i := 185) (by decide +kernel)) (by decide +kernel)
theorem kw_426 : (Cond.static yL_getByLeaves) ∈ AL := al_2 (List.mem_of_getElem? (i := 186) (by decide +kernel)) (by decide +kernel)
theorem kw_427 : (Cond.codeWith yL_getByLeaves method_6_code 4 (some FieldType.int) [(0, 9, 12, 13)]) ∈ AL := al_2 (List.mem_of_getElem? (i := 187) (by decide +kernel)) (by decide +kernel)
theorem kw_428 : (Cond.methodLink "HighkeyLaw" 22 yX2_getByLeaves) ∈ AL := al_2 (List.mem_of_getElem? (i := 188) (by decide +kernel)) (by decide +kernel)
theorem kw_429 : (Cond.instanceMethod yX2_getByLeaves) ∈ AL := al_2 (List.mem_of_getElem? (i := 189) (by decide +kernel)) (by decide +kernel)
theorem kw_430 : (Cond.selects "Highkey" yX2_getByLeaves yX2_getByLeaves) ∈ AL := al_2 (List.mem_of_getElem? (i := 190) (by decide +kernel)) (by decide +kernel)
theorem kw_431 : (Cond.code yX2_getByLeaves prog_1_method_5_code 4 (some FieldType.int)) ∈ AL := al_2 (List.mem_of_getElem? (i := 191) (by decide +kernel)) (by decide +kernel)
theorem kw_432 : (Cond.methodLink "HighkeyLaw" 97 yL_post) ∈ AL := al_2 (List.mem_of_getElem? (i := 192) (by decide +kernel)) (by decide +kernel)
theorem kw_433 : (Cond.static yL_post) ∈ AL := al_2 (List.mem_of_getElem? (i := 193) (by decide +kernel)) (by decide +kernel)
theorem kw_434 : (Cond.codeWith yL_post method_7_code 3 (some FieldType.int) [(0, 8, 11, 29)]) ∈ AL := al_2 (List.mem_of_getElem? (i := 194) (by decide +kernel)) (by decide +kernel)
theorem kw_435 : (Cond.classLink "HighkeyLaw" 29 "java/lang/IllegalStateException") ∈ AL := al_2 (List.mem_of_getElem? (i := 195) (by decide +kernel)) (by decide +kernel)
theorem kw_436 : (Cond.methodLink "HighkeyLaw" 25 yX2_post) ∈ AL := al_2 (List.mem_of_getElem? (i := 196) (by decide +kernel)) (by decide +kernel)
theorem kw_437 : (Cond.instanceMethod yX2_post) ∈ AL := al_2 (List.mem_of_getElem? (i := 197) (by decide +kernel)) (by decide +kernel)
theorem kw_438 : (Cond.selects "Highkey" yX2_post yX2_post) ∈ AL := al_2 (List.mem_of_getElem? (i := 198) (by decide +kernel)) (by decide +kernel)
theorem kw_439 : (Cond.code yX2_post prog_1_method_8_code 1 (some FieldType.int)) ∈ AL := al_2 (List.mem_of_getElem? (i := 199) (by decide +kernel)) (by decide +kernel)
theorem kw_440 : (Cond.classLink "Highkey" 82 "java/lang/IllegalStateException") ∈ AL := al_2 (List.mem_of_getElem? (i := 200) (by decide +kernel)) (by decide +kernel)
theorem kw_441 : (Cond.instantiable "java/lang/IllegalStateException" 6) ∈ AL := al_2 (List.mem_of_getElem? (i := 201) (by decide +kernel)) (by decide +kernel)
theorem kn_442 : (Cond.castable "java/lang/IllegalStateException" "java/lang/IllegalStateException") ∈ lw_tbl := tl_2 (List.mem_of_getElem? (i := 202) (by decide +kernel))
theorem kw_443 : (Cond.selects "java/lang/IllegalStateException" ({ cls := "java/lang/Throwable", name := "fillInStackTrace", desc := "(I)Ljava/lang/Throwable;" } : MethodName) ({ cls := "java/lang/Throwable", name := "fillInStackTrace", desc := "(I)Ljava/lang/Throwable;" } : MethodName)) ∈ AL := al_2 (List.mem_of_getElem? (i := 203) (by decide +kernel)) (by decide +kernel)
theorem kw_444 : (Cond.lays "java/lang/IllegalStateException" "java/lang/Throwable" "cause" "Ljava/lang/Throwable;") ∈ AL := al_2 (List.mem_of_getElem? (i := 204) (by decide +kernel)) (by decide +kernel)
theorem kw_445 : (Cond.lays "java/lang/IllegalStateException" "java/lang/Throwable" "stackTrace" "[Ljava/lang/StackTraceElement;") ∈ AL := al_2 (List.mem_of_getElem? (i := 205) (by decide +kernel)) (by decide +kernel)
theorem kw_446 : (Cond.lays "java/lang/IllegalStateException" "java/lang/Throwable" "suppressedExceptions" "Ljava/util/List;") ∈ AL := al_2 (List.mem_of_getElem? (i := 206) (by decide +kernel)) (by decide +kernel)
theorem kw_447 : (Cond.lays "java/lang/IllegalStateException" "java/lang/Throwable" "detailMessage" "Ljava/lang/String;") ∈ AL := al_2 (List.mem_of_getElem? (i := 207) (by decide +kernel)) (by decide +kernel)
theorem kw_448 : (Cond.lays "java/lang/IllegalStateException" "java/lang/Throwable" "backtrace" "Ljava/lang/Object;") ∈ AL := al_2 (List.mem_of_getElem? (i := 208) (by decide +kernel)) (by decide +kernel)
theorem kn_449 : (Cond.stringRef "Highkey" 84 "no split waits") ∈ lw_tbl := tl_2 (List.mem_of_getElem? (i := 209) (by decide +kernel))
theorem kw_450 : (Cond.methodLink "Highkey" 86 ({ cls := "java/lang/IllegalStateException", name := "<init>", desc := "(Ljava/lang/String;)V" } : MethodName)) ∈ AL := al_2 (List.mem_of_getElem? (i := 210) (by decide +kernel)) (by decide +kernel)
theorem kw_451 : (Cond.instanceMethod ({ cls := "java/lang/IllegalStateException", name := "<init>", desc := "(Ljava/lang/String;)V" } : MethodName)) ∈ AL := al_2 (List.mem_of_getElem? (i := 211) (by decide +kernel)) (by decide +kernel)
theorem kw_452 : (Cond.code ({ cls := "java/lang/IllegalStateException", name := "<init>", desc := "(Ljava/lang/String;)V" } : MethodName) prog_10_method_2_code 2 none) ∈ AL := al_2 (List.mem_of_getElem? (i := 212) (by decide +kernel)) (by decide +kernel)
theorem kw_453 : (Cond.methodLink "java/lang/IllegalStateException" 7 ({ cls := "java/lang/RuntimeException", name := "<init>", desc := "(Ljava/lang/String;)V" } : MethodName)) ∈ AL := al_2 (List.mem_of_getElem? (i := 213) (by decide +kernel)) (by decide +kernel)
theorem kw_454 : (Cond.lays "java/lang/IllegalStateException" "java/lang/Throwable" "depth" "I") ∈ AL := al_2 (List.mem_of_getElem? (i := 214) (by decide +kernel)) (by decide +kernel)
theorem kw_455 : (Cond.superclass "java/lang/IllegalStateException" "java/lang/RuntimeException") ∈ AL := al_2 (List.mem_of_getElem? (i := 215) (by decide +kernel)) (by decide +kernel)
theorem kw_456 : (Cond.methodLink "HighkeyLaw" 129 yL_level) ∈ AL := al_2 (List.mem_of_getElem? (i := 216) (by decide +kernel)) (by decide +kernel)
theorem kw_457 : (Cond.static yL_level) ∈ AL := al_2 (List.mem_of_getElem? (i := 217) (by decide +kernel)) (by decide +kernel)
theorem kw_458 : (Cond.codeWith yL_level method_8_code 4 (some FieldType.int) [(0, 9, 12, 34)]) ∈ AL := al_2 (List.mem_of_getElem? (i := 218) (by decide +kernel)) (by decide +kernel)
theorem kw_459 : (Cond.classLink "HighkeyLaw" 34 "java/lang/IndexOutOfBoundsException") ∈ AL := al_2 (List.mem_of_getElem? (i := 219) (by decide +kernel)) (by decide +kernel)
theorem kw_460 : (Cond.methodLink "HighkeyLaw" 31 yX2_level) ∈ AL := al_2 (List.mem_of_getElem? (i := 220) (by decide +kernel)) (by decide +kernel)
theorem kw_461 : (Cond.instanceMethod yX2_level) ∈ AL := al_2 (List.mem_of_getElem? (i := 221) (by decide +kernel)) (by decide +kernel)
theorem kw_462 : (Cond.selects "Highkey" yX2_level yX2_level) ∈ AL := al_2 (List.mem_of_getElem? (i := 222) (by decide +kernel)) (by decide +kernel)
theorem kw_463 : (Cond.code yX2_level prog_1_method_16_code 2 (some FieldType.int)) ∈ AL := al_2 (List.mem_of_getElem? (i := 223) (by decide +kernel)) (by decide +kernel)
theorem kw_464 : (Cond.methodLink "Highkey" 123 yX2_pageOf) ∈ AL := al_2 (List.mem_of_getElem? (i := 224) (by decide +kernel)) (by decide +kernel)
theorem kw_466 : (Cond.instanceMethod yX2_pageOf) ∈ AL := al_2 (List.mem_of_getElem? (i := 226) (by decide +kernel)) (by decide +kernel)
theorem kw_467 : (Cond.code yX2_pageOf prog_1_method_30_code 3 (some (FieldType.object "Highkey$Page"))) ∈ AL := al_2 (List.mem_of_getElem? (i := 227) (by decide +kernel)) (by decide +kernel)
theorem kw_468 : (Cond.classLink "Highkey" 172 "java/lang/IndexOutOfBoundsException") ∈ AL := al_2 (List.mem_of_getElem? (i := 228) (by decide +kernel)) (by decide +kernel)
theorem kw_469 : (Cond.instantiable "java/lang/IndexOutOfBoundsException" 6) ∈ AL := al_2 (List.mem_of_getElem? (i := 229) (by decide +kernel)) (by decide +kernel)
theorem kn_470 : (Cond.castable "java/lang/IndexOutOfBoundsException" "java/lang/IndexOutOfBoundsException") ∈ lw_tbl := tl_2 (List.mem_of_getElem? (i := 230) (by decide +kernel))
theorem kw_471 : (Cond.selects "java/lang/IndexOutOfBoundsException" ({ cls := "java/lang/Throwable", name := "fillInStackTrace", desc := "(I)Ljava/lang/Throwable;" } : MethodName) ({ cls := "java/lang/Throwable", name := "fillInStackTrace", desc := "(I)Ljava/lang/Throwable;" } : MethodName)) ∈ AL := al_2 (List.mem_of_getElem? (i := 231) (by decide +kernel)) (by decide +kernel)
theorem kw_472 : (Cond.lays "java/lang/IndexOutOfBoundsException" "java/lang/Throwable" "cause" "Ljava/lang/Throwable;") ∈ AL := al_2 (List.mem_of_getElem? (i := 232) (by decide +kernel)) (by decide +kernel)
theorem kw_473 : (Cond.lays "java/lang/IndexOutOfBoundsException" "java/lang/Throwable" "stackTrace" "[Ljava/lang/StackTraceElement;") ∈ AL := al_2 (List.mem_of_getElem? (i := 233) (by decide +kernel)) (by decide +kernel)
theorem kw_474 : (Cond.lays "java/lang/IndexOutOfBoundsException" "java/lang/Throwable" "suppressedExceptions" "Ljava/util/List;") ∈ AL := al_2 (List.mem_of_getElem? (i := 234) (by decide +kernel)) (by decide +kernel)
theorem kw_475 : (Cond.lays "java/lang/IndexOutOfBoundsException" "java/lang/Throwable" "detailMessage" "Ljava/lang/String;") ∈ AL := al_2 (List.mem_of_getElem? (i := 235) (by decide +kernel)) (by decide +kernel)
theorem kw_476 : (Cond.lays "java/lang/IndexOutOfBoundsException" "java/lang/Throwable" "backtrace" "Ljava/lang/Object;") ∈ AL := al_2 (List.mem_of_getElem? (i := 236) (by decide +kernel)) (by decide +kernel)
theorem kn_477 : (Cond.stringRef "Highkey" 177 "no such page") ∈ lw_tbl := tl_2 (List.mem_of_getElem? (i := 237) (by decide +kernel))
theorem kw_478 : (Cond.methodLink "Highkey" 176 ({ cls := "java/lang/IndexOutOfBoundsException", name := "<init>", desc := "(Ljava/lang/String;)V" } : MethodName)) ∈ AL := al_2 (List.mem_of_getElem? (i := 238) (by decide +kernel)) (by decide +kernel)
theorem kw_479 : (Cond.instanceMethod ({ cls := "java/lang/IndexOutOfBoundsException", name := "<init>", desc := "(Ljava/lang/String;)V" } : MethodName)) ∈ AL := al_2 (List.mem_of_getElem? (i := 239) (by decide +kernel)) (by decide +kernel)
theorem kw_480 : (Cond.code ({ cls := "java/lang/IndexOutOfBoundsException", name := "<init>", desc := "(Ljava/lang/String;)V" } : MethodName) prog_11_method_2_code 2 none) ∈ AL := al_3 (List.mem_of_getElem? (i := 0) (by decide +kernel)) (by decide +kernel)
theorem kw_481 : (Cond.methodLink "java/lang/IndexOutOfBoundsException" 7 ({ cls := "java/lang/RuntimeException", name := "<init>", desc := "(Ljava/lang/String;)V" } : MethodName)) ∈ AL := al_3 (List.mem_of_getElem? (i := 1) (by decide +kernel)) (by decide +kernel)
theorem kw_482 : (Cond.lays "java/lang/IndexOutOfBoundsException" "java/lang/Throwable" "depth" "I") ∈ AL := al_3 (List.mem_of_getElem? (i := 2) (by decide +kernel)) (by decide +kernel)
theorem kw_483 : (Cond.superclass "java/lang/IndexOutOfBoundsException" "java/lang/RuntimeException") ∈ AL := al_3 (List.mem_of_getElem? (i := 3) (by decide +kernel)) (by decide +kernel)
theorem kw_484 : (Cond.methodLink "HighkeyLaw" 132 yL_size) ∈ AL := al_3 (List.mem_of_getElem? (i := 4) (by decide +kernel)) (by decide +kernel)
theorem kw_485 : (Cond.static yL_size) ∈ AL := al_3 (List.mem_of_getElem? (i := 5) (by decide +kernel)) (by decide +kernel)
theorem kw_486 : (Cond.codeWith yL_size method_9_code 4 (some FieldType.int) [(0, 9, 12, 34)]) ∈ AL := al_3 (List.mem_of_getElem? (i := 6) (by decide +kernel)) (by decide +kernel)
theorem kw_487 : (Cond.methodLink "HighkeyLaw" 36 yX2_size) ∈ AL := al_3 (List.mem_of_getElem? (i := 7) (by decide +kernel)) (by decide +kernel)
theorem kw_488 : (Cond.instanceMethod yX2_size) ∈ AL := al_3 (List.mem_of_getElem? (i := 8) (by decide +kernel)) (by decide +kernel)
theorem kw_489 : (Cond.selects "Highkey" yX2_size yX2_size) ∈ AL := al_3 (List.mem_of_getElem? (i := 9) (by decide +kernel)) (by decide +kernel)
theorem kw_490 : (Cond.code yX2_size prog_1_method_17_code 2 (some FieldType.int)) ∈ AL := al_3 (List.mem_of_getElem? (i := 10) (by decide +kernel)) (by decide +kernel)
theorem kw_491 : (Cond.methodLink "HighkeyLaw" 135 yL_keyAt) ∈ AL := al_3 (List.mem_of_getElem? (i := 11) (by decide +kernel)) (by decide +kernel)
theorem kw_492 : (Cond.static yL_keyAt) ∈ AL := al_3 (List.mem_of_getElem? (i := 12) (by decide +kernel)) (by decide +kernel)
theorem kw_493 : (Cond.codeWith yL_keyAt method_10_code 5 (some FieldType.int) [(0, 10, 13, 34)]) ∈ AL := al_3 (List.mem_of_getElem? (i := 13) (by decide +kernel)) (by decide +kernel)
theorem kw_494 : (Cond.methodLink "HighkeyLaw" 39 yX2_keyAt) ∈ AL := al_3 (List.mem_of_getElem? (i := 14) (by decide +kernel)) (by decide +kernel)
theorem kw_495 : (Cond.instanceMethod yX2_keyAt) ∈ AL := al_3 (List.mem_of_getElem? (i := 15) (by decide +kernel)) (by decide +kernel)
theorem kw_496 : (Cond.selects "Highkey" yX2_keyAt yX2_keyAt) ∈ AL := al_3 (List.mem_of_getElem? (i := 16) (by decide +kernel)) (by decide +kernel)
theorem kw_497 : (Cond.code yX2_keyAt prog_1_method_18_code 4 (some FieldType.int)) ∈ AL := al_3 (List.mem_of_getElem? (i := 17) (by decide +kernel)) (by decide +kernel)
theorem kw_498 : (Cond.methodLink "Highkey" 128 yX2_checkPlace) ∈ AL := al_3 (List.mem_of_getElem? (i := 18) (by decide +kernel)) (by decide +kernel)
theorem kw_499 : (Cond.static yX2_checkPlace) ∈ AL := al_3 (List.mem_of_getElem? (i := 19) (by decide +kernel)) (by decide +kernel)
theorem kw_500 : (Cond.code yX2_checkPlace prog_1_method_29_code 1 none) ∈ AL := al_3 (List.mem_of_getElem? (i := 20) (by decide +kernel)) (by decide +kernel)
theorem kn_501 : (Cond.stringRef "Highkey" 174 "place is below 0") ∈ lw_tbl := tl_3 (List.mem_of_getElem? (i := 21) (by decide +kernel))
theorem kw_502 : (Cond.methodLink "Highkey" 131 yX1_keyIn) ∈ AL := al_3 (List.mem_of_getElem? (i := 22) (by decide +kernel)) (by decide +kernel)
theorem kw_503 : (Cond.methodLink "HighkeyLaw" 138 yL_below) ∈ AL := al_3 (List.mem_of_getElem? (i := 23) (by decide +kernel)) (by decide +kernel)
theorem kw_504 : (Cond.static yL_below) ∈ AL := al_3 (List.mem_of_getElem? (i := 24) (by decide +kernel)) (by decide +kernel)
theorem kw_505 : (Cond.codeWith yL_below method_11_code 5 (some FieldType.int) [(0, 10, 13, 34)]) ∈ AL := al_3 (List.mem_of_getElem? (i := 25) (by decide +kernel)) (by decide +kernel)
theorem kw_506 : (Cond.methodLink "HighkeyLaw" 42 yX2_below) ∈ AL := al_3 (List.mem_of_getElem? (i := 26) (by decide +kernel)) (by decide +kernel)
theorem kw_507 : (Cond.instanceMethod yX2_below) ∈ AL := al_3 (List.mem_of_getElem? (i := 27) (by decide +kernel)) (by decide +kernel)
theorem kw_508 : (Cond.selects "Highkey" yX2_below yX2_below) ∈ AL := al_3 (List.mem_of_getElem? (i := 28) (by decide +kernel)) (by decide +kernel)
theorem kw_509 : (Cond.code yX2_below prog_1_method_19_code 4 (some FieldType.int)) ∈ AL := al_3 (List.mem_of_getElem? (i := 29) (by decide +kernel)) (by decide +kernel)
theorem kw_510 : (Cond.methodLink "Highkey" 134 yX2_numberOf) ∈ AL := al_3 (List.mem_of_getElem? (i := 30) (by decide +kernel)) (by decide +kernel)
theorem kw_511 : (Cond.static yX2_numberOf) ∈ AL := al_3 (List.mem_of_getElem? (i := 31) (by decide +kernel)) (by decide +kernel)
theorem kw_512 : (Cond.code yX2_numberOf prog_1_method_32_code 1 (some FieldType.int)) ∈ AL := al_3 (List.mem_of_getElem? (i := 32) (by decide +kernel)) (by decide +kernel)
theorem kw_513 : (Cond.methodLink "HighkeyLaw" 141 yL_high) ∈ AL := al_3 (List.mem_of_getElem? (i := 33) (by decide +kernel)) (by decide +kernel)
theorem kw_514 : (Cond.static yL_high) ∈ AL := al_3 (List.mem_of_getElem? (i := 34) (by decide +kernel)) (by decide +kernel)
theorem kw_515 : (Cond.codeWith yL_high method_12_code 4 (some FieldType.int) [(0, 9, 12, 34)]) ∈ AL := al_3 (List.mem_of_getElem? (i := 35) (by decide +kernel)) (by decide +kernel)
theorem kw_516 : (Cond.methodLink "HighkeyLaw" 45 yX2_high) ∈ AL := al_3 (List.mem_of_getElem? (i := 36) (by decide +kernel)) (by decide +kernel)
theorem kw_517 : (Cond.instanceMethod yX2_high) ∈ AL := al_3 (List.mem_of_getElem? (i := 37) (by decide +kernel)) (by decide +kernel)
theorem kw_518 : (Cond.selects "Highkey" yX2_high yX2_high) ∈ AL := al_3 (List.mem_of_getElem? (i := 38) (by decide +kernel)) (by decide +kernel)
theorem kw_519 : (Cond.code yX2_high prog_1_method_20_code 2 (some FieldType.int)) ∈ AL := al_3 (List.mem_of_getElem? (i := 39) (by decide +kernel)) (by decide +kernel)
theorem kw_520 : (Cond.methodLink "HighkeyLaw" 144 yL_right) ∈ AL := al_3 (List.mem_of_getElem? (i := 40) (by decide +kernel)) (by decide +kernel)
theorem kw_521 : (Cond.static yL_right) ∈ AL := al_3 (List.mem_of_getElem? (i := 41) (by decide +kernel)) (by decide +kernel)
theorem kw_522 : (Cond.codeWith yL_right method_13_code 4 (some FieldType.int) [(0, 9, 12, 34)]) ∈ AL := al_3 (List.mem_of_getElem? (i := 42) (by decide +kernel)) (by decide +kernel)
theorem kw_523 : (Cond.methodLink "HighkeyLaw" 48 yX2_right) ∈ AL := al_3 (List.mem_of_getElem? (i := 43) (by decide +kernel)) (by decide +kernel)
theorem kw_524 : (Cond.instanceMethod yX2_right) ∈ AL := al_3 (List.mem_of_getElem? (i := 44) (by decide +kernel)) (by decide +kernel)
theorem kw_525 : (Cond.selects "Highkey" yX2_right yX2_right) ∈ AL := al_3 (List.mem_of_getElem? (i := 45) (by decide +kernel)) (by decide +kernel)
theorem kw_526 : (Cond.code yX2_right prog_1_method_21_code 2 (some FieldType.int)) ∈ AL := al_3 (List.mem_of_getElem? (i := 46) (by decide +kernel)) (by decide +kernel)
theorem kw_527 : (Cond.methodLink "HighkeyLaw" 147 yL_links) ∈ AL := al_3 (List.mem_of_getElem? (i := 47) (by decide +kernel)) (by decide +kernel)
theorem kw_528 : (Cond.static yL_links) ∈ AL := al_3 (List.mem_of_getElem? (i := 48) (by decide +kernel)) (by decide +kernel)
theorem kw_529 : (Cond.codeWith yL_links method_14_code 4 (some FieldType.int) [(0, 9, 12, 13)]) ∈ AL := al_3 (List.mem_of_getElem? (i := 49) (by decide +kernel)) (by decide +kernel)
theorem kw_530 : (Cond.methodLink "HighkeyLaw" 51 yX2_links) ∈ AL := al_3 (List.mem_of_getElem? (i := 50) (by decide +kernel)) (by decide +kernel)
theorem kw_531 : (Cond.instanceMethod yX2_links) ∈ AL := al_3 (List.mem_of_getElem? (i := 51) (by decide +kernel)) (by decide +kernel)
theorem kw_532 : (Cond.selects "Highkey" yX2_links yX2_links) ∈ AL := al_3 (List.mem_of_getElem? (i := 52) (by decide +kernel)) (by decide +kernel)
theorem kw_533 : (Cond.code yX2_links prog_1_method_22_code 6 (some FieldType.int)) ∈ AL := al_3 (List.mem_of_getElem? (i := 53) (by decide +kernel)) (by decide +kernel)
theorem kw_534 : (Cond.methodLink "HighkeyLaw" 150 yL_open) ∈ AL := al_3 (List.mem_of_getElem? (i := 54) (by decide +kernel)) (by decide +kernel)
theorem kw_535 : (Cond.static yL_open) ∈ AL := al_3 (List.mem_of_getElem? (i := 55) (by decide +kernel)) (by decide +kernel)
theorem kw_536 : (Cond.codeWith yL_open method_15_code 4 (some FieldType.int) [(0, 9, 12, 13), (0, 9, 15, 29)]) ∈ AL := al_3 (List.mem_of_getElem? (i := 56) (by decide +kernel)) (by decide +kernel)
theorem kw_537 : (Cond.methodLink "HighkeyLaw" 54 yX2_open) ∈ AL := al_3 (List.mem_of_getElem? (i := 57) (by decide +kernel)) (by decide +kernel)
theorem kw_538 : (Cond.instanceMethod yX2_open) ∈ AL := al_3 (List.mem_of_getElem? (i := 58) (by decide +kernel)) (by decide +kernel)
theorem kw_539 : (Cond.selects "Highkey" yX2_open yX2_open) ∈ AL := al_3 (List.mem_of_getElem? (i := 59) (by decide +kernel)) (by decide +kernel)
theorem kw_540 : (Cond.code yX2_open prog_1_method_23_code 3 (some FieldType.int)) ∈ AL := al_3 (List.mem_of_getElem? (i := 60) (by decide +kernel)) (by decide +kernel)
theorem kn_541 : (Cond.stringRef "Highkey" 147 "all cursors were opened") ∈ lw_tbl := tl_3 (List.mem_of_getElem? (i := 61) (by decide +kernel))
theorem kw_542 : (Cond.instantiable "Highkey$Cursor" 4) ∈ AL := al_3 (List.mem_of_getElem? (i := 62) (by decide +kernel)) (by decide +kernel)
theorem kw_543 : (Cond.methodLink "Highkey" 149 yX0_init) ∈ AL := al_3 (List.mem_of_getElem? (i := 63) (by decide +kernel)) (by decide +kernel)
theorem kw_544 : (Cond.instanceMethod yX0_init) ∈ AL := al_3 (List.mem_of_getElem? (i := 64) (by decide +kernel)) (by decide +kernel)
theorem kw_545 : (Cond.code yX0_init prog_2_method_1_code 4 none) ∈ AL := al_3 (List.mem_of_getElem? (i := 65) (by decide +kernel)) (by decide +kernel)
theorem kw_546 : (Cond.methodLink "Highkey$Cursor" 3 ({ cls := "java/lang/Object", name := "<init>", desc := "()V" } : MethodName)) ∈ AL := al_3 (List.mem_of_getElem? (i := 66) (by decide +kernel)) (by decide +kernel)
theorem kw_547 : (Cond.fieldLink "Highkey$Cursor" 19 "Highkey$Cursor" "openedIn" "I") ∈ AL := al_3 (List.mem_of_getElem? (i := 67) (by decide +kernel)) (by decide +kernel)
theorem kw_548 : (Cond.fieldLink "Highkey" 205 "Highkey$Cursor" "openedIn" "I") ∈ AL := al_3 (List.mem_of_getElem? (i := 68) (by decide +kernel)) (by decide +kernel)
theorem kw_549 : (Cond.fieldLink "Highkey$Cursor" 9 "Highkey$Cursor" "leaf" "LHighkey$Page;") ∈ AL := al_3 (List.mem_of_getElem? (i := 69) (by decide +kernel)) (by decide +kernel)
theorem kw_550 : (Cond.fieldLink "Highkey" 159 "Highkey$Cursor" "leaf" "LHighkey$Page;") ∈ AL := al_3 (List.mem_of_getElem? (i := 70) (by decide +kernel)) (by decide +kernel)
theorem kw_551 : (Cond.fieldLink "Highkey$Cursor" 15 "Highkey$Cursor" "lastKey" "I") ∈ AL := al_3 (List.mem_of_getElem? (i := 71) (by decide +kernel)) (by decide +kernel)
theorem kw_552 : (Cond.fieldLink "Highkey" 162 "Highkey$Cursor" "closed" "Z") ∈ AL := al_3 (List.mem_of_getElem? (i := 72) (by decide +kernel)) (by decide +kernel)
theorem kw_553 : (Cond.laysFinal "Highkey$Cursor" "Highkey$Cursor" "openedIn" "I") ∈ AL := al_3 (List.mem_of_getElem? (i := 73) (by decide +kernel)) (by decide +kernel)
theorem kw_555 : (Cond.lays "Highkey$Cursor" "Highkey$Cursor" "leaf" "LHighkey$Page;") ∈ AL := al_3 (List.mem_of_getElem? (i := 75) (by decide +kernel)) (by decide +kernel)
theorem kw_557 : (Cond.lays "Highkey$Cursor" "Highkey$Cursor" "lastKey" "I") ∈ AL := al_3 (List.mem_of_getElem? (i := 77) (by decide +kernel)) (by decide +kernel)
theorem kw_559 : (Cond.lays "Highkey$Cursor" "Highkey$Cursor" "closed" "Z") ∈ AL := al_3 (List.mem_of_getElem? (i := 79) (by decide +kernel)) (by decide +kernel)
theorem kw_561 : (Cond.superclass "Highkey$Cursor" "java/lang/Object") ∈ AL := al_3 (List.mem_of_getElem? (i := 81) (by decide +kernel)) (by decide +kernel)
theorem kw_562 : (Cond.methodLink "HighkeyLaw" 153 yL_next) ∈ AL := al_3 (List.mem_of_getElem? (i := 82) (by decide +kernel)) (by decide +kernel)
theorem kw_563 : (Cond.static yL_next) ∈ AL := al_3 (List.mem_of_getElem? (i := 83) (by decide +kernel)) (by decide +kernel)
theorem kw_564 : (Cond.codeWith yL_next method_16_code 4 (some FieldType.int) [(0, 9, 12, 34)]) ∈ AL := al_3 (List.mem_of_getElem? (i := 84) (by decide +kernel)) (by decide +kernel)
theorem kw_565 : (Cond.methodLink "HighkeyLaw" 57 yX2_next) ∈ AL := al_3 (List.mem_of_getElem? (i := 85) (by decide +kernel)) (by decide +kernel)
theorem kw_566 : (Cond.instanceMethod yX2_next) ∈ AL := al_3 (List.mem_of_getElem? (i := 86) (by decide +kernel)) (by decide +kernel)
theorem kw_567 : (Cond.selects "Highkey" yX2_next yX2_next) ∈ AL := al_3 (List.mem_of_getElem? (i := 87) (by decide +kernel)) (by decide +kernel)
theorem kw_568 : (Cond.code yX2_next prog_1_method_24_code 2 (some FieldType.int)) ∈ AL := al_3 (List.mem_of_getElem? (i := 88) (by decide +kernel)) (by decide +kernel)
theorem kw_569 : (Cond.methodLink "Highkey" 152 yX2_cursorOf) ∈ AL := al_3 (List.mem_of_getElem? (i := 89) (by decide +kernel)) (by decide +kernel)
theorem kw_571 : (Cond.instanceMethod yX2_cursorOf) ∈ AL := al_3 (List.mem_of_getElem? (i := 91) (by decide +kernel)) (by decide +kernel)
theorem kw_572 : (Cond.code yX2_cursorOf prog_1_method_31_code 3 (some (FieldType.object "Highkey$Cursor"))) ∈ AL := al_3 (List.mem_of_getElem? (i := 92) (by decide +kernel)) (by decide +kernel)
theorem kn_573 : (Cond.stringRef "Highkey" 179 "no such open cursor") ∈ lw_tbl := tl_3 (List.mem_of_getElem? (i := 93) (by decide +kernel))
theorem kw_574 : (Cond.methodLink "Highkey" 156 yX0_walk) ∈ AL := al_3 (List.mem_of_getElem? (i := 94) (by decide +kernel)) (by decide +kernel)
theorem kw_575 : (Cond.instanceMethod yX0_walk) ∈ AL := al_3 (List.mem_of_getElem? (i := 95) (by decide +kernel)) (by decide +kernel)
theorem kw_576 : (Cond.selects "Highkey$Cursor" yX0_walk yX0_walk) ∈ AL := al_3 (List.mem_of_getElem? (i := 96) (by decide +kernel)) (by decide +kernel)
theorem kw_577 : (Cond.code yX0_walk prog_2_method_2_code 3 (some FieldType.int)) ∈ AL := al_3 (List.mem_of_getElem? (i := 97) (by decide +kernel)) (by decide +kernel)
theorem kw_578 : (Cond.methodLink "Highkey$Cursor" 22 yX1_leastKeyAbove) ∈ AL := al_3 (List.mem_of_getElem? (i := 98) (by decide +kernel)) (by decide +kernel)
theorem kw_579 : (Cond.instanceMethod yX1_leastKeyAbove) ∈ AL := al_3 (List.mem_of_getElem? (i := 99) (by decide +kernel)) (by decide +kernel)
theorem kw_580 : (Cond.selects "Highkey$Page" yX1_leastKeyAbove yX1_leastKeyAbove) ∈ AL := al_3 (List.mem_of_getElem? (i := 100) (by decide +kernel)) (by decide +kernel)
theorem kw_581 : (Cond.code yX1_leastKeyAbove prog_3_method_8_code 2 (some FieldType.int)) ∈ AL := al_3 (List.mem_of_getElem? (i := 101) (by decide +kernel)) (by decide +kernel)
theorem kw_582 : (Cond.methodLink "HighkeyLaw" 156 yL_leafOf) ∈ AL := al_3 (List.mem_of_getElem? (i := 102) (by decide +kernel)) (by decide +kernel)
theorem kw_583 : (Cond.static yL_leafOf) ∈ AL := al_3 (List.mem_of_getElem? (i := 103) (by decide +kernel)) (by decide +kernel)
theorem kw_584 : (Cond.codeWith yL_leafOf method_17_code 4 (some FieldType.int) [(0, 9, 12, 34)]) ∈ AL := al_3 (List.mem_of_getElem? (i := 104) (by decide +kernel)) (by decide +kernel)
theorem kw_585 : (Cond.methodLink "HighkeyLaw" 60 yX2_leafOf) ∈ AL := al_3 (List.mem_of_getElem? (i := 105) (by decide +kernel)) (by decide +kernel)
theorem kw_586 : (Cond.instanceMethod yX2_leafOf) ∈ AL := al_3 (List.mem_of_getElem? (i := 106) (by decide +kernel)) (by decide +kernel)
theorem kw_587 : (Cond.selects "Highkey" yX2_leafOf yX2_leafOf) ∈ AL := al_3 (List.mem_of_getElem? (i := 107) (by decide +kernel)) (by decide +kernel)
theorem kw_588 : (Cond.code yX2_leafOf prog_1_method_25_code 2 (some FieldType.int)) ∈ AL := al_3 (List.mem_of_getElem? (i := 108) (by decide +kernel)) (by decide +kernel)
theorem kw_589 : (Cond.methodLink "HighkeyLaw" 159 yL_close) ∈ AL := al_3 (List.mem_of_getElem? (i := 109) (by decide +kernel)) (by decide +kernel)
theorem kw_590 : (Cond.static yL_close) ∈ AL := al_3 (List.mem_of_getElem? (i := 110) (by decide +kernel)) (by decide +kernel)
theorem kw_591 : (Cond.codeWith yL_close method_18_code 4 (some FieldType.int) [(0, 9, 12, 34)]) ∈ AL := al_3 (List.mem_of_getElem? (i := 111) (by decide +kernel)) (by decide +kernel)
theorem kw_592 : (Cond.methodLink "HighkeyLaw" 63 yX2_close) ∈ AL := al_3 (List.mem_of_getElem? (i := 112) (by decide +kernel)) (by decide +kernel)
theorem kw_593 : (Cond.instanceMethod yX2_close) ∈ AL := al_3 (List.mem_of_getElem? (i := 113) (by decide +kernel)) (by decide +kernel)
theorem kw_594 : (Cond.selects "Highkey" yX2_close yX2_close) ∈ AL := al_3 (List.mem_of_getElem? (i := 114) (by decide +kernel)) (by decide +kernel)
theorem kw_595 : (Cond.code yX2_close prog_1_method_26_code 7 (some FieldType.int)) ∈ AL := al_3 (List.mem_of_getElem? (i := 115) (by decide +kernel)) (by decide +kernel)
theorem kw_596 : (Cond.classLink "HighkeyLaw" 67 "HighkeyModel") ∈ AL := al_3 (List.mem_of_getElem? (i := 116) (by decide +kernel)) (by decide +kernel)
theorem kw_597 : (Cond.instantiable "HighkeyModel" 20) ∈ AL := al_3 (List.mem_of_getElem? (i := 117) (by decide +kernel)) (by decide +kernel)
theorem kw_598 : (Cond.methodLink "HighkeyLaw" 69 yX3_init) ∈ AL := al_3 (List.mem_of_getElem? (i := 118) (by decide +kernel)) (by decide +kernel)
theorem kw_599 : (Cond.instanceMethod yX3_init) ∈ AL := al_3 (List.mem_of_getElem? (i := 119) (by decide +kernel)) (by decide +kernel)
theorem kw_600 : (Cond.code yX3_init prog_5_method_1_code 1 none) ∈ AL := al_3 (List.mem_of_getElem? (i := 120) (by decide +kernel)) (by decide +kernel)
theorem kw_601 : (Cond.methodLink "HighkeyModel" 1 ({ cls := "java/lang/Object", name := "<init>", desc := "()V" } : MethodName)) ∈ AL := al_3 (List.mem_of_getElem? (i := 121) (by decide +kernel)) (by decide +kernel)
theorem kw_602 : (Cond.methodLink "HighkeyModel" 53 yX3_made) ∈ AL := al_3 (List.mem_of_getElem? (i := 122) (by decide +kernel)) (by decide +kernel)
theorem kw_604 : (Cond.instanceMethod yX3_made) ∈ AL := al_3 (List.mem_of_getElem? (i := 124) (by decide +kernel)) (by decide +kernel)
theorem kw_605 : (Cond.code yX3_made prog_5_method_6_code 6 (some FieldType.int)) ∈ AL := al_3 (List.mem_of_getElem? (i := 125) (by decide +kernel)) (by decide +kernel)
theorem kw_606 : (Cond.fieldLink "HighkeyModel" 61 "HighkeyModel" "thrown" "I") ∈ AL := al_3 (List.mem_of_getElem? (i := 126) (by decide +kernel)) (by decide +kernel)
theorem kw_607 : (Cond.fieldLink "HighkeyModel" 7 "HighkeyModel" "areThere" "[Z") ∈ AL := al_3 (List.mem_of_getElem? (i := 127) (by decide +kernel)) (by decide +kernel)
theorem kw_608 : (Cond.fieldLink "HighkeyModel" 13 "HighkeyModel" "levels" "[I") ∈ AL := al_3 (List.mem_of_getElem? (i := 128) (by decide +kernel)) (by decide +kernel)
theorem kw_609 : (Cond.fieldLink "HighkeyModel" 17 "HighkeyModel" "lows" "[I") ∈ AL := al_3 (List.mem_of_getElem? (i := 129) (by decide +kernel)) (by decide +kernel)
theorem kw_610 : (Cond.fieldLink "HighkeyModel" 20 "HighkeyModel" "highs" "[I") ∈ AL := al_3 (List.mem_of_getElem? (i := 130) (by decide +kernel)) (by decide +kernel)
theorem kw_611 : (Cond.fieldLink "HighkeyModel" 23 "HighkeyModel" "rights" "[I") ∈ AL := al_3 (List.mem_of_getElem? (i := 131) (by decide +kernel)) (by decide +kernel)
theorem kw_612 : (Cond.fieldLink "HighkeyModel" 26 "HighkeyModel" "sizes" "[I") ∈ AL := al_3 (List.mem_of_getElem? (i := 132) (by decide +kernel)) (by decide +kernel)
theorem kw_613 : (Cond.fieldLink "HighkeyModel" 29 "HighkeyModel" "keys" "[I") ∈ AL := al_3 (List.mem_of_getElem? (i := 133) (by decide +kernel)) (by decide +kernel)
theorem kw_614 : (Cond.fieldLink "HighkeyModel" 32 "HighkeyModel" "values" "[I") ∈ AL := al_3 (List.mem_of_getElem? (i := 134) (by decide +kernel)) (by decide +kernel)
theorem kw_615 : (Cond.fieldLink "HighkeyModel" 35 "HighkeyModel" "gone" "[I") ∈ AL := al_3 (List.mem_of_getElem? (i := 135) (by decide +kernel)) (by decide +kernel)
theorem kw_616 : (Cond.fieldLink "HighkeyModel" 57 "HighkeyModel" "root" "I") ∈ AL := al_3 (List.mem_of_getElem? (i := 136) (by decide +kernel)) (by decide +kernel)
theorem kw_617 : (Cond.fieldLink "HighkeyModel" 118 "HighkeyModel" "epoch" "I") ∈ AL := al_3 (List.mem_of_getElem? (i := 137) (by decide +kernel)) (by decide +kernel)
theorem kw_618 : (Cond.fieldLink "HighkeyModel" 38 "HighkeyModel" "waiting" "[I") ∈ AL := al_3 (List.mem_of_getElem? (i := 138) (by decide +kernel)) (by decide +kernel)
theorem kw_619 : (Cond.fieldLink "HighkeyModel" 83 "HighkeyModel" "waits" "I") ∈ AL := al_3 (List.mem_of_getElem? (i := 139) (by decide +kernel)) (by decide +kernel)
theorem kw_620 : (Cond.fieldLink "HighkeyModel" 121 "HighkeyModel" "cursors" "I") ∈ AL := al_3 (List.mem_of_getElem? (i := 140) (by decide +kernel)) (by decide +kernel)
theorem kw_621 : (Cond.fieldLink "HighkeyModel" 41 "HighkeyModel" "areOpen" "[Z") ∈ AL := al_3 (List.mem_of_getElem? (i := 141) (by decide +kernel)) (by decide +kernel)
theorem kw_622 : (Cond.fieldLink "HighkeyModel" 44 "HighkeyModel" "leaves" "[I") ∈ AL := al_3 (List.mem_of_getElem? (i := 142) (by decide +kernel)) (by decide +kernel)
theorem kw_623 : (Cond.fieldLink "HighkeyModel" 47 "HighkeyModel" "lasts" "[I") ∈ AL := al_3 (List.mem_of_getElem? (i := 143) (by decide +kernel)) (by decide +kernel)
theorem kw_624 : (Cond.fieldLink "HighkeyModel" 50 "HighkeyModel" "epochs" "[I") ∈ AL := al_3 (List.mem_of_getElem? (i := 144) (by decide +kernel)) (by decide +kernel)
theorem kw_625 : (Cond.fieldLink "HighkeyModel" 68 "HighkeyModel" "followed" "I") ∈ AL := al_3 (List.mem_of_getElem? (i := 145) (by decide +kernel)) (by decide +kernel)
theorem kw_626 : (Cond.lays "HighkeyModel" "HighkeyModel" "thrown" "I") ∈ AL := al_3 (List.mem_of_getElem? (i := 146) (by decide +kernel)) (by decide +kernel)
theorem kw_628 : (Cond.laysFinal "HighkeyModel" "HighkeyModel" "areThere" "[Z") ∈ AL := al_3 (List.mem_of_getElem? (i := 148) (by decide +kernel)) (by decide +kernel)
theorem kw_630 : (Cond.laysFinal "HighkeyModel" "HighkeyModel" "levels" "[I") ∈ AL := al_3 (List.mem_of_getElem? (i := 150) (by decide +kernel)) (by decide +kernel)
theorem kw_632 : (Cond.laysFinal "HighkeyModel" "HighkeyModel" "lows" "[I") ∈ AL := al_3 (List.mem_of_getElem? (i := 152) (by decide +kernel)) (by decide +kernel)
theorem kw_634 : (Cond.laysFinal "HighkeyModel" "HighkeyModel" "highs" "[I") ∈ AL := al_3 (List.mem_of_getElem? (i := 154) (by decide +kernel)) (by decide +kernel)
theorem kw_636 : (Cond.laysFinal "HighkeyModel" "HighkeyModel" "rights" "[I") ∈ AL := al_3 (List.mem_of_getElem? (i := 156) (by decide +kernel)) (by decide +kernel)
theorem kw_638 : (Cond.laysFinal "HighkeyModel" "HighkeyModel" "sizes" "[I") ∈ AL := al_3 (List.mem_of_getElem? (i := 158) (by decide +kernel)) (by decide +kernel)
theorem kw_640 : (Cond.laysFinal "HighkeyModel" "HighkeyModel" "keys" "[I") ∈ AL := al_3 (List.mem_of_getElem? (i := 160) (by decide +kernel)) (by decide +kernel)
theorem kw_642 : (Cond.laysFinal "HighkeyModel" "HighkeyModel" "values" "[I") ∈ AL := al_3 (List.mem_of_getElem? (i := 162) (by decide +kernel)) (by decide +kernel)
theorem kw_644 : (Cond.laysFinal "HighkeyModel" "HighkeyModel" "gone" "[I") ∈ AL := al_3 (List.mem_of_getElem? (i := 164) (by decide +kernel)) (by decide +kernel)
theorem kw_646 : (Cond.lays "HighkeyModel" "HighkeyModel" "root" "I") ∈ AL := al_3 (List.mem_of_getElem? (i := 166) (by decide +kernel)) (by decide +kernel)
theorem kw_648 : (Cond.lays "HighkeyModel" "HighkeyModel" "epoch" "I") ∈ AL := al_3 (List.mem_of_getElem? (i := 168) (by decide +kernel)) (by decide +kernel)
theorem kw_650 : (Cond.laysFinal "HighkeyModel" "HighkeyModel" "waiting" "[I") ∈ AL := al_3 (List.mem_of_getElem? (i := 170) (by decide +kernel)) (by decide +kernel)
theorem kw_652 : (Cond.lays "HighkeyModel" "HighkeyModel" "waits" "I") ∈ AL := al_3 (List.mem_of_getElem? (i := 172) (by decide +kernel)) (by decide +kernel)
theorem kw_654 : (Cond.lays "HighkeyModel" "HighkeyModel" "cursors" "I") ∈ AL := al_3 (List.mem_of_getElem? (i := 174) (by decide +kernel)) (by decide +kernel)
theorem kw_656 : (Cond.laysFinal "HighkeyModel" "HighkeyModel" "areOpen" "[Z") ∈ AL := al_3 (List.mem_of_getElem? (i := 176) (by decide +kernel)) (by decide +kernel)
theorem kw_658 : (Cond.laysFinal "HighkeyModel" "HighkeyModel" "leaves" "[I") ∈ AL := al_3 (List.mem_of_getElem? (i := 178) (by decide +kernel)) (by decide +kernel)
theorem kw_660 : (Cond.laysFinal "HighkeyModel" "HighkeyModel" "lasts" "[I") ∈ AL := al_3 (List.mem_of_getElem? (i := 180) (by decide +kernel)) (by decide +kernel)
theorem kw_662 : (Cond.laysFinal "HighkeyModel" "HighkeyModel" "epochs" "[I") ∈ AL := al_3 (List.mem_of_getElem? (i := 182) (by decide +kernel)) (by decide +kernel)
theorem kw_664 : (Cond.lays "HighkeyModel" "HighkeyModel" "followed" "I") ∈ AL := al_3 (List.mem_of_getElem? (i := 184) (by decide +kernel)) (by decide +kernel)
theorem kw_666 : (Cond.superclass "HighkeyModel" "java/lang/Object") ∈ AL := al_3 (List.mem_of_getElem? (i := 186) (by decide +kernel)) (by decide +kernel)
theorem kw_667 : (Cond.arrayClass FieldType.boolean) ∈ AL := al_3 (List.mem_of_getElem? (i := 187) (by decide +kernel)) (by decide +kernel)
theorem kw_668 : (Cond.methodLink "HighkeyLaw" 76 yX3_thrown) ∈ AL := al_3 (List.mem_of_getElem? (i := 188) (by decide +kernel)) (by decide +kernel)
theorem kw_669 : (Cond.instanceMethod yX3_thrown) ∈ AL := al_3 (List.mem_of_getElem? (i := 189) (by decide +kernel)) (by decide +kernel)
theorem kw_670 : (Cond.selects "HighkeyModel" yX3_thrown yX3_thrown) ∈ AL := al_3 (List.mem_of_getElem? (i := 190) (by decide +kernel)) (by decide +kernel)
theorem kw_671 : (Cond.code yX3_thrown prog_5_method_2_code 1 (some FieldType.int)) ∈ AL := al_3 (List.mem_of_getElem? (i := 191) (by decide +kernel)) (by decide +kernel)
theorem kw_672 : (Cond.methodLink "HighkeyLaw" 75 yX3_put) ∈ AL := al_3 (List.mem_of_getElem? (i := 192) (by decide +kernel)) (by decide +kernel)
theorem kw_673 : (Cond.instanceMethod yX3_put) ∈ AL := al_3 (List.mem_of_getElem? (i := 193) (by decide +kernel)) (by decide +kernel)
theorem kw_674 : (Cond.selects "HighkeyModel" yX3_put yX3_put) ∈ AL := al_3 (List.mem_of_getElem? (i := 194) (by decide +kernel)) (by decide +kernel)
theorem kw_675 : (Cond.code yX3_put prog_5_method_14_code 6 (some FieldType.int)) ∈ AL := al_3 (List.mem_of_getElem? (i := 195) (by decide +kernel)) (by decide +kernel)
theorem kw_676 : (Cond.methodLink "HighkeyModel" 93 yX3_isKey) ∈ AL := al_3 (List.mem_of_getElem? (i := 196) (by decide +kernel)) (by decide +kernel)
theorem kw_677 : (Cond.static yX3_isKey) ∈ AL := al_3 (List.mem_of_getElem? (i := 197) (by decide +kernel)) (by decide +kernel)
theorem kw_678 : (Cond.code yX3_isKey prog_5_method_5_code 1 (some FieldType.boolean)) ∈ AL := al_3 (List.mem_of_getElem? (i := 198) (by decide +kernel)) (by decide +kernel)
theorem kw_679 : (Cond.methodLink "HighkeyModel" 64 yX3_in) ∈ AL := al_3 (List.mem_of_getElem? (i := 199) (by decide +kernel)) (by decide +kernel)
theorem kw_680 : (Cond.static yX3_in) ∈ AL := al_3 (List.mem_of_getElem? (i := 200) (by decide +kernel)) (by decide +kernel)
theorem kw_681 : (Cond.code yX3_in prog_5_method_4_code 3 (some FieldType.boolean)) ∈ AL := al_3 (List.mem_of_getElem? (i := 201) (by decide +kernel)) (by decide +kernel)
theorem kw_682 : (Cond.methodLink "HighkeyModel" 97 yX3_holds) ∈ AL := al_3 (List.mem_of_getElem? (i := 202) (by decide +kernel)) (by decide +kernel)
theorem kw_684 : (Cond.instanceMethod yX3_holds) ∈ AL := al_3 (List.mem_of_getElem? (i := 204) (by decide +kernel)) (by decide +kernel)
theorem kw_685 : (Cond.code yX3_holds prog_5_method_3_code 2 (some FieldType.boolean)) ∈ AL := al_3 (List.mem_of_getElem? (i := 205) (by decide +kernel)) (by decide +kernel)
theorem kw_686 : (Cond.methodLink "HighkeyModel" 86 yX3_down) ∈ AL := al_3 (List.mem_of_getElem? (i := 206) (by decide +kernel)) (by decide +kernel)
theorem kw_688 : (Cond.instanceMethod yX3_down) ∈ AL := al_3 (List.mem_of_getElem? (i := 208) (by decide +kernel)) (by decide +kernel)
theorem kw_689 : (Cond.code yX3_down prog_5_method_8_code 5 (some FieldType.int)) ∈ AL := al_3 (List.mem_of_getElem? (i := 209) (by decide +kernel)) (by decide +kernel)
theorem kw_690 : (Cond.methodLink "HighkeyModel" 71 yX3_place) ∈ AL := al_3 (List.mem_of_getElem? (i := 210) (by decide +kernel)) (by decide +kernel)
theorem kw_692 : (Cond.instanceMethod yX3_place) ∈ AL := al_3 (List.mem_of_getElem? (i := 212) (by decide +kernel)) (by decide +kernel)
theorem kw_693 : (Cond.code yX3_place prog_5_method_7_code 5 (some FieldType.int)) ∈ AL := al_3 (List.mem_of_getElem? (i := 213) (by decide +kernel)) (by decide +kernel)
theorem kw_694 : (Cond.methodLink "HighkeyModel" 100 yX3_hasKey) ∈ AL := al_3 (List.mem_of_getElem? (i := 214) (by decide +kernel)) (by decide +kernel)
theorem kw_696 : (Cond.instanceMethod yX3_hasKey) ∈ AL := al_3 (List.mem_of_getElem? (i := 216) (by decide +kernel)) (by decide +kernel)
theorem kw_697 : (Cond.code yX3_hasKey prog_5_method_9_code 4 (some FieldType.boolean)) ∈ AL := al_3 (List.mem_of_getElem? (i := 217) (by decide +kernel)) (by decide +kernel)
theorem kw_698 : (Cond.methodLink "HighkeyModel" 89 yX3_adds) ∈ AL := al_3 (List.mem_of_getElem? (i := 218) (by decide +kernel)) (by decide +kernel)
theorem kw_700 : (Cond.instanceMethod yX3_adds) ∈ AL := al_3 (List.mem_of_getElem? (i := 220) (by decide +kernel)) (by decide +kernel)
theorem kw_701 : (Cond.code yX3_adds prog_5_method_11_code 6 none) ∈ AL := al_3 (List.mem_of_getElem? (i := 221) (by decide +kernel)) (by decide +kernel)
theorem kw_702 : (Cond.methodLink "HighkeyModel" 75 yX3_sets) ∈ AL := al_3 (List.mem_of_getElem? (i := 222) (by decide +kernel)) (by decide +kernel)
theorem kw_704 : (Cond.instanceMethod yX3_sets) ∈ AL := al_3 (List.mem_of_getElem? (i := 224) (by decide +kernel)) (by decide +kernel)
theorem kw_705 : (Cond.code yX3_sets prog_5_method_10_code 5 none) ∈ AL := al_3 (List.mem_of_getElem? (i := 225) (by decide +kernel)) (by decide +kernel)
theorem kw_706 : (Cond.methodLink "HighkeyModel" 79 yX3_splits) ∈ AL := al_3 (List.mem_of_getElem? (i := 226) (by decide +kernel)) (by decide +kernel)
theorem kw_708 : (Cond.instanceMethod yX3_splits) ∈ AL := al_3 (List.mem_of_getElem? (i := 228) (by decide +kernel)) (by decide +kernel)
theorem kw_709 : (Cond.code yX3_splits prog_5_method_12_code 3 none) ∈ AL := al_3 (List.mem_of_getElem? (i := 229) (by decide +kernel)) (by decide +kernel)
theorem kw_710 : (Cond.methodLink "HighkeyLaw" 82 yX3_take) ∈ AL := al_3 (List.mem_of_getElem? (i := 230) (by decide +kernel)) (by decide +kernel)
theorem kw_711 : (Cond.instanceMethod yX3_take) ∈ AL := al_3 (List.mem_of_getElem? (i := 231) (by decide +kernel)) (by decide +kernel)
theorem kw_712 : (Cond.selects "HighkeyModel" yX3_take yX3_take) ∈ AL := al_3 (List.mem_of_getElem? (i := 232) (by decide +kernel)) (by decide +kernel)
theorem kw_713 : (Cond.code yX3_take prog_5_method_17_code 4 (some FieldType.int)) ∈ AL := al_3 (List.mem_of_getElem? (i := 233) (by decide +kernel)) (by decide +kernel)
theorem kw_714 : (Cond.methodLink "HighkeyModel" 103 yX3_valueOf) ∈ AL := al_3 (List.mem_of_getElem? (i := 234) (by decide +kernel)) (by decide +kernel)
theorem kw_716 : (Cond.instanceMethod yX3_valueOf) ∈ AL := al_3 (List.mem_of_getElem? (i := 236) (by decide +kernel)) (by decide +kernel)
theorem kw_717 : (Cond.code yX3_valueOf prog_5_method_16_code 4 (some FieldType.int)) ∈ AL := al_3 (List.mem_of_getElem? (i := 237) (by decide +kernel)) (by decide +kernel)
theorem kw_718 : (Cond.methodLink "HighkeyModel" 107 yX3_removes) ∈ AL := al_3 (List.mem_of_getElem? (i := 238) (by decide +kernel)) (by decide +kernel)
theorem kw_720 : (Cond.instanceMethod yX3_removes) ∈ AL := al_4 (List.mem_of_getElem? (i := 0) (by decide +kernel)) (by decide +kernel)
theorem kw_721 : (Cond.code yX3_removes prog_5_method_15_code 4 none) ∈ AL := al_4 (List.mem_of_getElem? (i := 1) (by decide +kernel)) (by decide +kernel)
theorem kw_722 : (Cond.methodLink "HighkeyLaw" 85 yX3_get) ∈ AL := al_4 (List.mem_of_getElem? (i := 2) (by decide +kernel)) (by decide +kernel)
theorem kw_723 : (Cond.instanceMethod yX3_get) ∈ AL := al_4 (List.mem_of_getElem? (i := 3) (by decide +kernel)) (by decide +kernel)
theorem kw_724 : (Cond.selects "HighkeyModel" yX3_get yX3_get) ∈ AL := al_4 (List.mem_of_getElem? (i := 4) (by decide +kernel)) (by decide +kernel)
theorem kw_725 : (Cond.code yX3_get prog_5_method_18_code 2 (some FieldType.int)) ∈ AL := al_4 (List.mem_of_getElem? (i := 5) (by decide +kernel)) (by decide +kernel)
theorem kw_726 : (Cond.methodLink "HighkeyLaw" 88 yX3_getByLeaves) ∈ AL := al_4 (List.mem_of_getElem? (i := 6) (by decide +kernel)) (by decide +kernel)
theorem kw_727 : (Cond.instanceMethod yX3_getByLeaves) ∈ AL := al_4 (List.mem_of_getElem? (i := 7) (by decide +kernel)) (by decide +kernel)
theorem kw_728 : (Cond.selects "HighkeyModel" yX3_getByLeaves yX3_getByLeaves) ∈ AL := al_4 (List.mem_of_getElem? (i := 8) (by decide +kernel)) (by decide +kernel)
theorem kw_729 : (Cond.code yX3_getByLeaves prog_5_method_19_code 2 (some FieldType.int)) ∈ AL := al_4 (List.mem_of_getElem? (i := 9) (by decide +kernel)) (by decide +kernel)
theorem kw_730 : (Cond.methodLink "HighkeyLaw" 92 yX3_keys) ∈ AL := al_4 (List.mem_of_getElem? (i := 10) (by decide +kernel)) (by decide +kernel)
theorem kw_731 : (Cond.instanceMethod yX3_keys) ∈ AL := al_4 (List.mem_of_getElem? (i := 11) (by decide +kernel)) (by decide +kernel)
theorem kw_732 : (Cond.selects "HighkeyModel" yX3_keys yX3_keys) ∈ AL := al_4 (List.mem_of_getElem? (i := 12) (by decide +kernel)) (by decide +kernel)
theorem kw_733 : (Cond.code yX3_keys prog_5_method_20_code 3 (some FieldType.int)) ∈ AL := al_4 (List.mem_of_getElem? (i := 13) (by decide +kernel)) (by decide +kernel)
theorem kw_734 : (Cond.methodLink "HighkeyLaw" 96 yX3_waiting) ∈ AL := al_4 (List.mem_of_getElem? (i := 14) (by decide +kernel)) (by decide +kernel)
theorem kw_735 : (Cond.instanceMethod yX3_waiting) ∈ AL := al_4 (List.mem_of_getElem? (i := 15) (by decide +kernel)) (by decide +kernel)
theorem kw_736 : (Cond.selects "HighkeyModel" yX3_waiting yX3_waiting) ∈ AL := al_4 (List.mem_of_getElem? (i := 16) (by decide +kernel)) (by decide +kernel)
theorem kw_737 : (Cond.code yX3_waiting prog_5_method_21_code 1 (some FieldType.int)) ∈ AL := al_4 (List.mem_of_getElem? (i := 17) (by decide +kernel)) (by decide +kernel)
theorem kw_738 : (Cond.methodLink "HighkeyLaw" 100 yX3_post) ∈ AL := al_4 (List.mem_of_getElem? (i := 18) (by decide +kernel)) (by decide +kernel)
theorem kw_739 : (Cond.instanceMethod yX3_post) ∈ AL := al_4 (List.mem_of_getElem? (i := 19) (by decide +kernel)) (by decide +kernel)
theorem kw_740 : (Cond.selects "HighkeyModel" yX3_post yX3_post) ∈ AL := al_4 (List.mem_of_getElem? (i := 20) (by decide +kernel)) (by decide +kernel)
theorem kw_741 : (Cond.code yX3_post prog_5_method_22_code 1 (some FieldType.int)) ∈ AL := al_4 (List.mem_of_getElem? (i := 21) (by decide +kernel)) (by decide +kernel)
theorem kw_742 : (Cond.methodLink "HighkeyModel" 111 yX3_posts) ∈ AL := al_4 (List.mem_of_getElem? (i := 22) (by decide +kernel)) (by decide +kernel)
theorem kw_744 : (Cond.instanceMethod yX3_posts) ∈ AL := al_4 (List.mem_of_getElem? (i := 24) (by decide +kernel)) (by decide +kernel)
theorem kw_745 : (Cond.code yX3_posts prog_5_method_13_code 3 none) ∈ AL := al_4 (List.mem_of_getElem? (i := 25) (by decide +kernel)) (by decide +kernel)
theorem kw_746 : (Cond.methodLink "HighkeyLaw" 104 yX3_postAll) ∈ AL := al_4 (List.mem_of_getElem? (i := 26) (by decide +kernel)) (by decide +kernel)
theorem kw_747 : (Cond.instanceMethod yX3_postAll) ∈ AL := al_4 (List.mem_of_getElem? (i := 27) (by decide +kernel)) (by decide +kernel)
theorem kw_748 : (Cond.selects "HighkeyModel" yX3_postAll yX3_postAll) ∈ AL := al_4 (List.mem_of_getElem? (i := 28) (by decide +kernel)) (by decide +kernel)
theorem kw_749 : (Cond.code yX3_postAll prog_5_method_23_code 2 (some FieldType.int)) ∈ AL := al_4 (List.mem_of_getElem? (i := 29) (by decide +kernel)) (by decide +kernel)
theorem kw_750 : (Cond.methodLink "HighkeyLaw" 108 yX3_takeOut) ∈ AL := al_4 (List.mem_of_getElem? (i := 30) (by decide +kernel)) (by decide +kernel)
theorem kw_751 : (Cond.instanceMethod yX3_takeOut) ∈ AL := al_4 (List.mem_of_getElem? (i := 31) (by decide +kernel)) (by decide +kernel)
theorem kw_752 : (Cond.selects "HighkeyModel" yX3_takeOut yX3_takeOut) ∈ AL := al_4 (List.mem_of_getElem? (i := 32) (by decide +kernel)) (by decide +kernel)
theorem kw_753 : (Cond.code yX3_takeOut prog_5_method_25_code 4 (some FieldType.int)) ∈ AL := al_4 (List.mem_of_getElem? (i := 33) (by decide +kernel)) (by decide +kernel)
theorem kw_754 : (Cond.methodLink "HighkeyModel" 114 yX3_found) ∈ AL := al_4 (List.mem_of_getElem? (i := 34) (by decide +kernel)) (by decide +kernel)
theorem kw_756 : (Cond.instanceMethod yX3_found) ∈ AL := al_4 (List.mem_of_getElem? (i := 36) (by decide +kernel)) (by decide +kernel)
theorem kw_757 : (Cond.code yX3_found prog_5_method_24_code 6 (some FieldType.int)) ∈ AL := al_4 (List.mem_of_getElem? (i := 37) (by decide +kernel)) (by decide +kernel)
theorem kw_758 : (Cond.methodLink "HighkeyLaw" 112 yX3_recycle) ∈ AL := al_4 (List.mem_of_getElem? (i := 38) (by decide +kernel)) (by decide +kernel)
theorem kw_759 : (Cond.instanceMethod yX3_recycle) ∈ AL := al_4 (List.mem_of_getElem? (i := 39) (by decide +kernel)) (by decide +kernel)
theorem kw_760 : (Cond.selects "HighkeyModel" yX3_recycle yX3_recycle) ∈ AL := al_4 (List.mem_of_getElem? (i := 40) (by decide +kernel)) (by decide +kernel)
theorem kw_761 : (Cond.code yX3_recycle prog_5_method_27_code 3 (some FieldType.int)) ∈ AL := al_4 (List.mem_of_getElem? (i := 41) (by decide +kernel)) (by decide +kernel)
theorem kw_762 : (Cond.methodLink "HighkeyModel" 124 yX3_mayRecycle) ∈ AL := al_4 (List.mem_of_getElem? (i := 42) (by decide +kernel)) (by decide +kernel)
theorem kw_764 : (Cond.instanceMethod yX3_mayRecycle) ∈ AL := al_4 (List.mem_of_getElem? (i := 44) (by decide +kernel)) (by decide +kernel)
theorem kw_765 : (Cond.code yX3_mayRecycle prog_5_method_26_code 3 (some FieldType.boolean)) ∈ AL := al_4 (List.mem_of_getElem? (i := 45) (by decide +kernel)) (by decide +kernel)
theorem kw_766 : (Cond.methodLink "HighkeyLaw" 116 yX3_dead) ∈ AL := al_4 (List.mem_of_getElem? (i := 46) (by decide +kernel)) (by decide +kernel)
theorem kw_767 : (Cond.instanceMethod yX3_dead) ∈ AL := al_4 (List.mem_of_getElem? (i := 47) (by decide +kernel)) (by decide +kernel)
theorem kw_768 : (Cond.selects "HighkeyModel" yX3_dead yX3_dead) ∈ AL := al_4 (List.mem_of_getElem? (i := 48) (by decide +kernel)) (by decide +kernel)
theorem kw_769 : (Cond.code yX3_dead prog_5_method_28_code 3 (some FieldType.int)) ∈ AL := al_4 (List.mem_of_getElem? (i := 49) (by decide +kernel)) (by decide +kernel)
theorem kw_770 : (Cond.methodLink "HighkeyLaw" 120 yX3_epoch) ∈ AL := al_4 (List.mem_of_getElem? (i := 50) (by decide +kernel)) (by decide +kernel)
theorem kw_771 : (Cond.instanceMethod yX3_epoch) ∈ AL := al_4 (List.mem_of_getElem? (i := 51) (by decide +kernel)) (by decide +kernel)
theorem kw_772 : (Cond.selects "HighkeyModel" yX3_epoch yX3_epoch) ∈ AL := al_4 (List.mem_of_getElem? (i := 52) (by decide +kernel)) (by decide +kernel)
theorem kw_773 : (Cond.code yX3_epoch prog_5_method_29_code 1 (some FieldType.int)) ∈ AL := al_4 (List.mem_of_getElem? (i := 53) (by decide +kernel)) (by decide +kernel)
theorem kw_774 : (Cond.methodLink "HighkeyLaw" 124 yX3_pages) ∈ AL := al_4 (List.mem_of_getElem? (i := 54) (by decide +kernel)) (by decide +kernel)
theorem kw_775 : (Cond.instanceMethod yX3_pages) ∈ AL := al_4 (List.mem_of_getElem? (i := 55) (by decide +kernel)) (by decide +kernel)
theorem kw_776 : (Cond.selects "HighkeyModel" yX3_pages yX3_pages) ∈ AL := al_4 (List.mem_of_getElem? (i := 56) (by decide +kernel)) (by decide +kernel)
theorem kw_777 : (Cond.code yX3_pages prog_5_method_30_code 3 (some FieldType.int)) ∈ AL := al_4 (List.mem_of_getElem? (i := 57) (by decide +kernel)) (by decide +kernel)
theorem kw_778 : (Cond.methodLink "HighkeyLaw" 128 yX3_root) ∈ AL := al_4 (List.mem_of_getElem? (i := 58) (by decide +kernel)) (by decide +kernel)
theorem kw_779 : (Cond.instanceMethod yX3_root) ∈ AL := al_4 (List.mem_of_getElem? (i := 59) (by decide +kernel)) (by decide +kernel)
theorem kw_780 : (Cond.selects "HighkeyModel" yX3_root yX3_root) ∈ AL := al_4 (List.mem_of_getElem? (i := 60) (by decide +kernel)) (by decide +kernel)
theorem kw_781 : (Cond.code yX3_root prog_5_method_31_code 1 (some FieldType.int)) ∈ AL := al_4 (List.mem_of_getElem? (i := 61) (by decide +kernel)) (by decide +kernel)
theorem kw_782 : (Cond.methodLink "HighkeyLaw" 131 yX3_level) ∈ AL := al_4 (List.mem_of_getElem? (i := 62) (by decide +kernel)) (by decide +kernel)
theorem kw_783 : (Cond.instanceMethod yX3_level) ∈ AL := al_4 (List.mem_of_getElem? (i := 63) (by decide +kernel)) (by decide +kernel)
theorem kw_784 : (Cond.selects "HighkeyModel" yX3_level yX3_level) ∈ AL := al_4 (List.mem_of_getElem? (i := 64) (by decide +kernel)) (by decide +kernel)
theorem kw_785 : (Cond.code yX3_level prog_5_method_33_code 2 (some FieldType.int)) ∈ AL := al_4 (List.mem_of_getElem? (i := 65) (by decide +kernel)) (by decide +kernel)
theorem kw_786 : (Cond.methodLink "HighkeyModel" 127 yX3_isPage) ∈ AL := al_4 (List.mem_of_getElem? (i := 66) (by decide +kernel)) (by decide +kernel)
theorem kw_788 : (Cond.instanceMethod yX3_isPage) ∈ AL := al_4 (List.mem_of_getElem? (i := 68) (by decide +kernel)) (by decide +kernel)
theorem kw_789 : (Cond.code yX3_isPage prog_5_method_32_code 2 (some FieldType.boolean)) ∈ AL := al_4 (List.mem_of_getElem? (i := 69) (by decide +kernel)) (by decide +kernel)
theorem kw_790 : (Cond.methodLink "HighkeyLaw" 134 yX3_size) ∈ AL := al_4 (List.mem_of_getElem? (i := 70) (by decide +kernel)) (by decide +kernel)
theorem kw_791 : (Cond.instanceMethod yX3_size) ∈ AL := al_4 (List.mem_of_getElem? (i := 71) (by decide +kernel)) (by decide +kernel)
theorem kw_792 : (Cond.selects "HighkeyModel" yX3_size yX3_size) ∈ AL := al_4 (List.mem_of_getElem? (i := 72) (by decide +kernel)) (by decide +kernel)
theorem kw_793 : (Cond.code yX3_size prog_5_method_34_code 2 (some FieldType.int)) ∈ AL := al_4 (List.mem_of_getElem? (i := 73) (by decide +kernel)) (by decide +kernel)
theorem kw_794 : (Cond.methodLink "HighkeyLaw" 137 yX3_keyAt) ∈ AL := al_4 (List.mem_of_getElem? (i := 74) (by decide +kernel)) (by decide +kernel)
theorem kw_795 : (Cond.instanceMethod yX3_keyAt) ∈ AL := al_4 (List.mem_of_getElem? (i := 75) (by decide +kernel)) (by decide +kernel)
theorem kw_796 : (Cond.selects "HighkeyModel" yX3_keyAt yX3_keyAt) ∈ AL := al_4 (List.mem_of_getElem? (i := 76) (by decide +kernel)) (by decide +kernel)
theorem kw_797 : (Cond.code yX3_keyAt prog_5_method_35_code 3 (some FieldType.int)) ∈ AL := al_4 (List.mem_of_getElem? (i := 77) (by decide +kernel)) (by decide +kernel)
theorem kw_798 : (Cond.methodLink "HighkeyLaw" 140 yX3_below) ∈ AL := al_4 (List.mem_of_getElem? (i := 78) (by decide +kernel)) (by decide +kernel)
theorem kw_799 : (Cond.instanceMethod yX3_below) ∈ AL := al_4 (List.mem_of_getElem? (i := 79) (by decide +kernel)) (by decide +kernel)
theorem kw_800 : (Cond.selects "HighkeyModel" yX3_below yX3_below) ∈ AL := al_4 (List.mem_of_getElem? (i := 80) (by decide +kernel)) (by decide +kernel)
theorem kw_801 : (Cond.code yX3_below prog_5_method_36_code 3 (some FieldType.int)) ∈ AL := al_4 (List.mem_of_getElem? (i := 81) (by decide +kernel)) (by decide +kernel)
theorem kw_802 : (Cond.methodLink "HighkeyLaw" 143 yX3_high) ∈ AL := al_4 (List.mem_of_getElem? (i := 82) (by decide +kernel)) (by decide +kernel)
theorem kw_803 : (Cond.instanceMethod yX3_high) ∈ AL := al_4 (List.mem_of_getElem? (i := 83) (by decide +kernel)) (by decide +kernel)
theorem kw_804 : (Cond.selects "HighkeyModel" yX3_high yX3_high) ∈ AL := al_4 (List.mem_of_getElem? (i := 84) (by decide +kernel)) (by decide +kernel)
theorem kw_805 : (Cond.code yX3_high prog_5_method_37_code 2 (some FieldType.int)) ∈ AL := al_4 (List.mem_of_getElem? (i := 85) (by decide +kernel)) (by decide +kernel)
theorem kw_806 : (Cond.methodLink "HighkeyLaw" 146 yX3_right) ∈ AL := al_4 (List.mem_of_getElem? (i := 86) (by decide +kernel)) (by decide +kernel)
theorem kw_807 : (Cond.instanceMethod yX3_right) ∈ AL := al_4 (List.mem_of_getElem? (i := 87) (by decide +kernel)) (by decide +kernel)
theorem kw_808 : (Cond.selects "HighkeyModel" yX3_right yX3_right) ∈ AL := al_4 (List.mem_of_getElem? (i := 88) (by decide +kernel)) (by decide +kernel)
theorem kw_809 : (Cond.code yX3_right prog_5_method_38_code 2 (some FieldType.int)) ∈ AL := al_4 (List.mem_of_getElem? (i := 89) (by decide +kernel)) (by decide +kernel)
theorem kw_810 : (Cond.methodLink "HighkeyLaw" 149 yX3_links) ∈ AL := al_4 (List.mem_of_getElem? (i := 90) (by decide +kernel)) (by decide +kernel)
theorem kw_811 : (Cond.instanceMethod yX3_links) ∈ AL := al_4 (List.mem_of_getElem? (i := 91) (by decide +kernel)) (by decide +kernel)
theorem kw_812 : (Cond.selects "HighkeyModel" yX3_links yX3_links) ∈ AL := al_4 (List.mem_of_getElem? (i := 92) (by decide +kernel)) (by decide +kernel)
theorem kw_813 : (Cond.code yX3_links prog_5_method_39_code 3 (some FieldType.int)) ∈ AL := al_4 (List.mem_of_getElem? (i := 93) (by decide +kernel)) (by decide +kernel)
theorem kw_814 : (Cond.methodLink "HighkeyLaw" 152 yX3_open) ∈ AL := al_4 (List.mem_of_getElem? (i := 94) (by decide +kernel)) (by decide +kernel)
theorem kw_815 : (Cond.instanceMethod yX3_open) ∈ AL := al_4 (List.mem_of_getElem? (i := 95) (by decide +kernel)) (by decide +kernel)
theorem kw_816 : (Cond.selects "HighkeyModel" yX3_open yX3_open) ∈ AL := al_4 (List.mem_of_getElem? (i := 96) (by decide +kernel)) (by decide +kernel)
theorem kw_817 : (Cond.code yX3_open prog_5_method_40_code 2 (some FieldType.int)) ∈ AL := al_4 (List.mem_of_getElem? (i := 97) (by decide +kernel)) (by decide +kernel)
theorem kw_818 : (Cond.methodLink "HighkeyLaw" 155 yX3_next) ∈ AL := al_4 (List.mem_of_getElem? (i := 98) (by decide +kernel)) (by decide +kernel)
theorem kw_819 : (Cond.instanceMethod yX3_next) ∈ AL := al_4 (List.mem_of_getElem? (i := 99) (by decide +kernel)) (by decide +kernel)
theorem kw_820 : (Cond.selects "HighkeyModel" yX3_next yX3_next) ∈ AL := al_4 (List.mem_of_getElem? (i := 100) (by decide +kernel)) (by decide +kernel)
theorem kw_821 : (Cond.code yX3_next prog_5_method_42_code 4 (some FieldType.int)) ∈ AL := al_4 (List.mem_of_getElem? (i := 101) (by decide +kernel)) (by decide +kernel)
theorem kw_822 : (Cond.methodLink "HighkeyModel" 130 yX3_isCursor) ∈ AL := al_4 (List.mem_of_getElem? (i := 102) (by decide +kernel)) (by decide +kernel)
theorem kw_824 : (Cond.instanceMethod yX3_isCursor) ∈ AL := al_4 (List.mem_of_getElem? (i := 104) (by decide +kernel)) (by decide +kernel)
theorem kw_825 : (Cond.code yX3_isCursor prog_5_method_41_code 2 (some FieldType.boolean)) ∈ AL := al_4 (List.mem_of_getElem? (i := 105) (by decide +kernel)) (by decide +kernel)
theorem kw_826 : (Cond.methodLink "HighkeyLaw" 158 yX3_leafOf) ∈ AL := al_4 (List.mem_of_getElem? (i := 106) (by decide +kernel)) (by decide +kernel)
theorem kw_827 : (Cond.instanceMethod yX3_leafOf) ∈ AL := al_4 (List.mem_of_getElem? (i := 107) (by decide +kernel)) (by decide +kernel)
theorem kw_828 : (Cond.selects "HighkeyModel" yX3_leafOf yX3_leafOf) ∈ AL := al_4 (List.mem_of_getElem? (i := 108) (by decide +kernel)) (by decide +kernel)
theorem kw_829 : (Cond.code yX3_leafOf prog_5_method_43_code 2 (some FieldType.int)) ∈ AL := al_4 (List.mem_of_getElem? (i := 109) (by decide +kernel)) (by decide +kernel)
theorem kw_830 : (Cond.methodLink "HighkeyLaw" 161 yX3_close) ∈ AL := al_4 (List.mem_of_getElem? (i := 110) (by decide +kernel)) (by decide +kernel)
theorem kw_831 : (Cond.instanceMethod yX3_close) ∈ AL := al_4 (List.mem_of_getElem? (i := 111) (by decide +kernel)) (by decide +kernel)
theorem kw_832 : (Cond.selects "HighkeyModel" yX3_close yX3_close) ∈ AL := al_4 (List.mem_of_getElem? (i := 112) (by decide +kernel)) (by decide +kernel)
theorem kw_833 : (Cond.code yX3_close prog_5_method_44_code 4 (some FieldType.int)) ∈ AL := al_4 (List.mem_of_getElem? (i := 113) (by decide +kernel)) (by decide +kernel)
theorem kw_834 : (Cond.arrayClass FieldType.long) ∈ AL := al_4 (List.mem_of_getElem? (i := 114) (by decide +kernel)) (by decide +kernel)
theorem kw_835 : (Cond.sameMethod "java/lang/Throwable" "java/lang/Throwable" "fillInStackTrace" "(I)Ljava/lang/Throwable;") ∈ AL := al_4 (List.mem_of_getElem? (i := 115) (by decide +kernel)) (by decide +kernel)
theorem kn_836 : (Cond.castable "Highkey$Page" "java/lang/Object") ∈ lw_tbl := tl_4 (List.mem_of_getElem? (i := 116) (by decide +kernel))
theorem kn_837 : (Cond.castable "Highkey$Cursor" "java/lang/Object") ∈ lw_tbl := tl_4 (List.mem_of_getElem? (i := 117) (by decide +kernel))
theorem kn_838 : (Cond.castable "Highkey" "java/lang/Object") ∈ lw_tbl := tl_4 (List.mem_of_getElem? (i := 118) (by decide +kernel))
theorem kn_839 : (Cond.castable "java/util/ArrayList" "java/lang/Object") ∈ lw_tbl := tl_4 (List.mem_of_getElem? (i := 119) (by decide +kernel))
theorem kn_840 : (Cond.castable "HighkeyModel" "java/lang/Object") ∈ lw_tbl := tl_4 (List.mem_of_getElem? (i := 120) (by decide +kernel))
theorem kn_841 : (Cond.castable "java/lang/IllegalArgumentException" "java/lang/Object") ∈ lw_tbl := tl_4 (List.mem_of_getElem? (i := 121) (by decide +kernel))
theorem kn_842 : (Cond.castable "java/lang/IllegalStateException" "java/lang/Object") ∈ lw_tbl := tl_4 (List.mem_of_getElem? (i := 122) (by decide +kernel))
theorem kn_843 : (Cond.castable "java/lang/IndexOutOfBoundsException" "java/lang/Object") ∈ lw_tbl := tl_4 (List.mem_of_getElem? (i := 123) (by decide +kernel))
theorem kn_844 : (Cond.castable "java/lang/Throwable" "java/lang/Object") ∈ lw_tbl := tl_4 (List.mem_of_getElem? (i := 124) (by decide +kernel))
theorem kn_845 : (Cond.castable "java/lang/String" "java/lang/Object") ∈ lw_tbl := tl_4 (List.mem_of_getElem? (i := 125) (by decide +kernel))
theorem kw_846 : (Cond.sameMethod "[Ljava/lang/Object;" "java/lang/Object" "getClass" "()Ljava/lang/Class;") ∈ AL := al_4 (List.mem_of_getElem? (i := 126) (by decide +kernel)) (by decide +kernel)
theorem kw_847 : (Cond.selects "[Ljava/lang/Object;" ({ cls := "java/lang/Object", name := "getClass", desc := "()Ljava/lang/Class;" } : MethodName) ({ cls := "java/lang/Object", name := "getClass", desc := "()Ljava/lang/Class;" } : MethodName)) ∈ AL := al_4 (List.mem_of_getElem? (i := 127) (by decide +kernel)) (by decide +kernel)
theorem kn_848 : (Cond.declares ({ cls := "java/lang/Object", name := "getClass", desc := "()Ljava/lang/Class;" } : MethodName)) ∈ lw_tbl := tl_4 (List.mem_of_getElem? (i := 128) (by decide +kernel))
theorem kn_849 : (Cond.castable "[LHighkey$Page;" "java/lang/Object") ∈ lw_tbl := tl_4 (List.mem_of_getElem? (i := 129) (by decide +kernel))
theorem kn_850 : (Cond.castable "[LHighkey$Cursor;" "java/lang/Object") ∈ lw_tbl := tl_4 (List.mem_of_getElem? (i := 130) (by decide +kernel))
theorem kn_851 : (Cond.castable "[I" "java/lang/Object") ∈ lw_tbl := tl_4 (List.mem_of_getElem? (i := 131) (by decide +kernel))
theorem kn_852 : (Cond.castable "[Ljava/lang/Object;" "java/lang/Object") ∈ lw_tbl := tl_4 (List.mem_of_getElem? (i := 132) (by decide +kernel))
theorem kn_853 : (Cond.castable "[B" "java/lang/Object") ∈ lw_tbl := tl_4 (List.mem_of_getElem? (i := 133) (by decide +kernel))
theorem kn_854 : (Cond.castable "[Z" "java/lang/Object") ∈ lw_tbl := tl_4 (List.mem_of_getElem? (i := 134) (by decide +kernel))
theorem kn_855 : (Cond.castable "[J" "java/lang/Object") ∈ lw_tbl := tl_4 (List.mem_of_getElem? (i := 135) (by decide +kernel))
theorem kp_0 : (Cond.selects "Highkey" yX2_postLongestWaiting yX2_postLongestWaiting) ∈ AL := al_p (List.mem_of_getElem? (i := 0) (by decide +kernel)) (by decide +kernel)
theorem kp_1 : (Cond.selects "java/util/ArrayList" yJx4a65c_fastRemove_b59b0 yJx4a65c_fastRemove_b59b0) ∈ AL := al_p (List.mem_of_getElem? (i := 1) (by decide +kernel)) (by decide +kernel)
theorem kp_2 : (Cond.selects "Highkey" yX2_growRoot yX2_growRoot) ∈ AL := al_p (List.mem_of_getElem? (i := 2) (by decide +kernel)) (by decide +kernel)
theorem kp_3 : (Cond.selects "Highkey" yX2_lowestFreeNumber yX2_lowestFreeNumber) ∈ AL := al_p (List.mem_of_getElem? (i := 3) (by decide +kernel)) (by decide +kernel)
theorem kp_4 : (Cond.selects "Highkey$Page" yX1_copy yX1_copy) ∈ AL := al_p (List.mem_of_getElem? (i := 4) (by decide +kernel)) (by decide +kernel)
theorem kp_5 : (Cond.selects "Highkey" yX2_goDown yX2_goDown) ∈ AL := al_p (List.mem_of_getElem? (i := 5) (by decide +kernel)) (by decide +kernel)
theorem kp_6 : (Cond.selects "Highkey" yX2_addTo yX2_addTo) ∈ AL := al_p (List.mem_of_getElem? (i := 6) (by decide +kernel)) (by decide +kernel)
theorem kp_7 : (Cond.selects "java/util/ArrayList" yJx4a65c_add_72be8 yJx4a65c_add_72be8) ∈ AL := al_p (List.mem_of_getElem? (i := 7) (by decide +kernel)) (by decide +kernel)
theorem kp_8 : (Cond.selects "java/util/ArrayList" yJx4a65c_grow_d5877 yJx4a65c_grow_d5877) ∈ AL := al_p (List.mem_of_getElem? (i := 8) (by decide +kernel)) (by decide +kernel)
theorem kp_9 : (Cond.selects "java/util/ArrayList" yJx4a65c_grow_92f84 yJx4a65c_grow_92f84) ∈ AL := al_p (List.mem_of_getElem? (i := 9) (by decide +kernel)) (by decide +kernel)
theorem kp_10 : (Cond.selects "Highkey" yX2_unlink yX2_unlink) ∈ AL := al_p (List.mem_of_getElem? (i := 10) (by decide +kernel)) (by decide +kernel)
theorem kp_11 : (Cond.selects "Highkey" yX2_allOpenedAfter yX2_allOpenedAfter) ∈ AL := al_p (List.mem_of_getElem? (i := 11) (by decide +kernel)) (by decide +kernel)
theorem kp_13 : (Cond.selects "Highkey" yX2_pageOf yX2_pageOf) ∈ AL := al_p (List.mem_of_getElem? (i := 13) (by decide +kernel)) (by decide +kernel)
theorem kp_14 : (Cond.selects "Highkey" yX2_cursorOf yX2_cursorOf) ∈ AL := al_p (List.mem_of_getElem? (i := 14) (by decide +kernel)) (by decide +kernel)
theorem kp_15 : (Cond.selects "HighkeyModel" yX3_made yX3_made) ∈ AL := al_p (List.mem_of_getElem? (i := 15) (by decide +kernel)) (by decide +kernel)
theorem kp_16 : (Cond.selects "HighkeyModel" yX3_holds yX3_holds) ∈ AL := al_p (List.mem_of_getElem? (i := 16) (by decide +kernel)) (by decide +kernel)
theorem kp_17 : (Cond.selects "HighkeyModel" yX3_down yX3_down) ∈ AL := al_p (List.mem_of_getElem? (i := 17) (by decide +kernel)) (by decide +kernel)
theorem kp_18 : (Cond.selects "HighkeyModel" yX3_place yX3_place) ∈ AL := al_p (List.mem_of_getElem? (i := 18) (by decide +kernel)) (by decide +kernel)
theorem kp_19 : (Cond.selects "HighkeyModel" yX3_hasKey yX3_hasKey) ∈ AL := al_p (List.mem_of_getElem? (i := 19) (by decide +kernel)) (by decide +kernel)
theorem kp_20 : (Cond.selects "HighkeyModel" yX3_adds yX3_adds) ∈ AL := al_p (List.mem_of_getElem? (i := 20) (by decide +kernel)) (by decide +kernel)
theorem kp_21 : (Cond.selects "HighkeyModel" yX3_sets yX3_sets) ∈ AL := al_p (List.mem_of_getElem? (i := 21) (by decide +kernel)) (by decide +kernel)
theorem kp_22 : (Cond.selects "HighkeyModel" yX3_splits yX3_splits) ∈ AL := al_p (List.mem_of_getElem? (i := 22) (by decide +kernel)) (by decide +kernel)
theorem kp_23 : (Cond.selects "HighkeyModel" yX3_valueOf yX3_valueOf) ∈ AL := al_p (List.mem_of_getElem? (i := 23) (by decide +kernel)) (by decide +kernel)
theorem kp_24 : (Cond.selects "HighkeyModel" yX3_removes yX3_removes) ∈ AL := al_p (List.mem_of_getElem? (i := 24) (by decide +kernel)) (by decide +kernel)
theorem kp_25 : (Cond.selects "HighkeyModel" yX3_posts yX3_posts) ∈ AL := al_p (List.mem_of_getElem? (i := 25) (by decide +kernel)) (by decide +kernel)
theorem kp_26 : (Cond.selects "HighkeyModel" yX3_found yX3_found) ∈ AL := al_p (List.mem_of_getElem? (i := 26) (by decide +kernel)) (by decide +kernel)
theorem kp_27 : (Cond.selects "HighkeyModel" yX3_mayRecycle yX3_mayRecycle) ∈ AL := al_p (List.mem_of_getElem? (i := 27) (by decide +kernel)) (by decide +kernel)
theorem kp_28 : (Cond.selects "HighkeyModel" yX3_isPage yX3_isPage) ∈ AL := al_p (List.mem_of_getElem? (i := 28) (by decide +kernel)) (by decide +kernel)
theorem kp_29 : (Cond.selects "HighkeyModel" yX3_isCursor yX3_isCursor) ∈ AL := al_p (List.mem_of_getElem? (i := 29) (by decide +kernel)) (by decide +kernel)
end
section
/-! decode rows -/
theorem dX0_init_0 : decode cX0_init 0 = .ok (.aload_n 0, 1) := by decide +kernel
theorem dX0_init_1 : decode cX0_init 1 = .ok (.invokespecial 3, 3) := by decide +kernel
theorem dX0_init_4 : decode cX0_init 4 = .ok (.aload_n 0, 1) := by decide +kernel
theorem dX0_init_5 : decode cX0_init 5 = .ok (.aload_n 1, 1) := by decide +kernel
theorem dX0_init_6 : decode cX0_init 6 = .ok (.putfield 9, 3) := by decide +kernel
theorem dX0_init_9 : decode cX0_init 9 = .ok (.aload_n 0, 1) := by decide +kernel
theorem dX0_init_10 : decode cX0_init 10 = .ok (.iload_n 2, 1) := by decide +kernel
theorem dX0_init_11 : decode cX0_init 11 = .ok (.putfield 15, 3) := by decide +kernel
theorem dX0_init_14 : decode cX0_init 14 = .ok (.aload_n 0, 1) := by decide +kernel
theorem dX0_init_15 : decode cX0_init 15 = .ok (.iload_n 3, 1) := by decide +kernel
theorem dX0_init_16 : decode cX0_init 16 = .ok (.putfield 19, 3) := by decide +kernel
theorem dX0_init_19 : decode cX0_init 19 = .ok (.return_, 1) := by decide +kernel
theorem dX0_walk_0 : decode cX0_walk 0 = .ok (.aload_n 0, 1) := by decide +kernel
theorem dX0_walk_1 : decode cX0_walk 1 = .ok (.getfield 9, 3) := by decide +kernel
theorem dX0_walk_4 : decode cX0_walk 4 = .ok (.astore_n 1, 1) := by decide +kernel
theorem dX0_walk_5 : decode cX0_walk 5 = .ok (.aload_n 1, 1) := by decide +kernel
theorem dX0_walk_6 : decode cX0_walk 6 = .ok (.ifnull 37, 3) := by decide +kernel
theorem dX0_walk_9 : decode cX0_walk 9 = .ok (.aload_n 0, 1) := by decide +kernel
theorem dX0_walk_10 : decode cX0_walk 10 = .ok (.aload_n 1, 1) := by decide +kernel
theorem dX0_walk_11 : decode cX0_walk 11 = .ok (.putfield 9, 3) := by decide +kernel
theorem dX0_walk_14 : decode cX0_walk 14 = .ok (.aload_n 1, 1) := by decide +kernel
theorem dX0_walk_15 : decode cX0_walk 15 = .ok (.aload_n 0, 1) := by decide +kernel
theorem dX0_walk_16 : decode cX0_walk 16 = .ok (.getfield 15, 3) := by decide +kernel
theorem dX0_walk_19 : decode cX0_walk 19 = .ok (.invokevirtual 22, 3) := by decide +kernel
theorem dX0_walk_22 : decode cX0_walk 22 = .ok (.istore_n 2, 1) := by decide +kernel
theorem dX0_walk_23 : decode cX0_walk 23 = .ok (.iload_n 2, 1) := by decide +kernel
theorem dX0_walk_24 : decode cX0_walk 24 = .ok (.iconst (-1), 1) := by decide +kernel
theorem dX0_walk_25 : decode cX0_walk 25 = .ok (.if_icmp .eq 10, 3) := by decide +kernel
theorem dX0_walk_28 : decode cX0_walk 28 = .ok (.aload_n 0, 1) := by decide +kernel
theorem dX0_walk_29 : decode cX0_walk 29 = .ok (.iload_n 2, 1) := by decide +kernel
theorem dX0_walk_30 : decode cX0_walk 30 = .ok (.putfield 15, 3) := by decide +kernel
theorem dX0_walk_33 : decode cX0_walk 33 = .ok (.iload_n 2, 1) := by decide +kernel
theorem dX0_walk_34 : decode cX0_walk 34 = .ok (.ireturn, 1) := by decide +kernel
theorem dX0_walk_35 : decode cX0_walk 35 = .ok (.aload_n 1, 1) := by decide +kernel
theorem dX0_walk_36 : decode cX0_walk 36 = .ok (.getfield 28, 3) := by decide +kernel
theorem dX0_walk_39 : decode cX0_walk 39 = .ok (.astore_n 1, 1) := by decide +kernel
theorem dX0_walk_40 : decode cX0_walk 40 = .ok (.goto (-35), 3) := by decide +kernel
theorem dX0_walk_43 : decode cX0_walk 43 = .ok (.iconst (-1), 1) := by decide +kernel
theorem dX0_walk_44 : decode cX0_walk 44 = .ok (.ireturn, 1) := by decide +kernel
theorem dX1_init_0 : decode cX1_init 0 = .ok (.aload_n 0, 1) := by decide +kernel
theorem dX1_init_1 : decode cX1_init 1 = .ok (.invokespecial 3, 3) := by decide +kernel
theorem dX1_init_4 : decode cX1_init 4 = .ok (.aload_n 0, 1) := by decide +kernel
theorem dX1_init_5 : decode cX1_init 5 = .ok (.iconst 5, 1) := by decide +kernel
theorem dX1_init_6 : decode cX1_init 6 = .ok (.newarray .int, 2) := by decide +kernel
theorem dX1_init_8 : decode cX1_init 8 = .ok (.putfield 11, 3) := by decide +kernel
theorem dX1_init_11 : decode cX1_init 11 = .ok (.aload_n 0, 1) := by decide +kernel
theorem dX1_init_12 : decode cX1_init 12 = .ok (.iconst 5, 1) := by decide +kernel
theorem dX1_init_13 : decode cX1_init 13 = .ok (.newarray .int, 2) := by decide +kernel
theorem dX1_init_15 : decode cX1_init 15 = .ok (.putfield 15, 3) := by decide +kernel
theorem dX1_init_18 : decode cX1_init 18 = .ok (.aload_n 0, 1) := by decide +kernel
theorem dX1_init_19 : decode cX1_init 19 = .ok (.iconst 5, 1) := by decide +kernel
theorem dX1_init_20 : decode cX1_init 20 = .ok (.anewarray 9, 3) := by decide +kernel
theorem dX1_init_23 : decode cX1_init 23 = .ok (.putfield 18, 3) := by decide +kernel
theorem dX1_init_26 : decode cX1_init 26 = .ok (.aload_n 0, 1) := by decide +kernel
theorem dX1_init_27 : decode cX1_init 27 = .ok (.iload_n 1, 1) := by decide +kernel
theorem dX1_init_28 : decode cX1_init 28 = .ok (.putfield 22, 3) := by decide +kernel
theorem dX1_init_31 : decode cX1_init 31 = .ok (.aload_n 0, 1) := by decide +kernel
theorem dX1_init_32 : decode cX1_init 32 = .ok (.iload_n 2, 1) := by decide +kernel
theorem dX1_init_33 : decode cX1_init 33 = .ok (.putfield 26, 3) := by decide +kernel
theorem dX1_init_36 : decode cX1_init 36 = .ok (.aload_n 0, 1) := by decide +kernel
theorem dX1_init_37 : decode cX1_init 37 = .ok (.iload_n 3, 1) := by decide +kernel
theorem dX1_init_38 : decode cX1_init 38 = .ok (.putfield 29, 3) := by decide +kernel
theorem dX1_init_41 : decode cX1_init 41 = .ok (.aload_n 0, 1) := by decide +kernel
theorem dX1_init_42 : decode cX1_init 42 = .ok (.iload 4, 2) := by decide +kernel
theorem dX1_init_44 : decode cX1_init 44 = .ok (.putfield 32, 3) := by decide +kernel
theorem dX1_init_47 : decode cX1_init 47 = .ok (.return_, 1) := by decide +kernel
theorem dX1_has_0 : decode cX1_has 0 = .ok (.iload_n 1, 1) := by decide +kernel
theorem dX1_has_1 : decode cX1_has 1 = .ok (.ifCond .lt 20, 3) := by decide +kernel
theorem dX1_has_4 : decode cX1_has 4 = .ok (.iload_n 1, 1) := by decide +kernel
theorem dX1_has_5 : decode cX1_has 5 = .ok (.aload_n 0, 1) := by decide +kernel
theorem dX1_has_6 : decode cX1_has 6 = .ok (.getfield 35, 3) := by decide +kernel
theorem dX1_has_9 : decode cX1_has 9 = .ok (.if_icmp .ge 12, 3) := by decide +kernel
theorem dX1_has_12 : decode cX1_has 12 = .ok (.iload_n 1, 1) := by decide +kernel
theorem dX1_has_13 : decode cX1_has 13 = .ok (.iconst 5, 1) := by decide +kernel
theorem dX1_has_14 : decode cX1_has 14 = .ok (.if_icmp .ge 7, 3) := by decide +kernel
theorem dX1_has_17 : decode cX1_has 17 = .ok (.iconst 1, 1) := by decide +kernel
theorem dX1_has_18 : decode cX1_has 18 = .ok (.goto 4, 3) := by decide +kernel
theorem dX1_has_21 : decode cX1_has 21 = .ok (.iconst 0, 1) := by decide +kernel
theorem dX1_has_22 : decode cX1_has 22 = .ok (.ireturn, 1) := by decide +kernel
theorem dX1_keyIn_0 : decode cX1_keyIn 0 = .ok (.aload_n 0, 1) := by decide +kernel
theorem dX1_keyIn_1 : decode cX1_keyIn 1 = .ok (.iload_n 1, 1) := by decide +kernel
theorem dX1_keyIn_2 : decode cX1_keyIn 2 = .ok (.invokevirtual 38, 3) := by decide +kernel
theorem dX1_keyIn_5 : decode cX1_keyIn 5 = .ok (.ifCond .eq 12, 3) := by decide +kernel
theorem dX1_keyIn_8 : decode cX1_keyIn 8 = .ok (.aload_n 0, 1) := by decide +kernel
theorem dX1_keyIn_9 : decode cX1_keyIn 9 = .ok (.getfield 11, 3) := by decide +kernel
theorem dX1_keyIn_12 : decode cX1_keyIn 12 = .ok (.iload_n 1, 1) := by decide +kernel
theorem dX1_keyIn_13 : decode cX1_keyIn 13 = .ok (.iaload, 1) := by decide +kernel
theorem dX1_keyIn_14 : decode cX1_keyIn 14 = .ok (.goto 4, 3) := by decide +kernel
theorem dX1_keyIn_17 : decode cX1_keyIn 17 = .ok (.iconst (-1), 1) := by decide +kernel
theorem dX1_keyIn_18 : decode cX1_keyIn 18 = .ok (.ireturn, 1) := by decide +kernel
theorem dX1_valueIn_0 : decode cX1_valueIn 0 = .ok (.aload_n 0, 1) := by decide +kernel
theorem dX1_valueIn_1 : decode cX1_valueIn 1 = .ok (.iload_n 1, 1) := by decide +kernel
theorem dX1_valueIn_2 : decode cX1_valueIn 2 = .ok (.invokevirtual 38, 3) := by decide +kernel
theorem dX1_valueIn_5 : decode cX1_valueIn 5 = .ok (.ifCond .eq 12, 3) := by decide +kernel
theorem dX1_valueIn_8 : decode cX1_valueIn 8 = .ok (.aload_n 0, 1) := by decide +kernel
theorem dX1_valueIn_9 : decode cX1_valueIn 9 = .ok (.getfield 15, 3) := by decide +kernel
theorem dX1_valueIn_12 : decode cX1_valueIn 12 = .ok (.iload_n 1, 1) := by decide +kernel
theorem dX1_valueIn_13 : decode cX1_valueIn 13 = .ok (.iaload, 1) := by decide +kernel
theorem dX1_valueIn_14 : decode cX1_valueIn 14 = .ok (.goto 4, 3) := by decide +kernel
theorem dX1_valueIn_17 : decode cX1_valueIn 17 = .ok (.iconst (-1), 1) := by decide +kernel
theorem dX1_valueIn_18 : decode cX1_valueIn 18 = .ok (.ireturn, 1) := by decide +kernel
theorem dX1_pageIn_0 : decode cX1_pageIn 0 = .ok (.aload_n 0, 1) := by decide +kernel
theorem dX1_pageIn_1 : decode cX1_pageIn 1 = .ok (.iload_n 1, 1) := by decide +kernel
theorem dX1_pageIn_2 : decode cX1_pageIn 2 = .ok (.invokevirtual 38, 3) := by decide +kernel
theorem dX1_pageIn_5 : decode cX1_pageIn 5 = .ok (.ifCond .eq 12, 3) := by decide +kernel
theorem dX1_pageIn_8 : decode cX1_pageIn 8 = .ok (.aload_n 0, 1) := by decide +kernel
theorem dX1_pageIn_9 : decode cX1_pageIn 9 = .ok (.getfield 18, 3) := by decide +kernel
theorem dX1_pageIn_12 : decode cX1_pageIn 12 = .ok (.iload_n 1, 1) := by decide +kernel
theorem dX1_pageIn_13 : decode cX1_pageIn 13 = .ok (.aaload, 1) := by decide +kernel
theorem dX1_pageIn_14 : decode cX1_pageIn 14 = .ok (.goto 4, 3) := by decide +kernel
theorem dX1_pageIn_17 : decode cX1_pageIn 17 = .ok (.aconst_null, 1) := by decide +kernel
theorem dX1_pageIn_18 : decode cX1_pageIn 18 = .ok (.areturn, 1) := by decide +kernel
theorem dX1_countLess_0 : decode cX1_countLess 0 = .ok (.iconst 0, 1) := by decide +kernel
theorem dX1_countLess_1 : decode cX1_countLess 1 = .ok (.istore_n 2, 1) := by decide +kernel
theorem dX1_countLess_2 : decode cX1_countLess 2 = .ok (.iload_n 2, 1) := by decide +kernel
theorem dX1_countLess_3 : decode cX1_countLess 3 = .ok (.aload_n 0, 1) := by decide +kernel
theorem dX1_countLess_4 : decode cX1_countLess 4 = .ok (.getfield 35, 3) := by decide +kernel
theorem dX1_countLess_7 : decode cX1_countLess 7 = .ok (.if_icmp .ge 24, 3) := by decide +kernel
theorem dX1_countLess_10 : decode cX1_countLess 10 = .ok (.iload_n 2, 1) := by decide +kernel
theorem dX1_countLess_11 : decode cX1_countLess 11 = .ok (.iconst 5, 1) := by decide +kernel
theorem dX1_countLess_12 : decode cX1_countLess 12 = .ok (.if_icmp .ge 19, 3) := by decide +kernel
theorem dX1_countLess_15 : decode cX1_countLess 15 = .ok (.aload_n 0, 1) := by decide +kernel
theorem dX1_countLess_16 : decode cX1_countLess 16 = .ok (.getfield 11, 3) := by decide +kernel
theorem dX1_countLess_19 : decode cX1_countLess 19 = .ok (.iload_n 2, 1) := by decide +kernel
theorem dX1_countLess_20 : decode cX1_countLess 20 = .ok (.iaload, 1) := by decide +kernel
theorem dX1_countLess_21 : decode cX1_countLess 21 = .ok (.iload_n 1, 1) := by decide +kernel
theorem dX1_countLess_22 : decode cX1_countLess 22 = .ok (.if_icmp .ge 9, 3) := by decide +kernel
theorem dX1_countLess_25 : decode cX1_countLess 25 = .ok (.iinc 2 1, 3) := by decide +kernel
theorem dX1_countLess_28 : decode cX1_countLess 28 = .ok (.goto (-26), 3) := by decide +kernel
theorem dX1_countLess_31 : decode cX1_countLess 31 = .ok (.iload_n 2, 1) := by decide +kernel
theorem dX1_countLess_32 : decode cX1_countLess 32 = .ok (.ireturn, 1) := by decide +kernel
theorem dX1_placeOf_0 : decode cX1_placeOf 0 = .ok (.aload_n 0, 1) := by decide +kernel
theorem dX1_placeOf_1 : decode cX1_placeOf 1 = .ok (.iload_n 1, 1) := by decide +kernel
theorem dX1_placeOf_2 : decode cX1_placeOf 2 = .ok (.invokevirtual 42, 3) := by decide +kernel
theorem dX1_placeOf_5 : decode cX1_placeOf 5 = .ok (.istore_n 2, 1) := by decide +kernel
theorem dX1_placeOf_6 : decode cX1_placeOf 6 = .ok (.aload_n 0, 1) := by decide +kernel
theorem dX1_placeOf_7 : decode cX1_placeOf 7 = .ok (.iload_n 2, 1) := by decide +kernel
theorem dX1_placeOf_8 : decode cX1_placeOf 8 = .ok (.invokevirtual 38, 3) := by decide +kernel
theorem dX1_placeOf_11 : decode cX1_placeOf 11 = .ok (.ifCond .eq 17, 3) := by decide +kernel
theorem dX1_placeOf_14 : decode cX1_placeOf 14 = .ok (.aload_n 0, 1) := by decide +kernel
theorem dX1_placeOf_15 : decode cX1_placeOf 15 = .ok (.getfield 11, 3) := by decide +kernel
theorem dX1_placeOf_18 : decode cX1_placeOf 18 = .ok (.iload_n 2, 1) := by decide +kernel
theorem dX1_placeOf_19 : decode cX1_placeOf 19 = .ok (.iaload, 1) := by decide +kernel
theorem dX1_placeOf_20 : decode cX1_placeOf 20 = .ok (.iload_n 1, 1) := by decide +kernel
theorem dX1_placeOf_21 : decode cX1_placeOf 21 = .ok (.if_icmp .ne 7, 3) := by decide +kernel
theorem dX1_placeOf_24 : decode cX1_placeOf 24 = .ok (.iload_n 2, 1) := by decide +kernel
theorem dX1_placeOf_25 : decode cX1_placeOf 25 = .ok (.goto 4, 3) := by decide +kernel
theorem dX1_placeOf_28 : decode cX1_placeOf 28 = .ok (.iconst (-1), 1) := by decide +kernel
theorem dX1_placeOf_29 : decode cX1_placeOf 29 = .ok (.ireturn, 1) := by decide +kernel
theorem dX1_leastKeyAbove_0 : decode cX1_leastKeyAbove 0 = .ok (.aload_n 0, 1) := by decide +kernel
theorem dX1_leastKeyAbove_1 : decode cX1_leastKeyAbove 1 = .ok (.aload_n 0, 1) := by decide +kernel
theorem dX1_leastKeyAbove_2 : decode cX1_leastKeyAbove 2 = .ok (.iload_n 1, 1) := by decide +kernel
theorem dX1_leastKeyAbove_3 : decode cX1_leastKeyAbove 3 = .ok (.iconst 1, 1) := by decide +kernel
theorem dX1_leastKeyAbove_4 : decode cX1_leastKeyAbove 4 = .ok (.iadd, 1) := by decide +kernel
theorem dX1_leastKeyAbove_5 : decode cX1_leastKeyAbove 5 = .ok (.invokevirtual 42, 3) := by decide +kernel
theorem dX1_leastKeyAbove_8 : decode cX1_leastKeyAbove 8 = .ok (.invokevirtual 46, 3) := by decide +kernel
theorem dX1_leastKeyAbove_11 : decode cX1_leastKeyAbove 11 = .ok (.ireturn, 1) := by decide +kernel
theorem dX1_onward_0 : decode cX1_onward 0 = .ok (.iload_n 1, 1) := by decide +kernel
theorem dX1_onward_1 : decode cX1_onward 1 = .ok (.aload_n 0, 1) := by decide +kernel
theorem dX1_onward_2 : decode cX1_onward 2 = .ok (.getfield 32, 3) := by decide +kernel
theorem dX1_onward_5 : decode cX1_onward 5 = .ok (.if_icmp .lt 8, 3) := by decide +kernel
theorem dX1_onward_8 : decode cX1_onward 8 = .ok (.aload_n 0, 1) := by decide +kernel
theorem dX1_onward_9 : decode cX1_onward 9 = .ok (.getfield 49, 3) := by decide +kernel
theorem dX1_onward_12 : decode cX1_onward 12 = .ok (.areturn, 1) := by decide +kernel
theorem dX1_onward_13 : decode cX1_onward 13 = .ok (.aload_n 0, 1) := by decide +kernel
theorem dX1_onward_14 : decode cX1_onward 14 = .ok (.getfield 26, 3) := by decide +kernel
theorem dX1_onward_17 : decode cX1_onward 17 = .ok (.iload_n 2, 1) := by decide +kernel
theorem dX1_onward_18 : decode cX1_onward 18 = .ok (.if_icmp .le 19, 3) := by decide +kernel
theorem dX1_onward_21 : decode cX1_onward 21 = .ok (.aload_n 0, 1) := by decide +kernel
theorem dX1_onward_22 : decode cX1_onward 22 = .ok (.aload_n 0, 1) := by decide +kernel
theorem dX1_onward_23 : decode cX1_onward 23 = .ok (.iload_n 1, 1) := by decide +kernel
theorem dX1_onward_24 : decode cX1_onward 24 = .ok (.iconst 1, 1) := by decide +kernel
theorem dX1_onward_25 : decode cX1_onward 25 = .ok (.iadd, 1) := by decide +kernel
theorem dX1_onward_26 : decode cX1_onward 26 = .ok (.invokevirtual 42, 3) := by decide +kernel
theorem dX1_onward_29 : decode cX1_onward 29 = .ok (.iconst 1, 1) := by decide +kernel
theorem dX1_onward_30 : decode cX1_onward 30 = .ok (.isub, 1) := by decide +kernel
theorem dX1_onward_31 : decode cX1_onward 31 = .ok (.invokevirtual 53, 3) := by decide +kernel
theorem dX1_onward_34 : decode cX1_onward 34 = .ok (.goto 4, 3) := by decide +kernel
theorem dX1_onward_37 : decode cX1_onward 37 = .ok (.aconst_null, 1) := by decide +kernel
theorem dX1_onward_38 : decode cX1_onward 38 = .ok (.areturn, 1) := by decide +kernel
theorem dX1_changeValue_0 : decode cX1_changeValue 0 = .ok (.aload_n 0, 1) := by decide +kernel
theorem dX1_changeValue_1 : decode cX1_changeValue 1 = .ok (.iload_n 1, 1) := by decide +kernel
theorem dX1_changeValue_2 : decode cX1_changeValue 2 = .ok (.invokevirtual 38, 3) := by decide +kernel
theorem dX1_changeValue_5 : decode cX1_changeValue 5 = .ok (.ifCond .ne 5, 3) := by decide +kernel
theorem dX1_changeValue_8 : decode cX1_changeValue 8 = .ok (.iconst (-1), 1) := by decide +kernel
theorem dX1_changeValue_9 : decode cX1_changeValue 9 = .ok (.ireturn, 1) := by decide +kernel
theorem dX1_changeValue_10 : decode cX1_changeValue 10 = .ok (.aload_n 0, 1) := by decide +kernel
theorem dX1_changeValue_11 : decode cX1_changeValue 11 = .ok (.getfield 15, 3) := by decide +kernel
theorem dX1_changeValue_14 : decode cX1_changeValue 14 = .ok (.iload_n 1, 1) := by decide +kernel
theorem dX1_changeValue_15 : decode cX1_changeValue 15 = .ok (.iaload, 1) := by decide +kernel
theorem dX1_changeValue_16 : decode cX1_changeValue 16 = .ok (.istore_n 3, 1) := by decide +kernel
theorem dX1_changeValue_17 : decode cX1_changeValue 17 = .ok (.aload_n 0, 1) := by decide +kernel
theorem dX1_changeValue_18 : decode cX1_changeValue 18 = .ok (.getfield 15, 3) := by decide +kernel
theorem dX1_changeValue_21 : decode cX1_changeValue 21 = .ok (.iload_n 1, 1) := by decide +kernel
theorem dX1_changeValue_22 : decode cX1_changeValue 22 = .ok (.iload_n 2, 1) := by decide +kernel
theorem dX1_changeValue_23 : decode cX1_changeValue 23 = .ok (.iastore, 1) := by decide +kernel
theorem dX1_changeValue_24 : decode cX1_changeValue 24 = .ok (.iload_n 3, 1) := by decide +kernel
theorem dX1_changeValue_25 : decode cX1_changeValue 25 = .ok (.ireturn, 1) := by decide +kernel
theorem dX1_insert_0 : decode cX1_insert 0 = .ok (.aload_n 0, 1) := by decide +kernel
theorem dX1_insert_1 : decode cX1_insert 1 = .ok (.getfield 35, 3) := by decide +kernel
theorem dX1_insert_4 : decode cX1_insert 4 = .ok (.ifCond .lt 11, 3) := by decide +kernel
theorem dX1_insert_7 : decode cX1_insert 7 = .ok (.aload_n 0, 1) := by decide +kernel
theorem dX1_insert_8 : decode cX1_insert 8 = .ok (.getfield 35, 3) := by decide +kernel
theorem dX1_insert_11 : decode cX1_insert 11 = .ok (.iconst 5, 1) := by decide +kernel
theorem dX1_insert_12 : decode cX1_insert 12 = .ok (.if_icmp .lt 4, 3) := by decide +kernel
theorem dX1_insert_15 : decode cX1_insert 15 = .ok (.return_, 1) := by decide +kernel
theorem dX1_insert_16 : decode cX1_insert 16 = .ok (.aload_n 0, 1) := by decide +kernel
theorem dX1_insert_17 : decode cX1_insert 17 = .ok (.iload_n 1, 1) := by decide +kernel
theorem dX1_insert_18 : decode cX1_insert 18 = .ok (.invokevirtual 42, 3) := by decide +kernel
theorem dX1_insert_21 : decode cX1_insert 21 = .ok (.istore 4, 2) := by decide +kernel
theorem dX1_insert_23 : decode cX1_insert 23 = .ok (.aload_n 0, 1) := by decide +kernel
theorem dX1_insert_24 : decode cX1_insert 24 = .ok (.getfield 35, 3) := by decide +kernel
theorem dX1_insert_27 : decode cX1_insert 27 = .ok (.istore 5, 2) := by decide +kernel
theorem dX1_insert_29 : decode cX1_insert 29 = .ok (.iload 5, 2) := by decide +kernel
theorem dX1_insert_31 : decode cX1_insert 31 = .ok (.iload 4, 2) := by decide +kernel
theorem dX1_insert_33 : decode cX1_insert 33 = .ok (.if_icmp .le 19, 3) := by decide +kernel
theorem dX1_insert_36 : decode cX1_insert 36 = .ok (.aload_n 0, 1) := by decide +kernel
theorem dX1_insert_37 : decode cX1_insert 37 = .ok (.iload 5, 2) := by decide +kernel
theorem dX1_insert_39 : decode cX1_insert 39 = .ok (.iconst 1, 1) := by decide +kernel
theorem dX1_insert_40 : decode cX1_insert 40 = .ok (.isub, 1) := by decide +kernel
theorem dX1_insert_41 : decode cX1_insert 41 = .ok (.iload 5, 2) := by decide +kernel
theorem dX1_insert_43 : decode cX1_insert 43 = .ok (.invokevirtual 57, 3) := by decide +kernel
theorem dX1_insert_46 : decode cX1_insert 46 = .ok (.iinc 5 (-1), 3) := by decide +kernel
theorem dX1_insert_49 : decode cX1_insert 49 = .ok (.goto (-20), 3) := by decide +kernel
theorem dX1_insert_52 : decode cX1_insert 52 = .ok (.aload_n 0, 1) := by decide +kernel
theorem dX1_insert_53 : decode cX1_insert 53 = .ok (.getfield 11, 3) := by decide +kernel
theorem dX1_insert_56 : decode cX1_insert 56 = .ok (.iload 4, 2) := by decide +kernel
theorem dX1_insert_58 : decode cX1_insert 58 = .ok (.iload_n 1, 1) := by decide +kernel
theorem dX1_insert_59 : decode cX1_insert 59 = .ok (.iastore, 1) := by decide +kernel
theorem dX1_insert_60 : decode cX1_insert 60 = .ok (.aload_n 0, 1) := by decide +kernel
theorem dX1_insert_61 : decode cX1_insert 61 = .ok (.getfield 15, 3) := by decide +kernel
theorem dX1_insert_64 : decode cX1_insert 64 = .ok (.iload 4, 2) := by decide +kernel
theorem dX1_insert_66 : decode cX1_insert 66 = .ok (.iload_n 2, 1) := by decide +kernel
theorem dX1_insert_67 : decode cX1_insert 67 = .ok (.iastore, 1) := by decide +kernel
theorem dX1_insert_68 : decode cX1_insert 68 = .ok (.aload_n 0, 1) := by decide +kernel
theorem dX1_insert_69 : decode cX1_insert 69 = .ok (.getfield 18, 3) := by decide +kernel
theorem dX1_insert_72 : decode cX1_insert 72 = .ok (.iload 4, 2) := by decide +kernel
theorem dX1_insert_74 : decode cX1_insert 74 = .ok (.aload_n 3, 1) := by decide +kernel
theorem dX1_insert_75 : decode cX1_insert 75 = .ok (.aastore, 1) := by decide +kernel
theorem dX1_insert_76 : decode cX1_insert 76 = .ok (.aload_n 0, 1) := by decide +kernel
theorem dX1_insert_77 : decode cX1_insert 77 = .ok (.dup, 1) := by decide +kernel
theorem dX1_insert_78 : decode cX1_insert 78 = .ok (.getfield 35, 3) := by decide +kernel
theorem dX1_insert_81 : decode cX1_insert 81 = .ok (.iconst 1, 1) := by decide +kernel
theorem dX1_insert_82 : decode cX1_insert 82 = .ok (.iadd, 1) := by decide +kernel
theorem dX1_insert_83 : decode cX1_insert 83 = .ok (.putfield 35, 3) := by decide +kernel
theorem dX1_insert_86 : decode cX1_insert 86 = .ok (.return_, 1) := by decide +kernel
theorem dX1_removeFrom_0 : decode cX1_removeFrom 0 = .ok (.aload_n 0, 1) := by decide +kernel
theorem dX1_removeFrom_1 : decode cX1_removeFrom 1 = .ok (.iload_n 1, 1) := by decide +kernel
theorem dX1_removeFrom_2 : decode cX1_removeFrom 2 = .ok (.invokevirtual 38, 3) := by decide +kernel
theorem dX1_removeFrom_5 : decode cX1_removeFrom 5 = .ok (.ifCond .ne 4, 3) := by decide +kernel
theorem dX1_removeFrom_8 : decode cX1_removeFrom 8 = .ok (.return_, 1) := by decide +kernel
theorem dX1_removeFrom_9 : decode cX1_removeFrom 9 = .ok (.iload_n 1, 1) := by decide +kernel
theorem dX1_removeFrom_10 : decode cX1_removeFrom 10 = .ok (.istore_n 2, 1) := by decide +kernel
theorem dX1_removeFrom_11 : decode cX1_removeFrom 11 = .ok (.iload_n 2, 1) := by decide +kernel
theorem dX1_removeFrom_12 : decode cX1_removeFrom 12 = .ok (.iconst 1, 1) := by decide +kernel
theorem dX1_removeFrom_13 : decode cX1_removeFrom 13 = .ok (.iadd, 1) := by decide +kernel
theorem dX1_removeFrom_14 : decode cX1_removeFrom 14 = .ok (.aload_n 0, 1) := by decide +kernel
theorem dX1_removeFrom_15 : decode cX1_removeFrom 15 = .ok (.getfield 35, 3) := by decide +kernel
theorem dX1_removeFrom_18 : decode cX1_removeFrom 18 = .ok (.if_icmp .ge 17, 3) := by decide +kernel
theorem dX1_removeFrom_21 : decode cX1_removeFrom 21 = .ok (.aload_n 0, 1) := by decide +kernel
theorem dX1_removeFrom_22 : decode cX1_removeFrom 22 = .ok (.iload_n 2, 1) := by decide +kernel
theorem dX1_removeFrom_23 : decode cX1_removeFrom 23 = .ok (.iconst 1, 1) := by decide +kernel
theorem dX1_removeFrom_24 : decode cX1_removeFrom 24 = .ok (.iadd, 1) := by decide +kernel
theorem dX1_removeFrom_25 : decode cX1_removeFrom 25 = .ok (.iload_n 2, 1) := by decide +kernel
theorem dX1_removeFrom_26 : decode cX1_removeFrom 26 = .ok (.invokevirtual 57, 3) := by decide +kernel
theorem dX1_removeFrom_29 : decode cX1_removeFrom 29 = .ok (.iinc 2 1, 3) := by decide +kernel
theorem dX1_removeFrom_32 : decode cX1_removeFrom 32 = .ok (.goto (-21), 3) := by decide +kernel
theorem dX1_removeFrom_35 : decode cX1_removeFrom 35 = .ok (.aload_n 0, 1) := by decide +kernel
theorem dX1_removeFrom_36 : decode cX1_removeFrom 36 = .ok (.dup, 1) := by decide +kernel
theorem dX1_removeFrom_37 : decode cX1_removeFrom 37 = .ok (.getfield 35, 3) := by decide +kernel
theorem dX1_removeFrom_40 : decode cX1_removeFrom 40 = .ok (.iconst 1, 1) := by decide +kernel
theorem dX1_removeFrom_41 : decode cX1_removeFrom 41 = .ok (.isub, 1) := by decide +kernel
theorem dX1_removeFrom_42 : decode cX1_removeFrom 42 = .ok (.putfield 35, 3) := by decide +kernel
theorem dX1_removeFrom_45 : decode cX1_removeFrom 45 = .ok (.return_, 1) := by decide +kernel
theorem dX1_copy_0 : decode cX1_copy 0 = .ok (.iload_n 1, 1) := by decide +kernel
theorem dX1_copy_1 : decode cX1_copy 1 = .ok (.ifCond .lt 17, 3) := by decide +kernel
theorem dX1_copy_4 : decode cX1_copy 4 = .ok (.iload_n 1, 1) := by decide +kernel
theorem dX1_copy_5 : decode cX1_copy 5 = .ok (.iconst 5, 1) := by decide +kernel
theorem dX1_copy_6 : decode cX1_copy 6 = .ok (.if_icmp .ge 12, 3) := by decide +kernel
theorem dX1_copy_9 : decode cX1_copy 9 = .ok (.iload_n 2, 1) := by decide +kernel
theorem dX1_copy_10 : decode cX1_copy 10 = .ok (.ifCond .lt 8, 3) := by decide +kernel
theorem dX1_copy_13 : decode cX1_copy 13 = .ok (.iload_n 2, 1) := by decide +kernel
theorem dX1_copy_14 : decode cX1_copy 14 = .ok (.iconst 5, 1) := by decide +kernel
theorem dX1_copy_15 : decode cX1_copy 15 = .ok (.if_icmp .lt 4, 3) := by decide +kernel
theorem dX1_copy_18 : decode cX1_copy 18 = .ok (.return_, 1) := by decide +kernel
theorem dX1_copy_19 : decode cX1_copy 19 = .ok (.aload_n 0, 1) := by decide +kernel
theorem dX1_copy_20 : decode cX1_copy 20 = .ok (.getfield 11, 3) := by decide +kernel
theorem dX1_copy_23 : decode cX1_copy 23 = .ok (.iload_n 2, 1) := by decide +kernel
theorem dX1_copy_24 : decode cX1_copy 24 = .ok (.aload_n 0, 1) := by decide +kernel
theorem dX1_copy_25 : decode cX1_copy 25 = .ok (.getfield 11, 3) := by decide +kernel
theorem dX1_copy_28 : decode cX1_copy 28 = .ok (.iload_n 1, 1) := by decide +kernel
theorem dX1_copy_29 : decode cX1_copy 29 = .ok (.iaload, 1) := by decide +kernel
theorem dX1_copy_30 : decode cX1_copy 30 = .ok (.iastore, 1) := by decide +kernel
theorem dX1_copy_31 : decode cX1_copy 31 = .ok (.aload_n 0, 1) := by decide +kernel
theorem dX1_copy_32 : decode cX1_copy 32 = .ok (.getfield 15, 3) := by decide +kernel
theorem dX1_copy_35 : decode cX1_copy 35 = .ok (.iload_n 2, 1) := by decide +kernel
theorem dX1_copy_36 : decode cX1_copy 36 = .ok (.aload_n 0, 1) := by decide +kernel
theorem dX1_copy_37 : decode cX1_copy 37 = .ok (.getfield 15, 3) := by decide +kernel
theorem dX1_copy_40 : decode cX1_copy 40 = .ok (.iload_n 1, 1) := by decide +kernel
theorem dX1_copy_41 : decode cX1_copy 41 = .ok (.iaload, 1) := by decide +kernel
theorem dX1_copy_42 : decode cX1_copy 42 = .ok (.iastore, 1) := by decide +kernel
theorem dX1_copy_43 : decode cX1_copy 43 = .ok (.aload_n 0, 1) := by decide +kernel
theorem dX1_copy_44 : decode cX1_copy 44 = .ok (.getfield 18, 3) := by decide +kernel
theorem dX1_copy_47 : decode cX1_copy 47 = .ok (.iload_n 2, 1) := by decide +kernel
theorem dX1_copy_48 : decode cX1_copy 48 = .ok (.aload_n 0, 1) := by decide +kernel
theorem dX1_copy_49 : decode cX1_copy 49 = .ok (.getfield 18, 3) := by decide +kernel
theorem dX1_copy_52 : decode cX1_copy 52 = .ok (.iload_n 1, 1) := by decide +kernel
theorem dX1_copy_53 : decode cX1_copy 53 = .ok (.aaload, 1) := by decide +kernel
theorem dX1_copy_54 : decode cX1_copy 54 = .ok (.aastore, 1) := by decide +kernel
theorem dX1_copy_55 : decode cX1_copy 55 = .ok (.return_, 1) := by decide +kernel
theorem dX1_split_0 : decode cX1_split 0 = .ok (.new 9, 3) := by decide +kernel
theorem dX1_split_3 : decode cX1_split 3 = .ok (.dup, 1) := by decide +kernel
theorem dX1_split_4 : decode cX1_split 4 = .ok (.iload_n 1, 1) := by decide +kernel
theorem dX1_split_5 : decode cX1_split 5 = .ok (.aload_n 0, 1) := by decide +kernel
theorem dX1_split_6 : decode cX1_split 6 = .ok (.getfield 26, 3) := by decide +kernel
theorem dX1_split_9 : decode cX1_split 9 = .ok (.aload_n 0, 1) := by decide +kernel
theorem dX1_split_10 : decode cX1_split 10 = .ok (.iconst 3, 1) := by decide +kernel
theorem dX1_split_11 : decode cX1_split 11 = .ok (.invokevirtual 46, 3) := by decide +kernel
theorem dX1_split_14 : decode cX1_split 14 = .ok (.aload_n 0, 1) := by decide +kernel
theorem dX1_split_15 : decode cX1_split 15 = .ok (.getfield 32, 3) := by decide +kernel
theorem dX1_split_18 : decode cX1_split 18 = .ok (.invokespecial 61, 3) := by decide +kernel
theorem dX1_split_21 : decode cX1_split 21 = .ok (.astore_n 2, 1) := by decide +kernel
theorem dX1_split_22 : decode cX1_split 22 = .ok (.iconst 3, 1) := by decide +kernel
theorem dX1_split_23 : decode cX1_split 23 = .ok (.istore_n 3, 1) := by decide +kernel
theorem dX1_split_24 : decode cX1_split 24 = .ok (.iload_n 3, 1) := by decide +kernel
theorem dX1_split_25 : decode cX1_split 25 = .ok (.aload_n 0, 1) := by decide +kernel
theorem dX1_split_26 : decode cX1_split 26 = .ok (.getfield 35, 3) := by decide +kernel
theorem dX1_split_29 : decode cX1_split 29 = .ok (.if_icmp .ge 36, 3) := by decide +kernel
theorem dX1_split_32 : decode cX1_split 32 = .ok (.iload_n 3, 1) := by decide +kernel
theorem dX1_split_33 : decode cX1_split 33 = .ok (.iconst 5, 1) := by decide +kernel
theorem dX1_split_34 : decode cX1_split 34 = .ok (.if_icmp .ge 31, 3) := by decide +kernel
theorem dX1_split_37 : decode cX1_split 37 = .ok (.aload_n 2, 1) := by decide +kernel
theorem dX1_split_38 : decode cX1_split 38 = .ok (.aload_n 0, 1) := by decide +kernel
theorem dX1_split_39 : decode cX1_split 39 = .ok (.getfield 11, 3) := by decide +kernel
theorem dX1_split_42 : decode cX1_split 42 = .ok (.iload_n 3, 1) := by decide +kernel
theorem dX1_split_43 : decode cX1_split 43 = .ok (.iaload, 1) := by decide +kernel
theorem dX1_split_44 : decode cX1_split 44 = .ok (.aload_n 0, 1) := by decide +kernel
theorem dX1_split_45 : decode cX1_split 45 = .ok (.getfield 15, 3) := by decide +kernel
theorem dX1_split_48 : decode cX1_split 48 = .ok (.iload_n 3, 1) := by decide +kernel
theorem dX1_split_49 : decode cX1_split 49 = .ok (.iaload, 1) := by decide +kernel
theorem dX1_split_50 : decode cX1_split 50 = .ok (.aload_n 0, 1) := by decide +kernel
theorem dX1_split_51 : decode cX1_split 51 = .ok (.getfield 18, 3) := by decide +kernel
theorem dX1_split_54 : decode cX1_split 54 = .ok (.iload_n 3, 1) := by decide +kernel
theorem dX1_split_55 : decode cX1_split 55 = .ok (.aaload, 1) := by decide +kernel
theorem dX1_split_56 : decode cX1_split 56 = .ok (.invokevirtual 64, 3) := by decide +kernel
theorem dX1_split_59 : decode cX1_split 59 = .ok (.iinc 3 1, 3) := by decide +kernel
theorem dX1_split_62 : decode cX1_split 62 = .ok (.goto (-38), 3) := by decide +kernel
theorem dX1_split_65 : decode cX1_split 65 = .ok (.aload_n 2, 1) := by decide +kernel
theorem dX1_split_66 : decode cX1_split 66 = .ok (.aload_n 0, 1) := by decide +kernel
theorem dX1_split_67 : decode cX1_split 67 = .ok (.getfield 49, 3) := by decide +kernel
theorem dX1_split_70 : decode cX1_split 70 = .ok (.putfield 49, 3) := by decide +kernel
theorem dX1_split_73 : decode cX1_split 73 = .ok (.aload_n 0, 1) := by decide +kernel
theorem dX1_split_74 : decode cX1_split 74 = .ok (.iconst 3, 1) := by decide +kernel
theorem dX1_split_75 : decode cX1_split 75 = .ok (.putfield 35, 3) := by decide +kernel
theorem dX1_split_78 : decode cX1_split 78 = .ok (.aload_n 0, 1) := by decide +kernel
theorem dX1_split_79 : decode cX1_split 79 = .ok (.aload_n 2, 1) := by decide +kernel
theorem dX1_split_80 : decode cX1_split 80 = .ok (.getfield 29, 3) := by decide +kernel
theorem dX1_split_83 : decode cX1_split 83 = .ok (.putfield 32, 3) := by decide +kernel
theorem dX1_split_86 : decode cX1_split 86 = .ok (.aload_n 0, 1) := by decide +kernel
theorem dX1_split_87 : decode cX1_split 87 = .ok (.aload_n 2, 1) := by decide +kernel
theorem dX1_split_88 : decode cX1_split 88 = .ok (.putfield 49, 3) := by decide +kernel
theorem dX1_split_91 : decode cX1_split 91 = .ok (.aload_n 2, 1) := by decide +kernel
theorem dX1_split_92 : decode cX1_split 92 = .ok (.areturn, 1) := by decide +kernel
theorem dX1_placeOfEmptyLeaf_0 : decode cX1_placeOfEmptyLeaf 0 = .ok (.iconst 1, 1) := by decide +kernel
theorem dX1_placeOfEmptyLeaf_1 : decode cX1_placeOfEmptyLeaf 1 = .ok (.istore_n 1, 1) := by decide +kernel
theorem dX1_placeOfEmptyLeaf_2 : decode cX1_placeOfEmptyLeaf 2 = .ok (.iload_n 1, 1) := by decide +kernel
theorem dX1_placeOfEmptyLeaf_3 : decode cX1_placeOfEmptyLeaf 3 = .ok (.aload_n 0, 1) := by decide +kernel
theorem dX1_placeOfEmptyLeaf_4 : decode cX1_placeOfEmptyLeaf 4 = .ok (.getfield 35, 3) := by decide +kernel
theorem dX1_placeOfEmptyLeaf_7 : decode cX1_placeOfEmptyLeaf 7 = .ok (.if_icmp .ge 34, 3) := by decide +kernel
theorem dX1_placeOfEmptyLeaf_10 : decode cX1_placeOfEmptyLeaf 10 = .ok (.iload_n 1, 1) := by decide +kernel
theorem dX1_placeOfEmptyLeaf_11 : decode cX1_placeOfEmptyLeaf 11 = .ok (.iconst 5, 1) := by decide +kernel
theorem dX1_placeOfEmptyLeaf_12 : decode cX1_placeOfEmptyLeaf 12 = .ok (.if_icmp .ge 29, 3) := by decide +kernel
theorem dX1_placeOfEmptyLeaf_15 : decode cX1_placeOfEmptyLeaf 15 = .ok (.aload_n 0, 1) := by decide +kernel
theorem dX1_placeOfEmptyLeaf_16 : decode cX1_placeOfEmptyLeaf 16 = .ok (.getfield 18, 3) := by decide +kernel
theorem dX1_placeOfEmptyLeaf_19 : decode cX1_placeOfEmptyLeaf 19 = .ok (.iload_n 1, 1) := by decide +kernel
theorem dX1_placeOfEmptyLeaf_20 : decode cX1_placeOfEmptyLeaf 20 = .ok (.aaload, 1) := by decide +kernel
theorem dX1_placeOfEmptyLeaf_21 : decode cX1_placeOfEmptyLeaf 21 = .ok (.astore_n 2, 1) := by decide +kernel
theorem dX1_placeOfEmptyLeaf_22 : decode cX1_placeOfEmptyLeaf 22 = .ok (.aload_n 2, 1) := by decide +kernel
theorem dX1_placeOfEmptyLeaf_23 : decode cX1_placeOfEmptyLeaf 23 = .ok (.ifnull 12, 3) := by decide +kernel
theorem dX1_placeOfEmptyLeaf_26 : decode cX1_placeOfEmptyLeaf 26 = .ok (.aload_n 2, 1) := by decide +kernel
theorem dX1_placeOfEmptyLeaf_27 : decode cX1_placeOfEmptyLeaf 27 = .ok (.getfield 35, 3) := by decide +kernel
theorem dX1_placeOfEmptyLeaf_30 : decode cX1_placeOfEmptyLeaf 30 = .ok (.ifCond .ne 5, 3) := by decide +kernel
theorem dX1_placeOfEmptyLeaf_33 : decode cX1_placeOfEmptyLeaf 33 = .ok (.iload_n 1, 1) := by decide +kernel
theorem dX1_placeOfEmptyLeaf_34 : decode cX1_placeOfEmptyLeaf 34 = .ok (.ireturn, 1) := by decide +kernel
theorem dX1_placeOfEmptyLeaf_35 : decode cX1_placeOfEmptyLeaf 35 = .ok (.iinc 1 1, 3) := by decide +kernel
theorem dX1_placeOfEmptyLeaf_38 : decode cX1_placeOfEmptyLeaf 38 = .ok (.goto (-36), 3) := by decide +kernel
theorem dX1_placeOfEmptyLeaf_41 : decode cX1_placeOfEmptyLeaf 41 = .ok (.iconst (-1), 1) := by decide +kernel
theorem dX1_placeOfEmptyLeaf_42 : decode cX1_placeOfEmptyLeaf 42 = .ok (.ireturn, 1) := by decide +kernel
end
section
/-! decode rows -/
theorem dX2_init_0 : decode cX2_init 0 = .ok (.aload_n 0, 1) := by decide +kernel
theorem dX2_init_1 : decode cX2_init 1 = .ok (.invokespecial 1, 3) := by decide +kernel
theorem dX2_init_4 : decode cX2_init 4 = .ok (.aload_n 0, 1) := by decide +kernel
theorem dX2_init_5 : decode cX2_init 5 = .ok (.sipush 1024, 3) := by decide +kernel
theorem dX2_init_8 : decode cX2_init 8 = .ok (.anewarray 9, 3) := by decide +kernel
theorem dX2_init_11 : decode cX2_init 11 = .ok (.putfield 11, 3) := by decide +kernel
theorem dX2_init_14 : decode cX2_init 14 = .ok (.aload_n 0, 1) := by decide +kernel
theorem dX2_init_15 : decode cX2_init 15 = .ok (.new 15, 3) := by decide +kernel
theorem dX2_init_18 : decode cX2_init 18 = .ok (.dup, 1) := by decide +kernel
theorem dX2_init_19 : decode cX2_init 19 = .ok (.invokespecial 17, 3) := by decide +kernel
theorem dX2_init_22 : decode cX2_init 22 = .ok (.putfield 18, 3) := by decide +kernel
theorem dX2_init_25 : decode cX2_init 25 = .ok (.aload_n 0, 1) := by decide +kernel
theorem dX2_init_26 : decode cX2_init 26 = .ok (.bipush 20, 2) := by decide +kernel
theorem dX2_init_28 : decode cX2_init 28 = .ok (.anewarray 22, 3) := by decide +kernel
theorem dX2_init_31 : decode cX2_init 31 = .ok (.putfield 24, 3) := by decide +kernel
theorem dX2_init_34 : decode cX2_init 34 = .ok (.aload_n 0, 1) := by decide +kernel
theorem dX2_init_35 : decode cX2_init 35 = .ok (.new 9, 3) := by decide +kernel
theorem dX2_init_38 : decode cX2_init 38 = .ok (.dup, 1) := by decide +kernel
theorem dX2_init_39 : decode cX2_init 39 = .ok (.iconst 0, 1) := by decide +kernel
theorem dX2_init_40 : decode cX2_init 40 = .ok (.iconst 0, 1) := by decide +kernel
theorem dX2_init_41 : decode cX2_init 41 = .ok (.iconst 0, 1) := by decide +kernel
theorem dX2_init_42 : decode cX2_init 42 = .ok (.sipush 200, 3) := by decide +kernel
theorem dX2_init_45 : decode cX2_init 45 = .ok (.invokespecial 28, 3) := by decide +kernel
theorem dX2_init_48 : decode cX2_init 48 = .ok (.putfield 31, 3) := by decide +kernel
theorem dX2_init_51 : decode cX2_init 51 = .ok (.aload_n 0, 1) := by decide +kernel
theorem dX2_init_52 : decode cX2_init 52 = .ok (.getfield 11, 3) := by decide +kernel
theorem dX2_init_55 : decode cX2_init 55 = .ok (.iconst 0, 1) := by decide +kernel
theorem dX2_init_56 : decode cX2_init 56 = .ok (.aload_n 0, 1) := by decide +kernel
theorem dX2_init_57 : decode cX2_init 57 = .ok (.getfield 31, 3) := by decide +kernel
theorem dX2_init_60 : decode cX2_init 60 = .ok (.aastore, 1) := by decide +kernel
theorem dX2_init_61 : decode cX2_init 61 = .ok (.aload_n 0, 1) := by decide +kernel
theorem dX2_init_62 : decode cX2_init 62 = .ok (.aload_n 0, 1) := by decide +kernel
theorem dX2_init_63 : decode cX2_init 63 = .ok (.getfield 31, 3) := by decide +kernel
theorem dX2_init_66 : decode cX2_init 66 = .ok (.putfield 35, 3) := by decide +kernel
theorem dX2_init_69 : decode cX2_init 69 = .ok (.return_, 1) := by decide +kernel
theorem dX2_put_0 : decode cX2_put 0 = .ok (.iload_n 1, 1) := by decide +kernel
theorem dX2_put_1 : decode cX2_put 1 = .ok (.invokestatic 38, 3) := by decide +kernel
theorem dX2_put_4 : decode cX2_put 4 = .ok (.iload_n 2, 1) := by decide +kernel
theorem dX2_put_5 : decode cX2_put 5 = .ok (.invokestatic 42, 3) := by decide +kernel
theorem dX2_put_8 : decode cX2_put 8 = .ok (.aload_n 0, 1) := by decide +kernel
theorem dX2_put_9 : decode cX2_put 9 = .ok (.iload_n 1, 1) := by decide +kernel
theorem dX2_put_10 : decode cX2_put 10 = .ok (.iconst 0, 1) := by decide +kernel
theorem dX2_put_11 : decode cX2_put 11 = .ok (.invokevirtual 45, 3) := by decide +kernel
theorem dX2_put_14 : decode cX2_put 14 = .ok (.astore_n 3, 1) := by decide +kernel
theorem dX2_put_15 : decode cX2_put 15 = .ok (.aload_n 3, 1) := by decide +kernel
theorem dX2_put_16 : decode cX2_put 16 = .ok (.iload_n 1, 1) := by decide +kernel
theorem dX2_put_17 : decode cX2_put 17 = .ok (.invokevirtual 49, 3) := by decide +kernel
theorem dX2_put_20 : decode cX2_put 20 = .ok (.istore 4, 2) := by decide +kernel
theorem dX2_put_22 : decode cX2_put 22 = .ok (.iload 4, 2) := by decide +kernel
theorem dX2_put_24 : decode cX2_put 24 = .ok (.iconst (-1), 1) := by decide +kernel
theorem dX2_put_25 : decode cX2_put 25 = .ok (.if_icmp .eq 11, 3) := by decide +kernel
theorem dX2_put_28 : decode cX2_put 28 = .ok (.aload_n 3, 1) := by decide +kernel
theorem dX2_put_29 : decode cX2_put 29 = .ok (.iload 4, 2) := by decide +kernel
theorem dX2_put_31 : decode cX2_put 31 = .ok (.iload_n 2, 1) := by decide +kernel
theorem dX2_put_32 : decode cX2_put 32 = .ok (.invokevirtual 53, 3) := by decide +kernel
theorem dX2_put_35 : decode cX2_put 35 = .ok (.ireturn, 1) := by decide +kernel
theorem dX2_put_36 : decode cX2_put 36 = .ok (.aload_n 0, 1) := by decide +kernel
theorem dX2_put_37 : decode cX2_put 37 = .ok (.aload_n 3, 1) := by decide +kernel
theorem dX2_put_38 : decode cX2_put 38 = .ok (.iload_n 1, 1) := by decide +kernel
theorem dX2_put_39 : decode cX2_put 39 = .ok (.iload_n 2, 1) := by decide +kernel
theorem dX2_put_40 : decode cX2_put 40 = .ok (.aconst_null, 1) := by decide +kernel
theorem dX2_put_41 : decode cX2_put 41 = .ok (.invokevirtual 57, 3) := by decide +kernel
theorem dX2_put_44 : decode cX2_put 44 = .ok (.ifCond .eq 13, 3) := by decide +kernel
theorem dX2_put_47 : decode cX2_put 47 = .ok (.aload_n 0, 1) := by decide +kernel
theorem dX2_put_48 : decode cX2_put 48 = .ok (.dup, 1) := by decide +kernel
theorem dX2_put_49 : decode cX2_put 49 = .ok (.getfield 61, 3) := by decide +kernel
theorem dX2_put_52 : decode cX2_put 52 = .ok (.iconst 1, 1) := by decide +kernel
theorem dX2_put_53 : decode cX2_put 53 = .ok (.iadd, 1) := by decide +kernel
theorem dX2_put_54 : decode cX2_put 54 = .ok (.putfield 61, 3) := by decide +kernel
theorem dX2_put_57 : decode cX2_put 57 = .ok (.iconst (-1), 1) := by decide +kernel
theorem dX2_put_58 : decode cX2_put 58 = .ok (.ireturn, 1) := by decide +kernel
theorem dX2_take_0 : decode cX2_take 0 = .ok (.iload_n 1, 1) := by decide +kernel
theorem dX2_take_1 : decode cX2_take 1 = .ok (.invokestatic 38, 3) := by decide +kernel
theorem dX2_take_4 : decode cX2_take 4 = .ok (.aload_n 0, 1) := by decide +kernel
theorem dX2_take_5 : decode cX2_take 5 = .ok (.iload_n 1, 1) := by decide +kernel
theorem dX2_take_6 : decode cX2_take 6 = .ok (.iconst 0, 1) := by decide +kernel
theorem dX2_take_7 : decode cX2_take 7 = .ok (.invokevirtual 45, 3) := by decide +kernel
theorem dX2_take_10 : decode cX2_take 10 = .ok (.astore_n 2, 1) := by decide +kernel
theorem dX2_take_11 : decode cX2_take 11 = .ok (.aload_n 2, 1) := by decide +kernel
theorem dX2_take_12 : decode cX2_take 12 = .ok (.iload_n 1, 1) := by decide +kernel
theorem dX2_take_13 : decode cX2_take 13 = .ok (.invokevirtual 49, 3) := by decide +kernel
theorem dX2_take_16 : decode cX2_take 16 = .ok (.istore_n 3, 1) := by decide +kernel
theorem dX2_take_17 : decode cX2_take 17 = .ok (.iload_n 3, 1) := by decide +kernel
theorem dX2_take_18 : decode cX2_take 18 = .ok (.iconst (-1), 1) := by decide +kernel
theorem dX2_take_19 : decode cX2_take 19 = .ok (.if_icmp .ne 5, 3) := by decide +kernel
theorem dX2_take_22 : decode cX2_take 22 = .ok (.iconst (-1), 1) := by decide +kernel
theorem dX2_take_23 : decode cX2_take 23 = .ok (.ireturn, 1) := by decide +kernel
theorem dX2_take_24 : decode cX2_take 24 = .ok (.aload_n 2, 1) := by decide +kernel
theorem dX2_take_25 : decode cX2_take 25 = .ok (.iload_n 3, 1) := by decide +kernel
theorem dX2_take_26 : decode cX2_take 26 = .ok (.invokevirtual 65, 3) := by decide +kernel
theorem dX2_take_29 : decode cX2_take 29 = .ok (.istore 4, 2) := by decide +kernel
theorem dX2_take_31 : decode cX2_take 31 = .ok (.aload_n 2, 1) := by decide +kernel
theorem dX2_take_32 : decode cX2_take 32 = .ok (.iload_n 3, 1) := by decide +kernel
theorem dX2_take_33 : decode cX2_take 33 = .ok (.invokevirtual 68, 3) := by decide +kernel
theorem dX2_take_36 : decode cX2_take 36 = .ok (.aload_n 0, 1) := by decide +kernel
theorem dX2_take_37 : decode cX2_take 37 = .ok (.dup, 1) := by decide +kernel
theorem dX2_take_38 : decode cX2_take 38 = .ok (.getfield 61, 3) := by decide +kernel
theorem dX2_take_41 : decode cX2_take 41 = .ok (.iconst 1, 1) := by decide +kernel
theorem dX2_take_42 : decode cX2_take 42 = .ok (.isub, 1) := by decide +kernel
theorem dX2_take_43 : decode cX2_take 43 = .ok (.putfield 61, 3) := by decide +kernel
theorem dX2_take_46 : decode cX2_take 46 = .ok (.iload 4, 2) := by decide +kernel
theorem dX2_take_48 : decode cX2_take 48 = .ok (.ireturn, 1) := by decide +kernel
theorem dX2_get_0 : decode cX2_get 0 = .ok (.iload_n 1, 1) := by decide +kernel
theorem dX2_get_1 : decode cX2_get 1 = .ok (.invokestatic 38, 3) := by decide +kernel
theorem dX2_get_4 : decode cX2_get 4 = .ok (.aload_n 0, 1) := by decide +kernel
theorem dX2_get_5 : decode cX2_get 5 = .ok (.iload_n 1, 1) := by decide +kernel
theorem dX2_get_6 : decode cX2_get 6 = .ok (.iconst 0, 1) := by decide +kernel
theorem dX2_get_7 : decode cX2_get 7 = .ok (.invokevirtual 45, 3) := by decide +kernel
theorem dX2_get_10 : decode cX2_get 10 = .ok (.astore_n 2, 1) := by decide +kernel
theorem dX2_get_11 : decode cX2_get 11 = .ok (.aload_n 2, 1) := by decide +kernel
theorem dX2_get_12 : decode cX2_get 12 = .ok (.aload_n 2, 1) := by decide +kernel
theorem dX2_get_13 : decode cX2_get 13 = .ok (.iload_n 1, 1) := by decide +kernel
theorem dX2_get_14 : decode cX2_get 14 = .ok (.invokevirtual 49, 3) := by decide +kernel
theorem dX2_get_17 : decode cX2_get 17 = .ok (.invokevirtual 65, 3) := by decide +kernel
theorem dX2_get_20 : decode cX2_get 20 = .ok (.ireturn, 1) := by decide +kernel
theorem dX2_getByLeaves_0 : decode cX2_getByLeaves 0 = .ok (.iload_n 1, 1) := by decide +kernel
theorem dX2_getByLeaves_1 : decode cX2_getByLeaves 1 = .ok (.invokestatic 38, 3) := by decide +kernel
theorem dX2_getByLeaves_4 : decode cX2_getByLeaves 4 = .ok (.aload_n 0, 1) := by decide +kernel
theorem dX2_getByLeaves_5 : decode cX2_getByLeaves 5 = .ok (.getfield 31, 3) := by decide +kernel
theorem dX2_getByLeaves_8 : decode cX2_getByLeaves 8 = .ok (.astore_n 2, 1) := by decide +kernel
theorem dX2_getByLeaves_9 : decode cX2_getByLeaves 9 = .ok (.aload_n 2, 1) := by decide +kernel
theorem dX2_getByLeaves_10 : decode cX2_getByLeaves 10 = .ok (.ifnull 28, 3) := by decide +kernel
theorem dX2_getByLeaves_13 : decode cX2_getByLeaves 13 = .ok (.aload_n 2, 1) := by decide +kernel
theorem dX2_getByLeaves_14 : decode cX2_getByLeaves 14 = .ok (.iload_n 1, 1) := by decide +kernel
theorem dX2_getByLeaves_15 : decode cX2_getByLeaves 15 = .ok (.invokevirtual 49, 3) := by decide +kernel
theorem dX2_getByLeaves_18 : decode cX2_getByLeaves 18 = .ok (.istore_n 3, 1) := by decide +kernel
theorem dX2_getByLeaves_19 : decode cX2_getByLeaves 19 = .ok (.iload_n 3, 1) := by decide +kernel
theorem dX2_getByLeaves_20 : decode cX2_getByLeaves 20 = .ok (.iconst (-1), 1) := by decide +kernel
theorem dX2_getByLeaves_21 : decode cX2_getByLeaves 21 = .ok (.if_icmp .eq 9, 3) := by decide +kernel
theorem dX2_getByLeaves_24 : decode cX2_getByLeaves 24 = .ok (.aload_n 2, 1) := by decide +kernel
theorem dX2_getByLeaves_25 : decode cX2_getByLeaves 25 = .ok (.iload_n 3, 1) := by decide +kernel
theorem dX2_getByLeaves_26 : decode cX2_getByLeaves 26 = .ok (.invokevirtual 65, 3) := by decide +kernel
theorem dX2_getByLeaves_29 : decode cX2_getByLeaves 29 = .ok (.ireturn, 1) := by decide +kernel
theorem dX2_getByLeaves_30 : decode cX2_getByLeaves 30 = .ok (.aload_n 2, 1) := by decide +kernel
theorem dX2_getByLeaves_31 : decode cX2_getByLeaves 31 = .ok (.getfield 71, 3) := by decide +kernel
theorem dX2_getByLeaves_34 : decode cX2_getByLeaves 34 = .ok (.astore_n 2, 1) := by decide +kernel
theorem dX2_getByLeaves_35 : decode cX2_getByLeaves 35 = .ok (.goto (-26), 3) := by decide +kernel
theorem dX2_getByLeaves_38 : decode cX2_getByLeaves 38 = .ok (.iconst (-1), 1) := by decide +kernel
theorem dX2_getByLeaves_39 : decode cX2_getByLeaves 39 = .ok (.ireturn, 1) := by decide +kernel
theorem dX2_keys_0 : decode cX2_keys 0 = .ok (.aload_n 0, 1) := by decide +kernel
theorem dX2_keys_1 : decode cX2_keys 1 = .ok (.getfield 61, 3) := by decide +kernel
theorem dX2_keys_4 : decode cX2_keys 4 = .ok (.ireturn, 1) := by decide +kernel
theorem dX2_waiting_0 : decode cX2_waiting 0 = .ok (.aload_n 0, 1) := by decide +kernel
theorem dX2_waiting_1 : decode cX2_waiting 1 = .ok (.getfield 18, 3) := by decide +kernel
theorem dX2_waiting_4 : decode cX2_waiting 4 = .ok (.invokevirtual 74, 3) := by decide +kernel
theorem dX2_waiting_7 : decode cX2_waiting 7 = .ok (.ireturn, 1) := by decide +kernel
theorem dX2_post_0 : decode cX2_post 0 = .ok (.aload_n 0, 1) := by decide +kernel
theorem dX2_post_1 : decode cX2_post 1 = .ok (.getfield 18, 3) := by decide +kernel
theorem dX2_post_4 : decode cX2_post 4 = .ok (.invokevirtual 78, 3) := by decide +kernel
theorem dX2_post_7 : decode cX2_post 7 = .ok (.ifCond .eq 13, 3) := by decide +kernel
theorem dX2_post_10 : decode cX2_post 10 = .ok (.new 82, 3) := by decide +kernel
theorem dX2_post_13 : decode cX2_post 13 = .ok (.dup, 1) := by decide +kernel
theorem dX2_post_14 : decode cX2_post 14 = .ok (.ldc 84, 2) := by decide +kernel
theorem dX2_post_16 : decode cX2_post 16 = .ok (.invokespecial 86, 3) := by decide +kernel
theorem dX2_post_19 : decode cX2_post 19 = .ok (.athrow, 1) := by decide +kernel
theorem dX2_post_20 : decode cX2_post 20 = .ok (.aload_n 0, 1) := by decide +kernel
theorem dX2_post_21 : decode cX2_post 21 = .ok (.invokevirtual 89, 3) := by decide +kernel
theorem dX2_post_24 : decode cX2_post 24 = .ok (.aload_n 0, 1) := by decide +kernel
theorem dX2_post_25 : decode cX2_post 25 = .ok (.getfield 18, 3) := by decide +kernel
theorem dX2_post_28 : decode cX2_post 28 = .ok (.invokevirtual 74, 3) := by decide +kernel
theorem dX2_post_31 : decode cX2_post 31 = .ok (.ireturn, 1) := by decide +kernel
theorem dX2_postAll_0 : decode cX2_postAll 0 = .ok (.iconst 0, 1) := by decide +kernel
theorem dX2_postAll_1 : decode cX2_postAll 1 = .ok (.istore_n 1, 1) := by decide +kernel
theorem dX2_postAll_2 : decode cX2_postAll 2 = .ok (.aload_n 0, 1) := by decide +kernel
theorem dX2_postAll_3 : decode cX2_postAll 3 = .ok (.getfield 18, 3) := by decide +kernel
theorem dX2_postAll_6 : decode cX2_postAll 6 = .ok (.invokevirtual 78, 3) := by decide +kernel
theorem dX2_postAll_9 : decode cX2_postAll 9 = .ok (.ifCond .ne 20, 3) := by decide +kernel
theorem dX2_postAll_12 : decode cX2_postAll 12 = .ok (.iload_n 1, 1) := by decide +kernel
theorem dX2_postAll_13 : decode cX2_postAll 13 = .ok (.sipush 1024, 3) := by decide +kernel
theorem dX2_postAll_16 : decode cX2_postAll 16 = .ok (.if_icmp .ge 13, 3) := by decide +kernel
theorem dX2_postAll_19 : decode cX2_postAll 19 = .ok (.aload_n 0, 1) := by decide +kernel
theorem dX2_postAll_20 : decode cX2_postAll 20 = .ok (.invokevirtual 89, 3) := by decide +kernel
theorem dX2_postAll_23 : decode cX2_postAll 23 = .ok (.iinc 1 1, 3) := by decide +kernel
theorem dX2_postAll_26 : decode cX2_postAll 26 = .ok (.goto (-24), 3) := by decide +kernel
theorem dX2_postAll_29 : decode cX2_postAll 29 = .ok (.iload_n 1, 1) := by decide +kernel
theorem dX2_postAll_30 : decode cX2_postAll 30 = .ok (.ireturn, 1) := by decide +kernel
theorem dX2_takeOut_0 : decode cX2_takeOut 0 = .ok (.aload_n 0, 1) := by decide +kernel
theorem dX2_takeOut_1 : decode cX2_takeOut 1 = .ok (.getfield 35, 3) := by decide +kernel
theorem dX2_takeOut_4 : decode cX2_takeOut 4 = .ok (.getfield 92, 3) := by decide +kernel
theorem dX2_takeOut_7 : decode cX2_takeOut 7 = .ok (.ifCond .ne 5, 3) := by decide +kernel
theorem dX2_takeOut_10 : decode cX2_takeOut 10 = .ok (.iconst (-1), 1) := by decide +kernel
theorem dX2_takeOut_11 : decode cX2_takeOut 11 = .ok (.ireturn, 1) := by decide +kernel
theorem dX2_takeOut_12 : decode cX2_takeOut 12 = .ok (.aload_n 0, 1) := by decide +kernel
theorem dX2_takeOut_13 : decode cX2_takeOut 13 = .ok (.iconst 0, 1) := by decide +kernel
theorem dX2_takeOut_14 : decode cX2_takeOut 14 = .ok (.iconst 1, 1) := by decide +kernel
theorem dX2_takeOut_15 : decode cX2_takeOut 15 = .ok (.invokevirtual 45, 3) := by decide +kernel
theorem dX2_takeOut_18 : decode cX2_takeOut 18 = .ok (.astore_n 1, 1) := by decide +kernel
theorem dX2_takeOut_19 : decode cX2_takeOut 19 = .ok (.aload_n 1, 1) := by decide +kernel
theorem dX2_takeOut_20 : decode cX2_takeOut 20 = .ok (.ifnull 41, 3) := by decide +kernel
theorem dX2_takeOut_23 : decode cX2_takeOut 23 = .ok (.aload_n 1, 1) := by decide +kernel
theorem dX2_takeOut_24 : decode cX2_takeOut 24 = .ok (.invokevirtual 95, 3) := by decide +kernel
theorem dX2_takeOut_27 : decode cX2_takeOut 27 = .ok (.istore_n 2, 1) := by decide +kernel
theorem dX2_takeOut_28 : decode cX2_takeOut 28 = .ok (.aload_n 1, 1) := by decide +kernel
theorem dX2_takeOut_29 : decode cX2_takeOut 29 = .ok (.iload_n 2, 1) := by decide +kernel
theorem dX2_takeOut_30 : decode cX2_takeOut 30 = .ok (.invokevirtual 98, 3) := by decide +kernel
theorem dX2_takeOut_33 : decode cX2_takeOut 33 = .ok (.astore_n 3, 1) := by decide +kernel
theorem dX2_takeOut_34 : decode cX2_takeOut 34 = .ok (.aload_n 3, 1) := by decide +kernel
theorem dX2_takeOut_35 : decode cX2_takeOut 35 = .ok (.ifnull 18, 3) := by decide +kernel
theorem dX2_takeOut_38 : decode cX2_takeOut 38 = .ok (.aload_n 1, 1) := by decide +kernel
theorem dX2_takeOut_39 : decode cX2_takeOut 39 = .ok (.iload_n 2, 1) := by decide +kernel
theorem dX2_takeOut_40 : decode cX2_takeOut 40 = .ok (.invokevirtual 68, 3) := by decide +kernel
theorem dX2_takeOut_43 : decode cX2_takeOut 43 = .ok (.aload_n 0, 1) := by decide +kernel
theorem dX2_takeOut_44 : decode cX2_takeOut 44 = .ok (.aload_n 3, 1) := by decide +kernel
theorem dX2_takeOut_45 : decode cX2_takeOut 45 = .ok (.invokevirtual 102, 3) := by decide +kernel
theorem dX2_takeOut_48 : decode cX2_takeOut 48 = .ok (.aload_n 3, 1) := by decide +kernel
theorem dX2_takeOut_49 : decode cX2_takeOut 49 = .ok (.getfield 106, 3) := by decide +kernel
theorem dX2_takeOut_52 : decode cX2_takeOut 52 = .ok (.ireturn, 1) := by decide +kernel
theorem dX2_takeOut_53 : decode cX2_takeOut 53 = .ok (.aload_n 1, 1) := by decide +kernel
theorem dX2_takeOut_54 : decode cX2_takeOut 54 = .ok (.getfield 71, 3) := by decide +kernel
theorem dX2_takeOut_57 : decode cX2_takeOut 57 = .ok (.astore_n 1, 1) := by decide +kernel
theorem dX2_takeOut_58 : decode cX2_takeOut 58 = .ok (.goto (-39), 3) := by decide +kernel
theorem dX2_takeOut_61 : decode cX2_takeOut 61 = .ok (.iconst (-1), 1) := by decide +kernel
theorem dX2_takeOut_62 : decode cX2_takeOut 62 = .ok (.ireturn, 1) := by decide +kernel
theorem dX2_recycle_0 : decode cX2_recycle 0 = .ok (.iconst 0, 1) := by decide +kernel
theorem dX2_recycle_1 : decode cX2_recycle 1 = .ok (.istore_n 1, 1) := by decide +kernel
theorem dX2_recycle_2 : decode cX2_recycle 2 = .ok (.iconst 0, 1) := by decide +kernel
theorem dX2_recycle_3 : decode cX2_recycle 3 = .ok (.istore_n 2, 1) := by decide +kernel
theorem dX2_recycle_4 : decode cX2_recycle 4 = .ok (.iload_n 2, 1) := by decide +kernel
theorem dX2_recycle_5 : decode cX2_recycle 5 = .ok (.aload_n 0, 1) := by decide +kernel
theorem dX2_recycle_6 : decode cX2_recycle 6 = .ok (.getfield 11, 3) := by decide +kernel
theorem dX2_recycle_9 : decode cX2_recycle 9 = .ok (.arraylength, 1) := by decide +kernel
theorem dX2_recycle_10 : decode cX2_recycle 10 = .ok (.if_icmp .ge 48, 3) := by decide +kernel
theorem dX2_recycle_13 : decode cX2_recycle 13 = .ok (.aload_n 0, 1) := by decide +kernel
theorem dX2_recycle_14 : decode cX2_recycle 14 = .ok (.getfield 11, 3) := by decide +kernel
theorem dX2_recycle_17 : decode cX2_recycle 17 = .ok (.iload_n 2, 1) := by decide +kernel
theorem dX2_recycle_18 : decode cX2_recycle 18 = .ok (.aaload, 1) := by decide +kernel
theorem dX2_recycle_19 : decode cX2_recycle 19 = .ok (.astore_n 3, 1) := by decide +kernel
theorem dX2_recycle_20 : decode cX2_recycle 20 = .ok (.aload_n 3, 1) := by decide +kernel
theorem dX2_recycle_21 : decode cX2_recycle 21 = .ok (.ifnull 31, 3) := by decide +kernel
theorem dX2_recycle_24 : decode cX2_recycle 24 = .ok (.aload_n 3, 1) := by decide +kernel
theorem dX2_recycle_25 : decode cX2_recycle 25 = .ok (.getfield 109, 3) := by decide +kernel
theorem dX2_recycle_28 : decode cX2_recycle 28 = .ok (.ifCond .eq 24, 3) := by decide +kernel
theorem dX2_recycle_31 : decode cX2_recycle 31 = .ok (.aload_n 0, 1) := by decide +kernel
theorem dX2_recycle_32 : decode cX2_recycle 32 = .ok (.aload_n 3, 1) := by decide +kernel
theorem dX2_recycle_33 : decode cX2_recycle 33 = .ok (.getfield 113, 3) := by decide +kernel
theorem dX2_recycle_36 : decode cX2_recycle 36 = .ok (.invokevirtual 116, 3) := by decide +kernel
theorem dX2_recycle_39 : decode cX2_recycle 39 = .ok (.ifCond .eq 13, 3) := by decide +kernel
theorem dX2_recycle_42 : decode cX2_recycle 42 = .ok (.aload_n 0, 1) := by decide +kernel
theorem dX2_recycle_43 : decode cX2_recycle 43 = .ok (.getfield 11, 3) := by decide +kernel
theorem dX2_recycle_46 : decode cX2_recycle 46 = .ok (.iload_n 2, 1) := by decide +kernel
theorem dX2_recycle_47 : decode cX2_recycle 47 = .ok (.aconst_null, 1) := by decide +kernel
theorem dX2_recycle_48 : decode cX2_recycle 48 = .ok (.aastore, 1) := by decide +kernel
theorem dX2_recycle_49 : decode cX2_recycle 49 = .ok (.iinc 1 1, 3) := by decide +kernel
theorem dX2_recycle_52 : decode cX2_recycle 52 = .ok (.iinc 2 1, 3) := by decide +kernel
theorem dX2_recycle_55 : decode cX2_recycle 55 = .ok (.goto (-51), 3) := by decide +kernel
theorem dX2_recycle_58 : decode cX2_recycle 58 = .ok (.iload_n 1, 1) := by decide +kernel
theorem dX2_recycle_59 : decode cX2_recycle 59 = .ok (.ireturn, 1) := by decide +kernel
theorem dX2_dead_0 : decode cX2_dead 0 = .ok (.iconst 0, 1) := by decide +kernel
theorem dX2_dead_1 : decode cX2_dead 1 = .ok (.istore_n 1, 1) := by decide +kernel
theorem dX2_dead_2 : decode cX2_dead 2 = .ok (.aload_n 0, 1) := by decide +kernel
theorem dX2_dead_3 : decode cX2_dead 3 = .ok (.getfield 11, 3) := by decide +kernel
theorem dX2_dead_6 : decode cX2_dead 6 = .ok (.astore_n 2, 1) := by decide +kernel
theorem dX2_dead_7 : decode cX2_dead 7 = .ok (.aload_n 2, 1) := by decide +kernel
theorem dX2_dead_8 : decode cX2_dead 8 = .ok (.arraylength, 1) := by decide +kernel
theorem dX2_dead_9 : decode cX2_dead 9 = .ok (.istore_n 3, 1) := by decide +kernel
theorem dX2_dead_10 : decode cX2_dead 10 = .ok (.iconst 0, 1) := by decide +kernel
theorem dX2_dead_11 : decode cX2_dead 11 = .ok (.istore 4, 2) := by decide +kernel
theorem dX2_dead_13 : decode cX2_dead 13 = .ok (.iload 4, 2) := by decide +kernel
theorem dX2_dead_15 : decode cX2_dead 15 = .ok (.iload_n 3, 1) := by decide +kernel
theorem dX2_dead_16 : decode cX2_dead 16 = .ok (.if_icmp .ge 31, 3) := by decide +kernel
theorem dX2_dead_19 : decode cX2_dead 19 = .ok (.aload_n 2, 1) := by decide +kernel
theorem dX2_dead_20 : decode cX2_dead 20 = .ok (.iload 4, 2) := by decide +kernel
theorem dX2_dead_22 : decode cX2_dead 22 = .ok (.aaload, 1) := by decide +kernel
theorem dX2_dead_23 : decode cX2_dead 23 = .ok (.astore 5, 2) := by decide +kernel
theorem dX2_dead_25 : decode cX2_dead 25 = .ok (.aload 5, 2) := by decide +kernel
theorem dX2_dead_27 : decode cX2_dead 27 = .ok (.ifnull 14, 3) := by decide +kernel
theorem dX2_dead_30 : decode cX2_dead 30 = .ok (.aload 5, 2) := by decide +kernel
theorem dX2_dead_32 : decode cX2_dead 32 = .ok (.getfield 109, 3) := by decide +kernel
theorem dX2_dead_35 : decode cX2_dead 35 = .ok (.ifCond .eq 6, 3) := by decide +kernel
theorem dX2_dead_38 : decode cX2_dead 38 = .ok (.iinc 1 1, 3) := by decide +kernel
theorem dX2_dead_41 : decode cX2_dead 41 = .ok (.iinc 4 1, 3) := by decide +kernel
theorem dX2_dead_44 : decode cX2_dead 44 = .ok (.goto (-31), 3) := by decide +kernel
theorem dX2_dead_47 : decode cX2_dead 47 = .ok (.iload_n 1, 1) := by decide +kernel
theorem dX2_dead_48 : decode cX2_dead 48 = .ok (.ireturn, 1) := by decide +kernel
theorem dX2_epoch_0 : decode cX2_epoch 0 = .ok (.aload_n 0, 1) := by decide +kernel
theorem dX2_epoch_1 : decode cX2_epoch 1 = .ok (.getfield 120, 3) := by decide +kernel
theorem dX2_epoch_4 : decode cX2_epoch 4 = .ok (.ireturn, 1) := by decide +kernel
theorem dX2_pages_0 : decode cX2_pages 0 = .ok (.iconst 0, 1) := by decide +kernel
theorem dX2_pages_1 : decode cX2_pages 1 = .ok (.istore_n 1, 1) := by decide +kernel
theorem dX2_pages_2 : decode cX2_pages 2 = .ok (.aload_n 0, 1) := by decide +kernel
theorem dX2_pages_3 : decode cX2_pages 3 = .ok (.getfield 11, 3) := by decide +kernel
theorem dX2_pages_6 : decode cX2_pages 6 = .ok (.astore_n 2, 1) := by decide +kernel
theorem dX2_pages_7 : decode cX2_pages 7 = .ok (.aload_n 2, 1) := by decide +kernel
theorem dX2_pages_8 : decode cX2_pages 8 = .ok (.arraylength, 1) := by decide +kernel
theorem dX2_pages_9 : decode cX2_pages 9 = .ok (.istore_n 3, 1) := by decide +kernel
theorem dX2_pages_10 : decode cX2_pages 10 = .ok (.iconst 0, 1) := by decide +kernel
theorem dX2_pages_11 : decode cX2_pages 11 = .ok (.istore 4, 2) := by decide +kernel
theorem dX2_pages_13 : decode cX2_pages 13 = .ok (.iload 4, 2) := by decide +kernel
theorem dX2_pages_15 : decode cX2_pages 15 = .ok (.iload_n 3, 1) := by decide +kernel
theorem dX2_pages_16 : decode cX2_pages 16 = .ok (.if_icmp .ge 23, 3) := by decide +kernel
theorem dX2_pages_19 : decode cX2_pages 19 = .ok (.aload_n 2, 1) := by decide +kernel
theorem dX2_pages_20 : decode cX2_pages 20 = .ok (.iload 4, 2) := by decide +kernel
theorem dX2_pages_22 : decode cX2_pages 22 = .ok (.aaload, 1) := by decide +kernel
theorem dX2_pages_23 : decode cX2_pages 23 = .ok (.astore 5, 2) := by decide +kernel
theorem dX2_pages_25 : decode cX2_pages 25 = .ok (.aload 5, 2) := by decide +kernel
theorem dX2_pages_27 : decode cX2_pages 27 = .ok (.ifnull 6, 3) := by decide +kernel
theorem dX2_pages_30 : decode cX2_pages 30 = .ok (.iinc 1 1, 3) := by decide +kernel
theorem dX2_pages_33 : decode cX2_pages 33 = .ok (.iinc 4 1, 3) := by decide +kernel
theorem dX2_pages_36 : decode cX2_pages 36 = .ok (.goto (-23), 3) := by decide +kernel
theorem dX2_pages_39 : decode cX2_pages 39 = .ok (.iload_n 1, 1) := by decide +kernel
theorem dX2_pages_40 : decode cX2_pages 40 = .ok (.ireturn, 1) := by decide +kernel
theorem dX2_root_0 : decode cX2_root 0 = .ok (.aload_n 0, 1) := by decide +kernel
theorem dX2_root_1 : decode cX2_root 1 = .ok (.getfield 35, 3) := by decide +kernel
theorem dX2_root_4 : decode cX2_root 4 = .ok (.getfield 106, 3) := by decide +kernel
theorem dX2_root_7 : decode cX2_root 7 = .ok (.ireturn, 1) := by decide +kernel
theorem dX2_level_0 : decode cX2_level 0 = .ok (.aload_n 0, 1) := by decide +kernel
theorem dX2_level_1 : decode cX2_level 1 = .ok (.iload_n 1, 1) := by decide +kernel
theorem dX2_level_2 : decode cX2_level 2 = .ok (.invokevirtual 123, 3) := by decide +kernel
theorem dX2_level_5 : decode cX2_level 5 = .ok (.getfield 92, 3) := by decide +kernel
theorem dX2_level_8 : decode cX2_level 8 = .ok (.ireturn, 1) := by decide +kernel
theorem dX2_size_0 : decode cX2_size 0 = .ok (.aload_n 0, 1) := by decide +kernel
theorem dX2_size_1 : decode cX2_size 1 = .ok (.iload_n 1, 1) := by decide +kernel
theorem dX2_size_2 : decode cX2_size 2 = .ok (.invokevirtual 123, 3) := by decide +kernel
theorem dX2_size_5 : decode cX2_size 5 = .ok (.getfield 126, 3) := by decide +kernel
theorem dX2_size_8 : decode cX2_size 8 = .ok (.ireturn, 1) := by decide +kernel
theorem dX2_keyAt_0 : decode cX2_keyAt 0 = .ok (.aload_n 0, 1) := by decide +kernel
theorem dX2_keyAt_1 : decode cX2_keyAt 1 = .ok (.iload_n 1, 1) := by decide +kernel
theorem dX2_keyAt_2 : decode cX2_keyAt 2 = .ok (.invokevirtual 123, 3) := by decide +kernel
theorem dX2_keyAt_5 : decode cX2_keyAt 5 = .ok (.astore_n 3, 1) := by decide +kernel
theorem dX2_keyAt_6 : decode cX2_keyAt 6 = .ok (.iload_n 2, 1) := by decide +kernel
theorem dX2_keyAt_7 : decode cX2_keyAt 7 = .ok (.invokestatic 128, 3) := by decide +kernel
theorem dX2_keyAt_10 : decode cX2_keyAt 10 = .ok (.aload_n 3, 1) := by decide +kernel
theorem dX2_keyAt_11 : decode cX2_keyAt 11 = .ok (.iload_n 2, 1) := by decide +kernel
theorem dX2_keyAt_12 : decode cX2_keyAt 12 = .ok (.invokevirtual 131, 3) := by decide +kernel
theorem dX2_keyAt_15 : decode cX2_keyAt 15 = .ok (.ireturn, 1) := by decide +kernel
theorem dX2_below_0 : decode cX2_below 0 = .ok (.aload_n 0, 1) := by decide +kernel
theorem dX2_below_1 : decode cX2_below 1 = .ok (.iload_n 1, 1) := by decide +kernel
theorem dX2_below_2 : decode cX2_below 2 = .ok (.invokevirtual 123, 3) := by decide +kernel
theorem dX2_below_5 : decode cX2_below 5 = .ok (.astore_n 3, 1) := by decide +kernel
theorem dX2_below_6 : decode cX2_below 6 = .ok (.iload_n 2, 1) := by decide +kernel
theorem dX2_below_7 : decode cX2_below 7 = .ok (.invokestatic 128, 3) := by decide +kernel
theorem dX2_below_10 : decode cX2_below 10 = .ok (.aload_n 3, 1) := by decide +kernel
theorem dX2_below_11 : decode cX2_below 11 = .ok (.iload_n 2, 1) := by decide +kernel
theorem dX2_below_12 : decode cX2_below 12 = .ok (.invokevirtual 98, 3) := by decide +kernel
theorem dX2_below_15 : decode cX2_below 15 = .ok (.invokestatic 134, 3) := by decide +kernel
theorem dX2_below_18 : decode cX2_below 18 = .ok (.ireturn, 1) := by decide +kernel
theorem dX2_high_0 : decode cX2_high 0 = .ok (.aload_n 0, 1) := by decide +kernel
theorem dX2_high_1 : decode cX2_high 1 = .ok (.iload_n 1, 1) := by decide +kernel
theorem dX2_high_2 : decode cX2_high 2 = .ok (.invokevirtual 123, 3) := by decide +kernel
theorem dX2_high_5 : decode cX2_high 5 = .ok (.getfield 138, 3) := by decide +kernel
theorem dX2_high_8 : decode cX2_high 8 = .ok (.ireturn, 1) := by decide +kernel
theorem dX2_right_0 : decode cX2_right 0 = .ok (.aload_n 0, 1) := by decide +kernel
theorem dX2_right_1 : decode cX2_right 1 = .ok (.iload_n 1, 1) := by decide +kernel
theorem dX2_right_2 : decode cX2_right 2 = .ok (.invokevirtual 123, 3) := by decide +kernel
theorem dX2_right_5 : decode cX2_right 5 = .ok (.getfield 71, 3) := by decide +kernel
theorem dX2_right_8 : decode cX2_right 8 = .ok (.invokestatic 134, 3) := by decide +kernel
theorem dX2_right_11 : decode cX2_right 11 = .ok (.ireturn, 1) := by decide +kernel
theorem dX2_links_0 : decode cX2_links 0 = .ok (.iload_n 1, 1) := by decide +kernel
theorem dX2_links_1 : decode cX2_links 1 = .ok (.invokestatic 38, 3) := by decide +kernel
theorem dX2_links_4 : decode cX2_links 4 = .ok (.iconst 0, 1) := by decide +kernel
theorem dX2_links_5 : decode cX2_links 5 = .ok (.istore_n 2, 1) := by decide +kernel
theorem dX2_links_6 : decode cX2_links 6 = .ok (.aload_n 0, 1) := by decide +kernel
theorem dX2_links_7 : decode cX2_links 7 = .ok (.getfield 35, 3) := by decide +kernel
theorem dX2_links_10 : decode cX2_links 10 = .ok (.astore_n 3, 1) := by decide +kernel
theorem dX2_links_11 : decode cX2_links 11 = .ok (.iconst 0, 1) := by decide +kernel
theorem dX2_links_12 : decode cX2_links 12 = .ok (.istore 4, 2) := by decide +kernel
theorem dX2_links_14 : decode cX2_links 14 = .ok (.iload 4, 2) := by decide +kernel
theorem dX2_links_16 : decode cX2_links 16 = .ok (.sipush 1024, 3) := by decide +kernel
theorem dX2_links_19 : decode cX2_links 19 = .ok (.if_icmp .ge 42, 3) := by decide +kernel
theorem dX2_links_22 : decode cX2_links 22 = .ok (.aload_n 3, 1) := by decide +kernel
theorem dX2_links_23 : decode cX2_links 23 = .ok (.iload_n 1, 1) := by decide +kernel
theorem dX2_links_24 : decode cX2_links 24 = .ok (.iconst 0, 1) := by decide +kernel
theorem dX2_links_25 : decode cX2_links 25 = .ok (.invokevirtual 141, 3) := by decide +kernel
theorem dX2_links_28 : decode cX2_links 28 = .ok (.astore 5, 2) := by decide +kernel
theorem dX2_links_30 : decode cX2_links 30 = .ok (.aload 5, 2) := by decide +kernel
theorem dX2_links_32 : decode cX2_links 32 = .ok (.ifnonnull 5, 3) := by decide +kernel
theorem dX2_links_35 : decode cX2_links 35 = .ok (.iload_n 2, 1) := by decide +kernel
theorem dX2_links_36 : decode cX2_links 36 = .ok (.ireturn, 1) := by decide +kernel
theorem dX2_links_37 : decode cX2_links 37 = .ok (.aload 5, 2) := by decide +kernel
theorem dX2_links_39 : decode cX2_links 39 = .ok (.getfield 92, 3) := by decide +kernel
theorem dX2_links_42 : decode cX2_links 42 = .ok (.aload_n 3, 1) := by decide +kernel
theorem dX2_links_43 : decode cX2_links 43 = .ok (.getfield 92, 3) := by decide +kernel
theorem dX2_links_46 : decode cX2_links 46 = .ok (.if_icmp .ne 6, 3) := by decide +kernel
theorem dX2_links_49 : decode cX2_links 49 = .ok (.iinc 2 1, 3) := by decide +kernel
theorem dX2_links_52 : decode cX2_links 52 = .ok (.aload 5, 2) := by decide +kernel
theorem dX2_links_54 : decode cX2_links 54 = .ok (.astore_n 3, 1) := by decide +kernel
theorem dX2_links_55 : decode cX2_links 55 = .ok (.iinc 4 1, 3) := by decide +kernel
theorem dX2_links_58 : decode cX2_links 58 = .ok (.goto (-44), 3) := by decide +kernel
theorem dX2_links_61 : decode cX2_links 61 = .ok (.iload_n 2, 1) := by decide +kernel
theorem dX2_links_62 : decode cX2_links 62 = .ok (.ireturn, 1) := by decide +kernel
theorem dX2_open_0 : decode cX2_open 0 = .ok (.iload_n 1, 1) := by decide +kernel
theorem dX2_open_1 : decode cX2_open 1 = .ok (.invokestatic 38, 3) := by decide +kernel
theorem dX2_open_4 : decode cX2_open 4 = .ok (.aload_n 0, 1) := by decide +kernel
theorem dX2_open_5 : decode cX2_open 5 = .ok (.getfield 144, 3) := by decide +kernel
theorem dX2_open_8 : decode cX2_open 8 = .ok (.aload_n 0, 1) := by decide +kernel
theorem dX2_open_9 : decode cX2_open 9 = .ok (.getfield 24, 3) := by decide +kernel
theorem dX2_open_12 : decode cX2_open 12 = .ok (.arraylength, 1) := by decide +kernel
theorem dX2_open_13 : decode cX2_open 13 = .ok (.if_icmp .lt 13, 3) := by decide +kernel
theorem dX2_open_16 : decode cX2_open 16 = .ok (.new 82, 3) := by decide +kernel
theorem dX2_open_19 : decode cX2_open 19 = .ok (.dup, 1) := by decide +kernel
theorem dX2_open_20 : decode cX2_open 20 = .ok (.ldc 147, 2) := by decide +kernel
theorem dX2_open_22 : decode cX2_open 22 = .ok (.invokespecial 86, 3) := by decide +kernel
theorem dX2_open_25 : decode cX2_open 25 = .ok (.athrow, 1) := by decide +kernel
theorem dX2_open_26 : decode cX2_open 26 = .ok (.aload_n 0, 1) := by decide +kernel
theorem dX2_open_27 : decode cX2_open 27 = .ok (.getfield 144, 3) := by decide +kernel
theorem dX2_open_30 : decode cX2_open 30 = .ok (.istore_n 2, 1) := by decide +kernel
theorem dX2_open_31 : decode cX2_open 31 = .ok (.aload_n 0, 1) := by decide +kernel
theorem dX2_open_32 : decode cX2_open 32 = .ok (.getfield 24, 3) := by decide +kernel
theorem dX2_open_35 : decode cX2_open 35 = .ok (.iload_n 2, 1) := by decide +kernel
theorem dX2_open_36 : decode cX2_open 36 = .ok (.new 22, 3) := by decide +kernel
theorem dX2_open_39 : decode cX2_open 39 = .ok (.dup, 1) := by decide +kernel
theorem dX2_open_40 : decode cX2_open 40 = .ok (.aload_n 0, 1) := by decide +kernel
theorem dX2_open_41 : decode cX2_open 41 = .ok (.iload_n 1, 1) := by decide +kernel
theorem dX2_open_42 : decode cX2_open 42 = .ok (.iconst 0, 1) := by decide +kernel
theorem dX2_open_43 : decode cX2_open 43 = .ok (.invokevirtual 45, 3) := by decide +kernel
theorem dX2_open_46 : decode cX2_open 46 = .ok (.iload_n 1, 1) := by decide +kernel
theorem dX2_open_47 : decode cX2_open 47 = .ok (.iconst 1, 1) := by decide +kernel
theorem dX2_open_48 : decode cX2_open 48 = .ok (.isub, 1) := by decide +kernel
theorem dX2_open_49 : decode cX2_open 49 = .ok (.aload_n 0, 1) := by decide +kernel
theorem dX2_open_50 : decode cX2_open 50 = .ok (.getfield 120, 3) := by decide +kernel
theorem dX2_open_53 : decode cX2_open 53 = .ok (.invokespecial 149, 3) := by decide +kernel
theorem dX2_open_56 : decode cX2_open 56 = .ok (.aastore, 1) := by decide +kernel
theorem dX2_open_57 : decode cX2_open 57 = .ok (.aload_n 0, 1) := by decide +kernel
theorem dX2_open_58 : decode cX2_open 58 = .ok (.dup, 1) := by decide +kernel
theorem dX2_open_59 : decode cX2_open 59 = .ok (.getfield 144, 3) := by decide +kernel
theorem dX2_open_62 : decode cX2_open 62 = .ok (.iconst 1, 1) := by decide +kernel
theorem dX2_open_63 : decode cX2_open 63 = .ok (.iadd, 1) := by decide +kernel
theorem dX2_open_64 : decode cX2_open 64 = .ok (.putfield 144, 3) := by decide +kernel
theorem dX2_open_67 : decode cX2_open 67 = .ok (.iload_n 2, 1) := by decide +kernel
theorem dX2_open_68 : decode cX2_open 68 = .ok (.ireturn, 1) := by decide +kernel
theorem dX2_next_0 : decode cX2_next 0 = .ok (.aload_n 0, 1) := by decide +kernel
theorem dX2_next_1 : decode cX2_next 1 = .ok (.iload_n 1, 1) := by decide +kernel
theorem dX2_next_2 : decode cX2_next 2 = .ok (.invokevirtual 152, 3) := by decide +kernel
theorem dX2_next_5 : decode cX2_next 5 = .ok (.invokevirtual 156, 3) := by decide +kernel
theorem dX2_next_8 : decode cX2_next 8 = .ok (.ireturn, 1) := by decide +kernel
theorem dX2_leafOf_0 : decode cX2_leafOf 0 = .ok (.aload_n 0, 1) := by decide +kernel
theorem dX2_leafOf_1 : decode cX2_leafOf 1 = .ok (.iload_n 1, 1) := by decide +kernel
theorem dX2_leafOf_2 : decode cX2_leafOf 2 = .ok (.invokevirtual 152, 3) := by decide +kernel
theorem dX2_leafOf_5 : decode cX2_leafOf 5 = .ok (.getfield 159, 3) := by decide +kernel
theorem dX2_leafOf_8 : decode cX2_leafOf 8 = .ok (.getfield 106, 3) := by decide +kernel
theorem dX2_leafOf_11 : decode cX2_leafOf 11 = .ok (.ireturn, 1) := by decide +kernel
theorem dX2_close_0 : decode cX2_close 0 = .ok (.aload_n 0, 1) := by decide +kernel
theorem dX2_close_1 : decode cX2_close 1 = .ok (.iload_n 1, 1) := by decide +kernel
theorem dX2_close_2 : decode cX2_close 2 = .ok (.invokevirtual 152, 3) := by decide +kernel
theorem dX2_close_5 : decode cX2_close 5 = .ok (.iconst 1, 1) := by decide +kernel
theorem dX2_close_6 : decode cX2_close 6 = .ok (.putfield 162, 3) := by decide +kernel
theorem dX2_close_9 : decode cX2_close 9 = .ok (.iconst 0, 1) := by decide +kernel
theorem dX2_close_10 : decode cX2_close 10 = .ok (.istore_n 2, 1) := by decide +kernel
theorem dX2_close_11 : decode cX2_close 11 = .ok (.aload_n 0, 1) := by decide +kernel
theorem dX2_close_12 : decode cX2_close 12 = .ok (.getfield 24, 3) := by decide +kernel
theorem dX2_close_15 : decode cX2_close 15 = .ok (.astore_n 3, 1) := by decide +kernel
theorem dX2_close_16 : decode cX2_close 16 = .ok (.aload_n 3, 1) := by decide +kernel
theorem dX2_close_17 : decode cX2_close 17 = .ok (.arraylength, 1) := by decide +kernel
theorem dX2_close_18 : decode cX2_close 18 = .ok (.istore 4, 2) := by decide +kernel
theorem dX2_close_20 : decode cX2_close 20 = .ok (.iconst 0, 1) := by decide +kernel
theorem dX2_close_21 : decode cX2_close 21 = .ok (.istore 5, 2) := by decide +kernel
theorem dX2_close_23 : decode cX2_close 23 = .ok (.iload 5, 2) := by decide +kernel
theorem dX2_close_25 : decode cX2_close 25 = .ok (.iload 4, 2) := by decide +kernel
theorem dX2_close_27 : decode cX2_close 27 = .ok (.if_icmp .ge 31, 3) := by decide +kernel
theorem dX2_close_30 : decode cX2_close 30 = .ok (.aload_n 3, 1) := by decide +kernel
theorem dX2_close_31 : decode cX2_close 31 = .ok (.iload 5, 2) := by decide +kernel
theorem dX2_close_33 : decode cX2_close 33 = .ok (.aaload, 1) := by decide +kernel
theorem dX2_close_34 : decode cX2_close 34 = .ok (.astore 6, 2) := by decide +kernel
theorem dX2_close_36 : decode cX2_close 36 = .ok (.aload 6, 2) := by decide +kernel
theorem dX2_close_38 : decode cX2_close 38 = .ok (.ifnull 14, 3) := by decide +kernel
theorem dX2_close_41 : decode cX2_close 41 = .ok (.aload 6, 2) := by decide +kernel
theorem dX2_close_43 : decode cX2_close 43 = .ok (.getfield 162, 3) := by decide +kernel
theorem dX2_close_46 : decode cX2_close 46 = .ok (.ifCond .ne 6, 3) := by decide +kernel
theorem dX2_close_49 : decode cX2_close 49 = .ok (.iinc 2 1, 3) := by decide +kernel
theorem dX2_close_52 : decode cX2_close 52 = .ok (.iinc 5 1, 3) := by decide +kernel
theorem dX2_close_55 : decode cX2_close 55 = .ok (.goto (-32), 3) := by decide +kernel
theorem dX2_close_58 : decode cX2_close 58 = .ok (.iload_n 2, 1) := by decide +kernel
theorem dX2_close_59 : decode cX2_close 59 = .ok (.ireturn, 1) := by decide +kernel
theorem dX2_checkKey_0 : decode cX2_checkKey 0 = .ok (.iload_n 0, 1) := by decide +kernel
theorem dX2_checkKey_1 : decode cX2_checkKey 1 = .ok (.ifCond .lt 10, 3) := by decide +kernel
theorem dX2_checkKey_4 : decode cX2_checkKey 4 = .ok (.iload_n 0, 1) := by decide +kernel
theorem dX2_checkKey_5 : decode cX2_checkKey 5 = .ok (.sipush 200, 3) := by decide +kernel
theorem dX2_checkKey_8 : decode cX2_checkKey 8 = .ok (.if_icmp .lt 13, 3) := by decide +kernel
theorem dX2_checkKey_11 : decode cX2_checkKey 11 = .ok (.new 165, 3) := by decide +kernel
theorem dX2_checkKey_14 : decode cX2_checkKey 14 = .ok (.dup, 1) := by decide +kernel
theorem dX2_checkKey_15 : decode cX2_checkKey 15 = .ok (.ldc 167, 2) := by decide +kernel
theorem dX2_checkKey_17 : decode cX2_checkKey 17 = .ok (.invokespecial 169, 3) := by decide +kernel
theorem dX2_checkKey_20 : decode cX2_checkKey 20 = .ok (.athrow, 1) := by decide +kernel
theorem dX2_checkKey_21 : decode cX2_checkKey 21 = .ok (.return_, 1) := by decide +kernel
theorem dX2_checkValue_0 : decode cX2_checkValue 0 = .ok (.iload_n 0, 1) := by decide +kernel
theorem dX2_checkValue_1 : decode cX2_checkValue 1 = .ok (.ifCond .lt 10, 3) := by decide +kernel
theorem dX2_checkValue_4 : decode cX2_checkValue 4 = .ok (.iload_n 0, 1) := by decide +kernel
theorem dX2_checkValue_5 : decode cX2_checkValue 5 = .ok (.sipush 10000, 3) := by decide +kernel
theorem dX2_checkValue_8 : decode cX2_checkValue 8 = .ok (.if_icmp .lt 13, 3) := by decide +kernel
theorem dX2_checkValue_11 : decode cX2_checkValue 11 = .ok (.new 165, 3) := by decide +kernel
theorem dX2_checkValue_14 : decode cX2_checkValue 14 = .ok (.dup, 1) := by decide +kernel
theorem dX2_checkValue_15 : decode cX2_checkValue 15 = .ok (.ldc 170, 2) := by decide +kernel
theorem dX2_checkValue_17 : decode cX2_checkValue 17 = .ok (.invokespecial 169, 3) := by decide +kernel
theorem dX2_checkValue_20 : decode cX2_checkValue 20 = .ok (.athrow, 1) := by decide +kernel
theorem dX2_checkValue_21 : decode cX2_checkValue 21 = .ok (.return_, 1) := by decide +kernel
theorem dX2_checkPlace_0 : decode cX2_checkPlace 0 = .ok (.iload_n 0, 1) := by decide +kernel
theorem dX2_checkPlace_1 : decode cX2_checkPlace 1 = .ok (.ifCond .ge 13, 3) := by decide +kernel
theorem dX2_checkPlace_4 : decode cX2_checkPlace 4 = .ok (.new 172, 3) := by decide +kernel
theorem dX2_checkPlace_7 : decode cX2_checkPlace 7 = .ok (.dup, 1) := by decide +kernel
theorem dX2_checkPlace_8 : decode cX2_checkPlace 8 = .ok (.ldc 174, 2) := by decide +kernel
theorem dX2_checkPlace_10 : decode cX2_checkPlace 10 = .ok (.invokespecial 176, 3) := by decide +kernel
theorem dX2_checkPlace_13 : decode cX2_checkPlace 13 = .ok (.athrow, 1) := by decide +kernel
theorem dX2_checkPlace_14 : decode cX2_checkPlace 14 = .ok (.return_, 1) := by decide +kernel
theorem dX2_pageOf_0 : decode cX2_pageOf 0 = .ok (.iload_n 1, 1) := by decide +kernel
theorem dX2_pageOf_1 : decode cX2_pageOf 1 = .ok (.ifCond .lt 21, 3) := by decide +kernel
theorem dX2_pageOf_4 : decode cX2_pageOf 4 = .ok (.iload_n 1, 1) := by decide +kernel
theorem dX2_pageOf_5 : decode cX2_pageOf 5 = .ok (.aload_n 0, 1) := by decide +kernel
theorem dX2_pageOf_6 : decode cX2_pageOf 6 = .ok (.getfield 11, 3) := by decide +kernel
theorem dX2_pageOf_9 : decode cX2_pageOf 9 = .ok (.arraylength, 1) := by decide +kernel
theorem dX2_pageOf_10 : decode cX2_pageOf 10 = .ok (.if_icmp .ge 12, 3) := by decide +kernel
theorem dX2_pageOf_13 : decode cX2_pageOf 13 = .ok (.aload_n 0, 1) := by decide +kernel
theorem dX2_pageOf_14 : decode cX2_pageOf 14 = .ok (.getfield 11, 3) := by decide +kernel
theorem dX2_pageOf_17 : decode cX2_pageOf 17 = .ok (.iload_n 1, 1) := by decide +kernel
theorem dX2_pageOf_18 : decode cX2_pageOf 18 = .ok (.aaload, 1) := by decide +kernel
theorem dX2_pageOf_19 : decode cX2_pageOf 19 = .ok (.goto 4, 3) := by decide +kernel
theorem dX2_pageOf_22 : decode cX2_pageOf 22 = .ok (.aconst_null, 1) := by decide +kernel
theorem dX2_pageOf_23 : decode cX2_pageOf 23 = .ok (.astore_n 2, 1) := by decide +kernel
theorem dX2_pageOf_24 : decode cX2_pageOf 24 = .ok (.aload_n 2, 1) := by decide +kernel
theorem dX2_pageOf_25 : decode cX2_pageOf 25 = .ok (.ifnonnull 13, 3) := by decide +kernel
theorem dX2_pageOf_28 : decode cX2_pageOf 28 = .ok (.new 172, 3) := by decide +kernel
theorem dX2_pageOf_31 : decode cX2_pageOf 31 = .ok (.dup, 1) := by decide +kernel
theorem dX2_pageOf_32 : decode cX2_pageOf 32 = .ok (.ldc 177, 2) := by decide +kernel
theorem dX2_pageOf_34 : decode cX2_pageOf 34 = .ok (.invokespecial 176, 3) := by decide +kernel
theorem dX2_pageOf_37 : decode cX2_pageOf 37 = .ok (.athrow, 1) := by decide +kernel
theorem dX2_pageOf_38 : decode cX2_pageOf 38 = .ok (.aload_n 2, 1) := by decide +kernel
theorem dX2_pageOf_39 : decode cX2_pageOf 39 = .ok (.areturn, 1) := by decide +kernel
theorem dX2_cursorOf_0 : decode cX2_cursorOf 0 = .ok (.iload_n 1, 1) := by decide +kernel
theorem dX2_cursorOf_1 : decode cX2_cursorOf 1 = .ok (.ifCond .lt 21, 3) := by decide +kernel
theorem dX2_cursorOf_4 : decode cX2_cursorOf 4 = .ok (.iload_n 1, 1) := by decide +kernel
theorem dX2_cursorOf_5 : decode cX2_cursorOf 5 = .ok (.aload_n 0, 1) := by decide +kernel
theorem dX2_cursorOf_6 : decode cX2_cursorOf 6 = .ok (.getfield 24, 3) := by decide +kernel
theorem dX2_cursorOf_9 : decode cX2_cursorOf 9 = .ok (.arraylength, 1) := by decide +kernel
theorem dX2_cursorOf_10 : decode cX2_cursorOf 10 = .ok (.if_icmp .ge 12, 3) := by decide +kernel
theorem dX2_cursorOf_13 : decode cX2_cursorOf 13 = .ok (.aload_n 0, 1) := by decide +kernel
theorem dX2_cursorOf_14 : decode cX2_cursorOf 14 = .ok (.getfield 24, 3) := by decide +kernel
theorem dX2_cursorOf_17 : decode cX2_cursorOf 17 = .ok (.iload_n 1, 1) := by decide +kernel
theorem dX2_cursorOf_18 : decode cX2_cursorOf 18 = .ok (.aaload, 1) := by decide +kernel
theorem dX2_cursorOf_19 : decode cX2_cursorOf 19 = .ok (.goto 4, 3) := by decide +kernel
theorem dX2_cursorOf_22 : decode cX2_cursorOf 22 = .ok (.aconst_null, 1) := by decide +kernel
theorem dX2_cursorOf_23 : decode cX2_cursorOf 23 = .ok (.astore_n 2, 1) := by decide +kernel
theorem dX2_cursorOf_24 : decode cX2_cursorOf 24 = .ok (.aload_n 2, 1) := by decide +kernel
theorem dX2_cursorOf_25 : decode cX2_cursorOf 25 = .ok (.ifnull 10, 3) := by decide +kernel
theorem dX2_cursorOf_28 : decode cX2_cursorOf 28 = .ok (.aload_n 2, 1) := by decide +kernel
theorem dX2_cursorOf_29 : decode cX2_cursorOf 29 = .ok (.getfield 162, 3) := by decide +kernel
theorem dX2_cursorOf_32 : decode cX2_cursorOf 32 = .ok (.ifCond .eq 13, 3) := by decide +kernel
theorem dX2_cursorOf_35 : decode cX2_cursorOf 35 = .ok (.new 172, 3) := by decide +kernel
theorem dX2_cursorOf_38 : decode cX2_cursorOf 38 = .ok (.dup, 1) := by decide +kernel
theorem dX2_cursorOf_39 : decode cX2_cursorOf 39 = .ok (.ldc 179, 2) := by decide +kernel
theorem dX2_cursorOf_41 : decode cX2_cursorOf 41 = .ok (.invokespecial 176, 3) := by decide +kernel
theorem dX2_cursorOf_44 : decode cX2_cursorOf 44 = .ok (.athrow, 1) := by decide +kernel
theorem dX2_cursorOf_45 : decode cX2_cursorOf 45 = .ok (.aload_n 2, 1) := by decide +kernel
theorem dX2_cursorOf_46 : decode cX2_cursorOf 46 = .ok (.areturn, 1) := by decide +kernel
theorem dX2_numberOf_0 : decode cX2_numberOf 0 = .ok (.aload_n 0, 1) := by decide +kernel
theorem dX2_numberOf_1 : decode cX2_numberOf 1 = .ok (.ifnonnull 7, 3) := by decide +kernel
theorem dX2_numberOf_4 : decode cX2_numberOf 4 = .ok (.iconst (-1), 1) := by decide +kernel
theorem dX2_numberOf_5 : decode cX2_numberOf 5 = .ok (.goto 7, 3) := by decide +kernel
theorem dX2_numberOf_8 : decode cX2_numberOf 8 = .ok (.aload_n 0, 1) := by decide +kernel
theorem dX2_numberOf_9 : decode cX2_numberOf 9 = .ok (.getfield 106, 3) := by decide +kernel
theorem dX2_numberOf_12 : decode cX2_numberOf 12 = .ok (.ireturn, 1) := by decide +kernel
theorem dX2_goDown_0 : decode cX2_goDown 0 = .ok (.aload_n 0, 1) := by decide +kernel
theorem dX2_goDown_1 : decode cX2_goDown 1 = .ok (.getfield 35, 3) := by decide +kernel
theorem dX2_goDown_4 : decode cX2_goDown 4 = .ok (.astore_n 3, 1) := by decide +kernel
theorem dX2_goDown_5 : decode cX2_goDown 5 = .ok (.iconst 0, 1) := by decide +kernel
theorem dX2_goDown_6 : decode cX2_goDown 6 = .ok (.istore 4, 2) := by decide +kernel
theorem dX2_goDown_8 : decode cX2_goDown 8 = .ok (.iload 4, 2) := by decide +kernel
theorem dX2_goDown_10 : decode cX2_goDown 10 = .ok (.sipush 1024, 3) := by decide +kernel
theorem dX2_goDown_13 : decode cX2_goDown 13 = .ok (.if_icmp .ge 27, 3) := by decide +kernel
theorem dX2_goDown_16 : decode cX2_goDown 16 = .ok (.aload_n 3, 1) := by decide +kernel
theorem dX2_goDown_17 : decode cX2_goDown 17 = .ok (.iload_n 1, 1) := by decide +kernel
theorem dX2_goDown_18 : decode cX2_goDown 18 = .ok (.iload_n 2, 1) := by decide +kernel
theorem dX2_goDown_19 : decode cX2_goDown 19 = .ok (.invokevirtual 141, 3) := by decide +kernel
theorem dX2_goDown_22 : decode cX2_goDown 22 = .ok (.astore 5, 2) := by decide +kernel
theorem dX2_goDown_24 : decode cX2_goDown 24 = .ok (.aload 5, 2) := by decide +kernel
theorem dX2_goDown_26 : decode cX2_goDown 26 = .ok (.ifnonnull 5, 3) := by decide +kernel
theorem dX2_goDown_29 : decode cX2_goDown 29 = .ok (.aload_n 3, 1) := by decide +kernel
theorem dX2_goDown_30 : decode cX2_goDown 30 = .ok (.areturn, 1) := by decide +kernel
theorem dX2_goDown_31 : decode cX2_goDown 31 = .ok (.aload 5, 2) := by decide +kernel
theorem dX2_goDown_33 : decode cX2_goDown 33 = .ok (.astore_n 3, 1) := by decide +kernel
theorem dX2_goDown_34 : decode cX2_goDown 34 = .ok (.iinc 4 1, 3) := by decide +kernel
theorem dX2_goDown_37 : decode cX2_goDown 37 = .ok (.goto (-29), 3) := by decide +kernel
theorem dX2_goDown_40 : decode cX2_goDown 40 = .ok (.aload_n 3, 1) := by decide +kernel
theorem dX2_goDown_41 : decode cX2_goDown 41 = .ok (.areturn, 1) := by decide +kernel
theorem dX2_lowestFreeNumber_0 : decode cX2_lowestFreeNumber 0 = .ok (.iconst 0, 1) := by decide +kernel
theorem dX2_lowestFreeNumber_1 : decode cX2_lowestFreeNumber 1 = .ok (.istore_n 1, 1) := by decide +kernel
theorem dX2_lowestFreeNumber_2 : decode cX2_lowestFreeNumber 2 = .ok (.iload_n 1, 1) := by decide +kernel
theorem dX2_lowestFreeNumber_3 : decode cX2_lowestFreeNumber 3 = .ok (.aload_n 0, 1) := by decide +kernel
theorem dX2_lowestFreeNumber_4 : decode cX2_lowestFreeNumber 4 = .ok (.getfield 11, 3) := by decide +kernel
theorem dX2_lowestFreeNumber_7 : decode cX2_lowestFreeNumber 7 = .ok (.arraylength, 1) := by decide +kernel
theorem dX2_lowestFreeNumber_8 : decode cX2_lowestFreeNumber 8 = .ok (.if_icmp .ge 20, 3) := by decide +kernel
theorem dX2_lowestFreeNumber_11 : decode cX2_lowestFreeNumber 11 = .ok (.aload_n 0, 1) := by decide +kernel
theorem dX2_lowestFreeNumber_12 : decode cX2_lowestFreeNumber 12 = .ok (.getfield 11, 3) := by decide +kernel
theorem dX2_lowestFreeNumber_15 : decode cX2_lowestFreeNumber 15 = .ok (.iload_n 1, 1) := by decide +kernel
theorem dX2_lowestFreeNumber_16 : decode cX2_lowestFreeNumber 16 = .ok (.aaload, 1) := by decide +kernel
theorem dX2_lowestFreeNumber_17 : decode cX2_lowestFreeNumber 17 = .ok (.ifnonnull 5, 3) := by decide +kernel
theorem dX2_lowestFreeNumber_20 : decode cX2_lowestFreeNumber 20 = .ok (.iload_n 1, 1) := by decide +kernel
theorem dX2_lowestFreeNumber_21 : decode cX2_lowestFreeNumber 21 = .ok (.ireturn, 1) := by decide +kernel
theorem dX2_lowestFreeNumber_22 : decode cX2_lowestFreeNumber 22 = .ok (.iinc 1 1, 3) := by decide +kernel
theorem dX2_lowestFreeNumber_25 : decode cX2_lowestFreeNumber 25 = .ok (.goto (-23), 3) := by decide +kernel
theorem dX2_lowestFreeNumber_28 : decode cX2_lowestFreeNumber 28 = .ok (.iconst (-1), 1) := by decide +kernel
theorem dX2_lowestFreeNumber_29 : decode cX2_lowestFreeNumber 29 = .ok (.ireturn, 1) := by decide +kernel
theorem dX2_addTo_0 : decode cX2_addTo 0 = .ok (.aload_n 1, 1) := by decide +kernel
theorem dX2_addTo_1 : decode cX2_addTo 1 = .ok (.getfield 126, 3) := by decide +kernel
theorem dX2_addTo_4 : decode cX2_addTo 4 = .ok (.iconst 4, 1) := by decide +kernel
theorem dX2_addTo_5 : decode cX2_addTo 5 = .ok (.if_icmp .ge 13, 3) := by decide +kernel
theorem dX2_addTo_8 : decode cX2_addTo 8 = .ok (.aload_n 1, 1) := by decide +kernel
theorem dX2_addTo_9 : decode cX2_addTo 9 = .ok (.iload_n 2, 1) := by decide +kernel
theorem dX2_addTo_10 : decode cX2_addTo 10 = .ok (.iload_n 3, 1) := by decide +kernel
theorem dX2_addTo_11 : decode cX2_addTo 11 = .ok (.aload 4, 2) := by decide +kernel
theorem dX2_addTo_13 : decode cX2_addTo 13 = .ok (.invokevirtual 181, 3) := by decide +kernel
theorem dX2_addTo_16 : decode cX2_addTo 16 = .ok (.iconst 1, 1) := by decide +kernel
theorem dX2_addTo_17 : decode cX2_addTo 17 = .ok (.ireturn, 1) := by decide +kernel
theorem dX2_addTo_18 : decode cX2_addTo 18 = .ok (.aload_n 0, 1) := by decide +kernel
theorem dX2_addTo_19 : decode cX2_addTo 19 = .ok (.invokevirtual 185, 3) := by decide +kernel
theorem dX2_addTo_22 : decode cX2_addTo 22 = .ok (.istore 5, 2) := by decide +kernel
theorem dX2_addTo_24 : decode cX2_addTo 24 = .ok (.iload 5, 2) := by decide +kernel
theorem dX2_addTo_26 : decode cX2_addTo 26 = .ok (.ifCond .lt 13, 3) := by decide +kernel
theorem dX2_addTo_29 : decode cX2_addTo 29 = .ok (.iload 5, 2) := by decide +kernel
theorem dX2_addTo_31 : decode cX2_addTo 31 = .ok (.aload_n 0, 1) := by decide +kernel
theorem dX2_addTo_32 : decode cX2_addTo 32 = .ok (.getfield 11, 3) := by decide +kernel
theorem dX2_addTo_35 : decode cX2_addTo 35 = .ok (.arraylength, 1) := by decide +kernel
theorem dX2_addTo_36 : decode cX2_addTo 36 = .ok (.if_icmp .lt 5, 3) := by decide +kernel
theorem dX2_addTo_39 : decode cX2_addTo 39 = .ok (.iconst 0, 1) := by decide +kernel
theorem dX2_addTo_40 : decode cX2_addTo 40 = .ok (.ireturn, 1) := by decide +kernel
theorem dX2_addTo_41 : decode cX2_addTo 41 = .ok (.aload_n 1, 1) := by decide +kernel
theorem dX2_addTo_42 : decode cX2_addTo 42 = .ok (.iload_n 2, 1) := by decide +kernel
theorem dX2_addTo_43 : decode cX2_addTo 43 = .ok (.iload_n 3, 1) := by decide +kernel
theorem dX2_addTo_44 : decode cX2_addTo 44 = .ok (.aload 4, 2) := by decide +kernel
theorem dX2_addTo_46 : decode cX2_addTo 46 = .ok (.invokevirtual 181, 3) := by decide +kernel
theorem dX2_addTo_49 : decode cX2_addTo 49 = .ok (.aload_n 1, 1) := by decide +kernel
theorem dX2_addTo_50 : decode cX2_addTo 50 = .ok (.iload 5, 2) := by decide +kernel
theorem dX2_addTo_52 : decode cX2_addTo 52 = .ok (.invokevirtual 188, 3) := by decide +kernel
theorem dX2_addTo_55 : decode cX2_addTo 55 = .ok (.astore 6, 2) := by decide +kernel
theorem dX2_addTo_57 : decode cX2_addTo 57 = .ok (.aload_n 0, 1) := by decide +kernel
theorem dX2_addTo_58 : decode cX2_addTo 58 = .ok (.getfield 11, 3) := by decide +kernel
theorem dX2_addTo_61 : decode cX2_addTo 61 = .ok (.iload 5, 2) := by decide +kernel
theorem dX2_addTo_63 : decode cX2_addTo 63 = .ok (.aload 6, 2) := by decide +kernel
theorem dX2_addTo_65 : decode cX2_addTo 65 = .ok (.aastore, 1) := by decide +kernel
theorem dX2_addTo_66 : decode cX2_addTo 66 = .ok (.aload_n 0, 1) := by decide +kernel
theorem dX2_addTo_67 : decode cX2_addTo 67 = .ok (.getfield 18, 3) := by decide +kernel
theorem dX2_addTo_70 : decode cX2_addTo 70 = .ok (.aload 6, 2) := by decide +kernel
theorem dX2_addTo_72 : decode cX2_addTo 72 = .ok (.invokevirtual 191, 3) := by decide +kernel
theorem dX2_addTo_75 : decode cX2_addTo 75 = .ok (.pop, 1) := by decide +kernel
theorem dX2_addTo_76 : decode cX2_addTo 76 = .ok (.iconst 1, 1) := by decide +kernel
theorem dX2_addTo_77 : decode cX2_addTo 77 = .ok (.ireturn, 1) := by decide +kernel
theorem dX2_postLongestWaiting_0 : decode cX2_postLongestWaiting 0 = .ok (.aload_n 0, 1) := by decide +kernel
theorem dX2_postLongestWaiting_1 : decode cX2_postLongestWaiting 1 = .ok (.getfield 18, 3) := by decide +kernel
theorem dX2_postLongestWaiting_4 : decode cX2_postLongestWaiting 4 = .ok (.invokevirtual 78, 3) := by decide +kernel
theorem dX2_postLongestWaiting_7 : decode cX2_postLongestWaiting 7 = .ok (.ifCond .eq 4, 3) := by decide +kernel
theorem dX2_postLongestWaiting_10 : decode cX2_postLongestWaiting 10 = .ok (.return_, 1) := by decide +kernel
theorem dX2_postLongestWaiting_11 : decode cX2_postLongestWaiting 11 = .ok (.aload_n 0, 1) := by decide +kernel
theorem dX2_postLongestWaiting_12 : decode cX2_postLongestWaiting 12 = .ok (.getfield 18, 3) := by decide +kernel
theorem dX2_postLongestWaiting_15 : decode cX2_postLongestWaiting 15 = .ok (.iconst 0, 1) := by decide +kernel
theorem dX2_postLongestWaiting_16 : decode cX2_postLongestWaiting 16 = .ok (.invokevirtual 195, 3) := by decide +kernel
theorem dX2_postLongestWaiting_19 : decode cX2_postLongestWaiting 19 = .ok (.checkcast 9, 3) := by decide +kernel
theorem dX2_postLongestWaiting_22 : decode cX2_postLongestWaiting 22 = .ok (.astore_n 1, 1) := by decide +kernel
theorem dX2_postLongestWaiting_23 : decode cX2_postLongestWaiting 23 = .ok (.aload_n 1, 1) := by decide +kernel
theorem dX2_postLongestWaiting_24 : decode cX2_postLongestWaiting 24 = .ok (.getfield 92, 3) := by decide +kernel
theorem dX2_postLongestWaiting_27 : decode cX2_postLongestWaiting 27 = .ok (.aload_n 0, 1) := by decide +kernel
theorem dX2_postLongestWaiting_28 : decode cX2_postLongestWaiting 28 = .ok (.getfield 35, 3) := by decide +kernel
theorem dX2_postLongestWaiting_31 : decode cX2_postLongestWaiting 31 = .ok (.getfield 92, 3) := by decide +kernel
theorem dX2_postLongestWaiting_34 : decode cX2_postLongestWaiting 34 = .ok (.if_icmp .ne 11, 3) := by decide +kernel
theorem dX2_postLongestWaiting_37 : decode cX2_postLongestWaiting 37 = .ok (.aload_n 0, 1) := by decide +kernel
theorem dX2_postLongestWaiting_38 : decode cX2_postLongestWaiting 38 = .ok (.aload_n 1, 1) := by decide +kernel
theorem dX2_postLongestWaiting_39 : decode cX2_postLongestWaiting 39 = .ok (.invokevirtual 199, 3) := by decide +kernel
theorem dX2_postLongestWaiting_42 : decode cX2_postLongestWaiting 42 = .ok (.goto 28, 3) := by decide +kernel
theorem dX2_postLongestWaiting_45 : decode cX2_postLongestWaiting 45 = .ok (.aload_n 0, 1) := by decide +kernel
theorem dX2_postLongestWaiting_46 : decode cX2_postLongestWaiting 46 = .ok (.aload_n 0, 1) := by decide +kernel
theorem dX2_postLongestWaiting_47 : decode cX2_postLongestWaiting 47 = .ok (.aload_n 1, 1) := by decide +kernel
theorem dX2_postLongestWaiting_48 : decode cX2_postLongestWaiting 48 = .ok (.getfield 202, 3) := by decide +kernel
theorem dX2_postLongestWaiting_51 : decode cX2_postLongestWaiting 51 = .ok (.aload_n 1, 1) := by decide +kernel
theorem dX2_postLongestWaiting_52 : decode cX2_postLongestWaiting 52 = .ok (.getfield 92, 3) := by decide +kernel
theorem dX2_postLongestWaiting_55 : decode cX2_postLongestWaiting 55 = .ok (.iconst 1, 1) := by decide +kernel
theorem dX2_postLongestWaiting_56 : decode cX2_postLongestWaiting 56 = .ok (.iadd, 1) := by decide +kernel
theorem dX2_postLongestWaiting_57 : decode cX2_postLongestWaiting 57 = .ok (.invokevirtual 45, 3) := by decide +kernel
theorem dX2_postLongestWaiting_60 : decode cX2_postLongestWaiting 60 = .ok (.aload_n 1, 1) := by decide +kernel
theorem dX2_postLongestWaiting_61 : decode cX2_postLongestWaiting 61 = .ok (.getfield 202, 3) := by decide +kernel
theorem dX2_postLongestWaiting_64 : decode cX2_postLongestWaiting 64 = .ok (.iconst (-1), 1) := by decide +kernel
theorem dX2_postLongestWaiting_65 : decode cX2_postLongestWaiting 65 = .ok (.aload_n 1, 1) := by decide +kernel
theorem dX2_postLongestWaiting_66 : decode cX2_postLongestWaiting 66 = .ok (.invokevirtual 57, 3) := by decide +kernel
theorem dX2_postLongestWaiting_69 : decode cX2_postLongestWaiting 69 = .ok (.pop, 1) := by decide +kernel
theorem dX2_postLongestWaiting_70 : decode cX2_postLongestWaiting 70 = .ok (.return_, 1) := by decide +kernel
theorem dX2_growRoot_0 : decode cX2_growRoot 0 = .ok (.aload_n 0, 1) := by decide +kernel
theorem dX2_growRoot_1 : decode cX2_growRoot 1 = .ok (.invokevirtual 185, 3) := by decide +kernel
theorem dX2_growRoot_4 : decode cX2_growRoot 4 = .ok (.istore_n 2, 1) := by decide +kernel
theorem dX2_growRoot_5 : decode cX2_growRoot 5 = .ok (.iload_n 2, 1) := by decide +kernel
theorem dX2_growRoot_6 : decode cX2_growRoot 6 = .ok (.ifCond .lt 12, 3) := by decide +kernel
theorem dX2_growRoot_9 : decode cX2_growRoot 9 = .ok (.iload_n 2, 1) := by decide +kernel
theorem dX2_growRoot_10 : decode cX2_growRoot 10 = .ok (.aload_n 0, 1) := by decide +kernel
theorem dX2_growRoot_11 : decode cX2_growRoot 11 = .ok (.getfield 11, 3) := by decide +kernel
theorem dX2_growRoot_14 : decode cX2_growRoot 14 = .ok (.arraylength, 1) := by decide +kernel
theorem dX2_growRoot_15 : decode cX2_growRoot 15 = .ok (.if_icmp .lt 4, 3) := by decide +kernel
theorem dX2_growRoot_18 : decode cX2_growRoot 18 = .ok (.return_, 1) := by decide +kernel
theorem dX2_growRoot_19 : decode cX2_growRoot 19 = .ok (.new 9, 3) := by decide +kernel
theorem dX2_growRoot_22 : decode cX2_growRoot 22 = .ok (.dup, 1) := by decide +kernel
theorem dX2_growRoot_23 : decode cX2_growRoot 23 = .ok (.iload_n 2, 1) := by decide +kernel
theorem dX2_growRoot_24 : decode cX2_growRoot 24 = .ok (.aload_n 0, 1) := by decide +kernel
theorem dX2_growRoot_25 : decode cX2_growRoot 25 = .ok (.getfield 35, 3) := by decide +kernel
theorem dX2_growRoot_28 : decode cX2_growRoot 28 = .ok (.getfield 92, 3) := by decide +kernel
theorem dX2_growRoot_31 : decode cX2_growRoot 31 = .ok (.iconst 1, 1) := by decide +kernel
theorem dX2_growRoot_32 : decode cX2_growRoot 32 = .ok (.iadd, 1) := by decide +kernel
theorem dX2_growRoot_33 : decode cX2_growRoot 33 = .ok (.iconst 0, 1) := by decide +kernel
theorem dX2_growRoot_34 : decode cX2_growRoot 34 = .ok (.sipush 200, 3) := by decide +kernel
theorem dX2_growRoot_37 : decode cX2_growRoot 37 = .ok (.invokespecial 28, 3) := by decide +kernel
theorem dX2_growRoot_40 : decode cX2_growRoot 40 = .ok (.astore_n 3, 1) := by decide +kernel
theorem dX2_growRoot_41 : decode cX2_growRoot 41 = .ok (.aload_n 3, 1) := by decide +kernel
theorem dX2_growRoot_42 : decode cX2_growRoot 42 = .ok (.iconst 0, 1) := by decide +kernel
theorem dX2_growRoot_43 : decode cX2_growRoot 43 = .ok (.iconst (-1), 1) := by decide +kernel
theorem dX2_growRoot_44 : decode cX2_growRoot 44 = .ok (.aload_n 0, 1) := by decide +kernel
theorem dX2_growRoot_45 : decode cX2_growRoot 45 = .ok (.getfield 35, 3) := by decide +kernel
theorem dX2_growRoot_48 : decode cX2_growRoot 48 = .ok (.invokevirtual 181, 3) := by decide +kernel
theorem dX2_growRoot_51 : decode cX2_growRoot 51 = .ok (.aload_n 3, 1) := by decide +kernel
theorem dX2_growRoot_52 : decode cX2_growRoot 52 = .ok (.aload_n 1, 1) := by decide +kernel
theorem dX2_growRoot_53 : decode cX2_growRoot 53 = .ok (.getfield 202, 3) := by decide +kernel
theorem dX2_growRoot_56 : decode cX2_growRoot 56 = .ok (.iconst (-1), 1) := by decide +kernel
theorem dX2_growRoot_57 : decode cX2_growRoot 57 = .ok (.aload_n 1, 1) := by decide +kernel
theorem dX2_growRoot_58 : decode cX2_growRoot 58 = .ok (.invokevirtual 181, 3) := by decide +kernel
theorem dX2_growRoot_61 : decode cX2_growRoot 61 = .ok (.aload_n 0, 1) := by decide +kernel
theorem dX2_growRoot_62 : decode cX2_growRoot 62 = .ok (.getfield 11, 3) := by decide +kernel
theorem dX2_growRoot_65 : decode cX2_growRoot 65 = .ok (.iload_n 2, 1) := by decide +kernel
theorem dX2_growRoot_66 : decode cX2_growRoot 66 = .ok (.aload_n 3, 1) := by decide +kernel
theorem dX2_growRoot_67 : decode cX2_growRoot 67 = .ok (.aastore, 1) := by decide +kernel
theorem dX2_growRoot_68 : decode cX2_growRoot 68 = .ok (.aload_n 0, 1) := by decide +kernel
theorem dX2_growRoot_69 : decode cX2_growRoot 69 = .ok (.aload_n 3, 1) := by decide +kernel
theorem dX2_growRoot_70 : decode cX2_growRoot 70 = .ok (.putfield 35, 3) := by decide +kernel
theorem dX2_growRoot_73 : decode cX2_growRoot 73 = .ok (.return_, 1) := by decide +kernel
theorem dX2_unlink_0 : decode cX2_unlink 0 = .ok (.aload_n 0, 1) := by decide +kernel
theorem dX2_unlink_1 : decode cX2_unlink 1 = .ok (.getfield 31, 3) := by decide +kernel
theorem dX2_unlink_4 : decode cX2_unlink 4 = .ok (.astore_n 2, 1) := by decide +kernel
theorem dX2_unlink_5 : decode cX2_unlink 5 = .ok (.aload_n 2, 1) := by decide +kernel
theorem dX2_unlink_6 : decode cX2_unlink 6 = .ok (.ifnull 38, 3) := by decide +kernel
theorem dX2_unlink_9 : decode cX2_unlink 9 = .ok (.aload_n 2, 1) := by decide +kernel
theorem dX2_unlink_10 : decode cX2_unlink 10 = .ok (.getfield 71, 3) := by decide +kernel
theorem dX2_unlink_13 : decode cX2_unlink 13 = .ok (.aload_n 1, 1) := by decide +kernel
theorem dX2_unlink_14 : decode cX2_unlink 14 = .ok (.if_acmp .ne 22, 3) := by decide +kernel
theorem dX2_unlink_17 : decode cX2_unlink 17 = .ok (.aload_n 2, 1) := by decide +kernel
theorem dX2_unlink_18 : decode cX2_unlink 18 = .ok (.aload_n 1, 1) := by decide +kernel
theorem dX2_unlink_19 : decode cX2_unlink 19 = .ok (.getfield 138, 3) := by decide +kernel
theorem dX2_unlink_22 : decode cX2_unlink 22 = .ok (.putfield 138, 3) := by decide +kernel
theorem dX2_unlink_25 : decode cX2_unlink 25 = .ok (.aload_n 2, 1) := by decide +kernel
theorem dX2_unlink_26 : decode cX2_unlink 26 = .ok (.aload_n 1, 1) := by decide +kernel
theorem dX2_unlink_27 : decode cX2_unlink 27 = .ok (.getfield 71, 3) := by decide +kernel
theorem dX2_unlink_30 : decode cX2_unlink 30 = .ok (.putfield 71, 3) := by decide +kernel
theorem dX2_unlink_33 : decode cX2_unlink 33 = .ok (.goto 11, 3) := by decide +kernel
theorem dX2_unlink_36 : decode cX2_unlink 36 = .ok (.aload_n 2, 1) := by decide +kernel
theorem dX2_unlink_37 : decode cX2_unlink 37 = .ok (.getfield 71, 3) := by decide +kernel
theorem dX2_unlink_40 : decode cX2_unlink 40 = .ok (.astore_n 2, 1) := by decide +kernel
theorem dX2_unlink_41 : decode cX2_unlink 41 = .ok (.goto (-36), 3) := by decide +kernel
theorem dX2_unlink_44 : decode cX2_unlink 44 = .ok (.aload_n 1, 1) := by decide +kernel
theorem dX2_unlink_45 : decode cX2_unlink 45 = .ok (.iconst 1, 1) := by decide +kernel
theorem dX2_unlink_46 : decode cX2_unlink 46 = .ok (.putfield 109, 3) := by decide +kernel
theorem dX2_unlink_49 : decode cX2_unlink 49 = .ok (.aload_n 1, 1) := by decide +kernel
theorem dX2_unlink_50 : decode cX2_unlink 50 = .ok (.aload_n 0, 1) := by decide +kernel
theorem dX2_unlink_51 : decode cX2_unlink 51 = .ok (.getfield 120, 3) := by decide +kernel
theorem dX2_unlink_54 : decode cX2_unlink 54 = .ok (.putfield 113, 3) := by decide +kernel
theorem dX2_unlink_57 : decode cX2_unlink 57 = .ok (.aload_n 0, 1) := by decide +kernel
theorem dX2_unlink_58 : decode cX2_unlink 58 = .ok (.dup, 1) := by decide +kernel
theorem dX2_unlink_59 : decode cX2_unlink 59 = .ok (.getfield 120, 3) := by decide +kernel
theorem dX2_unlink_62 : decode cX2_unlink 62 = .ok (.iconst 1, 1) := by decide +kernel
theorem dX2_unlink_63 : decode cX2_unlink 63 = .ok (.iadd, 1) := by decide +kernel
theorem dX2_unlink_64 : decode cX2_unlink 64 = .ok (.putfield 120, 3) := by decide +kernel
theorem dX2_unlink_67 : decode cX2_unlink 67 = .ok (.return_, 1) := by decide +kernel
theorem dX2_allOpenedAfter_0 : decode cX2_allOpenedAfter 0 = .ok (.aload_n 0, 1) := by decide +kernel
theorem dX2_allOpenedAfter_1 : decode cX2_allOpenedAfter 1 = .ok (.getfield 24, 3) := by decide +kernel
theorem dX2_allOpenedAfter_4 : decode cX2_allOpenedAfter 4 = .ok (.astore_n 2, 1) := by decide +kernel
theorem dX2_allOpenedAfter_5 : decode cX2_allOpenedAfter 5 = .ok (.aload_n 2, 1) := by decide +kernel
theorem dX2_allOpenedAfter_6 : decode cX2_allOpenedAfter 6 = .ok (.arraylength, 1) := by decide +kernel
theorem dX2_allOpenedAfter_7 : decode cX2_allOpenedAfter 7 = .ok (.istore_n 3, 1) := by decide +kernel
theorem dX2_allOpenedAfter_8 : decode cX2_allOpenedAfter 8 = .ok (.iconst 0, 1) := by decide +kernel
theorem dX2_allOpenedAfter_9 : decode cX2_allOpenedAfter 9 = .ok (.istore 4, 2) := by decide +kernel
theorem dX2_allOpenedAfter_11 : decode cX2_allOpenedAfter 11 = .ok (.iload 4, 2) := by decide +kernel
theorem dX2_allOpenedAfter_13 : decode cX2_allOpenedAfter 13 = .ok (.iload_n 3, 1) := by decide +kernel
theorem dX2_allOpenedAfter_14 : decode cX2_allOpenedAfter 14 = .ok (.if_icmp .ge 39, 3) := by decide +kernel
theorem dX2_allOpenedAfter_17 : decode cX2_allOpenedAfter 17 = .ok (.aload_n 2, 1) := by decide +kernel
theorem dX2_allOpenedAfter_18 : decode cX2_allOpenedAfter 18 = .ok (.iload 4, 2) := by decide +kernel
theorem dX2_allOpenedAfter_20 : decode cX2_allOpenedAfter 20 = .ok (.aaload, 1) := by decide +kernel
theorem dX2_allOpenedAfter_21 : decode cX2_allOpenedAfter 21 = .ok (.astore 5, 2) := by decide +kernel
theorem dX2_allOpenedAfter_23 : decode cX2_allOpenedAfter 23 = .ok (.aload 5, 2) := by decide +kernel
theorem dX2_allOpenedAfter_25 : decode cX2_allOpenedAfter 25 = .ok (.ifnull 22, 3) := by decide +kernel
theorem dX2_allOpenedAfter_28 : decode cX2_allOpenedAfter 28 = .ok (.aload 5, 2) := by decide +kernel
theorem dX2_allOpenedAfter_30 : decode cX2_allOpenedAfter 30 = .ok (.getfield 162, 3) := by decide +kernel
theorem dX2_allOpenedAfter_33 : decode cX2_allOpenedAfter 33 = .ok (.ifCond .ne 14, 3) := by decide +kernel
theorem dX2_allOpenedAfter_36 : decode cX2_allOpenedAfter 36 = .ok (.aload 5, 2) := by decide +kernel
theorem dX2_allOpenedAfter_38 : decode cX2_allOpenedAfter 38 = .ok (.getfield 205, 3) := by decide +kernel
theorem dX2_allOpenedAfter_41 : decode cX2_allOpenedAfter 41 = .ok (.iload_n 1, 1) := by decide +kernel
theorem dX2_allOpenedAfter_42 : decode cX2_allOpenedAfter 42 = .ok (.if_icmp .gt 5, 3) := by decide +kernel
theorem dX2_allOpenedAfter_45 : decode cX2_allOpenedAfter 45 = .ok (.iconst 0, 1) := by decide +kernel
theorem dX2_allOpenedAfter_46 : decode cX2_allOpenedAfter 46 = .ok (.ireturn, 1) := by decide +kernel
theorem dX2_allOpenedAfter_47 : decode cX2_allOpenedAfter 47 = .ok (.iinc 4 1, 3) := by decide +kernel
theorem dX2_allOpenedAfter_50 : decode cX2_allOpenedAfter 50 = .ok (.goto (-39), 3) := by decide +kernel
theorem dX2_allOpenedAfter_53 : decode cX2_allOpenedAfter 53 = .ok (.iconst 1, 1) := by decide +kernel
theorem dX2_allOpenedAfter_54 : decode cX2_allOpenedAfter 54 = .ok (.ireturn, 1) := by decide +kernel
end
section
/-! decode rows -/
theorem dX3_init_0 : decode cX3_init 0 = .ok (.aload_n 0, 1) := by decide +kernel
theorem dX3_init_1 : decode cX3_init 1 = .ok (.invokespecial 1, 3) := by decide +kernel
theorem dX3_init_4 : decode cX3_init 4 = .ok (.aload_n 0, 1) := by decide +kernel
theorem dX3_init_5 : decode cX3_init 5 = .ok (.sipush 800, 3) := by decide +kernel
theorem dX3_init_8 : decode cX3_init 8 = .ok (.newarray .boolean, 2) := by decide +kernel
theorem dX3_init_10 : decode cX3_init 10 = .ok (.putfield 7, 3) := by decide +kernel
theorem dX3_init_13 : decode cX3_init 13 = .ok (.aload_n 0, 1) := by decide +kernel
theorem dX3_init_14 : decode cX3_init 14 = .ok (.sipush 800, 3) := by decide +kernel
theorem dX3_init_17 : decode cX3_init 17 = .ok (.newarray .int, 2) := by decide +kernel
theorem dX3_init_19 : decode cX3_init 19 = .ok (.putfield 13, 3) := by decide +kernel
theorem dX3_init_22 : decode cX3_init 22 = .ok (.aload_n 0, 1) := by decide +kernel
theorem dX3_init_23 : decode cX3_init 23 = .ok (.sipush 800, 3) := by decide +kernel
theorem dX3_init_26 : decode cX3_init 26 = .ok (.newarray .int, 2) := by decide +kernel
theorem dX3_init_28 : decode cX3_init 28 = .ok (.putfield 17, 3) := by decide +kernel
theorem dX3_init_31 : decode cX3_init 31 = .ok (.aload_n 0, 1) := by decide +kernel
theorem dX3_init_32 : decode cX3_init 32 = .ok (.sipush 800, 3) := by decide +kernel
theorem dX3_init_35 : decode cX3_init 35 = .ok (.newarray .int, 2) := by decide +kernel
theorem dX3_init_37 : decode cX3_init 37 = .ok (.putfield 20, 3) := by decide +kernel
theorem dX3_init_40 : decode cX3_init 40 = .ok (.aload_n 0, 1) := by decide +kernel
theorem dX3_init_41 : decode cX3_init 41 = .ok (.sipush 800, 3) := by decide +kernel
theorem dX3_init_44 : decode cX3_init 44 = .ok (.newarray .int, 2) := by decide +kernel
theorem dX3_init_46 : decode cX3_init 46 = .ok (.putfield 23, 3) := by decide +kernel
theorem dX3_init_49 : decode cX3_init 49 = .ok (.aload_n 0, 1) := by decide +kernel
theorem dX3_init_50 : decode cX3_init 50 = .ok (.sipush 800, 3) := by decide +kernel
theorem dX3_init_53 : decode cX3_init 53 = .ok (.newarray .int, 2) := by decide +kernel
theorem dX3_init_55 : decode cX3_init 55 = .ok (.putfield 26, 3) := by decide +kernel
theorem dX3_init_58 : decode cX3_init 58 = .ok (.aload_n 0, 1) := by decide +kernel
theorem dX3_init_59 : decode cX3_init 59 = .ok (.sipush 4000, 3) := by decide +kernel
theorem dX3_init_62 : decode cX3_init 62 = .ok (.newarray .int, 2) := by decide +kernel
theorem dX3_init_64 : decode cX3_init 64 = .ok (.putfield 29, 3) := by decide +kernel
theorem dX3_init_67 : decode cX3_init 67 = .ok (.aload_n 0, 1) := by decide +kernel
theorem dX3_init_68 : decode cX3_init 68 = .ok (.sipush 4000, 3) := by decide +kernel
theorem dX3_init_71 : decode cX3_init 71 = .ok (.newarray .int, 2) := by decide +kernel
theorem dX3_init_73 : decode cX3_init 73 = .ok (.putfield 32, 3) := by decide +kernel
theorem dX3_init_76 : decode cX3_init 76 = .ok (.aload_n 0, 1) := by decide +kernel
theorem dX3_init_77 : decode cX3_init 77 = .ok (.sipush 800, 3) := by decide +kernel
theorem dX3_init_80 : decode cX3_init 80 = .ok (.newarray .int, 2) := by decide +kernel
theorem dX3_init_82 : decode cX3_init 82 = .ok (.putfield 35, 3) := by decide +kernel
theorem dX3_init_85 : decode cX3_init 85 = .ok (.aload_n 0, 1) := by decide +kernel
theorem dX3_init_86 : decode cX3_init 86 = .ok (.sipush 800, 3) := by decide +kernel
theorem dX3_init_89 : decode cX3_init 89 = .ok (.newarray .int, 2) := by decide +kernel
theorem dX3_init_91 : decode cX3_init 91 = .ok (.putfield 38, 3) := by decide +kernel
theorem dX3_init_94 : decode cX3_init 94 = .ok (.aload_n 0, 1) := by decide +kernel
theorem dX3_init_95 : decode cX3_init 95 = .ok (.bipush 20, 2) := by decide +kernel
theorem dX3_init_97 : decode cX3_init 97 = .ok (.newarray .boolean, 2) := by decide +kernel
theorem dX3_init_99 : decode cX3_init 99 = .ok (.putfield 41, 3) := by decide +kernel
theorem dX3_init_102 : decode cX3_init 102 = .ok (.aload_n 0, 1) := by decide +kernel
theorem dX3_init_103 : decode cX3_init 103 = .ok (.bipush 20, 2) := by decide +kernel
theorem dX3_init_105 : decode cX3_init 105 = .ok (.newarray .int, 2) := by decide +kernel
theorem dX3_init_107 : decode cX3_init 107 = .ok (.putfield 44, 3) := by decide +kernel
theorem dX3_init_110 : decode cX3_init 110 = .ok (.aload_n 0, 1) := by decide +kernel
theorem dX3_init_111 : decode cX3_init 111 = .ok (.bipush 20, 2) := by decide +kernel
theorem dX3_init_113 : decode cX3_init 113 = .ok (.newarray .int, 2) := by decide +kernel
theorem dX3_init_115 : decode cX3_init 115 = .ok (.putfield 47, 3) := by decide +kernel
theorem dX3_init_118 : decode cX3_init 118 = .ok (.aload_n 0, 1) := by decide +kernel
theorem dX3_init_119 : decode cX3_init 119 = .ok (.bipush 20, 2) := by decide +kernel
theorem dX3_init_121 : decode cX3_init 121 = .ok (.newarray .int, 2) := by decide +kernel
theorem dX3_init_123 : decode cX3_init 123 = .ok (.putfield 50, 3) := by decide +kernel
theorem dX3_init_126 : decode cX3_init 126 = .ok (.aload_n 0, 1) := by decide +kernel
theorem dX3_init_127 : decode cX3_init 127 = .ok (.aload_n 0, 1) := by decide +kernel
theorem dX3_init_128 : decode cX3_init 128 = .ok (.iconst 0, 1) := by decide +kernel
theorem dX3_init_129 : decode cX3_init 129 = .ok (.iconst 0, 1) := by decide +kernel
theorem dX3_init_130 : decode cX3_init 130 = .ok (.sipush 200, 3) := by decide +kernel
theorem dX3_init_133 : decode cX3_init 133 = .ok (.iconst (-1), 1) := by decide +kernel
theorem dX3_init_134 : decode cX3_init 134 = .ok (.invokevirtual 53, 3) := by decide +kernel
theorem dX3_init_137 : decode cX3_init 137 = .ok (.putfield 57, 3) := by decide +kernel
theorem dX3_init_140 : decode cX3_init 140 = .ok (.return_, 1) := by decide +kernel
theorem dX3_thrown_0 : decode cX3_thrown 0 = .ok (.aload_n 0, 1) := by decide +kernel
theorem dX3_thrown_1 : decode cX3_thrown 1 = .ok (.getfield 61, 3) := by decide +kernel
theorem dX3_thrown_4 : decode cX3_thrown 4 = .ok (.ireturn, 1) := by decide +kernel
theorem dX3_holds_0 : decode cX3_holds 0 = .ok (.aload_n 0, 1) := by decide +kernel
theorem dX3_holds_1 : decode cX3_holds 1 = .ok (.iload_n 1, 1) := by decide +kernel
theorem dX3_holds_2 : decode cX3_holds 2 = .ok (.putfield 61, 3) := by decide +kernel
theorem dX3_holds_5 : decode cX3_holds 5 = .ok (.iload_n 1, 1) := by decide +kernel
theorem dX3_holds_6 : decode cX3_holds 6 = .ok (.ifCond .ne 7, 3) := by decide +kernel
theorem dX3_holds_9 : decode cX3_holds 9 = .ok (.iconst 1, 1) := by decide +kernel
theorem dX3_holds_10 : decode cX3_holds 10 = .ok (.goto 4, 3) := by decide +kernel
theorem dX3_holds_13 : decode cX3_holds 13 = .ok (.iconst 0, 1) := by decide +kernel
theorem dX3_holds_14 : decode cX3_holds 14 = .ok (.ireturn, 1) := by decide +kernel
theorem dX3_in_0 : decode cX3_in 0 = .ok (.iload_n 0, 1) := by decide +kernel
theorem dX3_in_1 : decode cX3_in 1 = .ok (.iload_n 1, 1) := by decide +kernel
theorem dX3_in_2 : decode cX3_in 2 = .ok (.if_icmp .lt 12, 3) := by decide +kernel
theorem dX3_in_5 : decode cX3_in 5 = .ok (.iload_n 0, 1) := by decide +kernel
theorem dX3_in_6 : decode cX3_in 6 = .ok (.iload_n 2, 1) := by decide +kernel
theorem dX3_in_7 : decode cX3_in 7 = .ok (.if_icmp .gt 7, 3) := by decide +kernel
theorem dX3_in_10 : decode cX3_in 10 = .ok (.iconst 1, 1) := by decide +kernel
theorem dX3_in_11 : decode cX3_in 11 = .ok (.goto 4, 3) := by decide +kernel
theorem dX3_in_14 : decode cX3_in 14 = .ok (.iconst 0, 1) := by decide +kernel
theorem dX3_in_15 : decode cX3_in 15 = .ok (.ireturn, 1) := by decide +kernel
theorem dX3_isKey_0 : decode cX3_isKey 0 = .ok (.iload_n 0, 1) := by decide +kernel
theorem dX3_isKey_1 : decode cX3_isKey 1 = .ok (.iconst 0, 1) := by decide +kernel
theorem dX3_isKey_2 : decode cX3_isKey 2 = .ok (.sipush 199, 3) := by decide +kernel
theorem dX3_isKey_5 : decode cX3_isKey 5 = .ok (.invokestatic 64, 3) := by decide +kernel
theorem dX3_isKey_8 : decode cX3_isKey 8 = .ok (.ireturn, 1) := by decide +kernel
theorem dX3_made_0 : decode cX3_made 0 = .ok (.iconst 0, 1) := by decide +kernel
theorem dX3_made_1 : decode cX3_made 1 = .ok (.istore 5, 2) := by decide +kernel
theorem dX3_made_3 : decode cX3_made 3 = .ok (.aload_n 0, 1) := by decide +kernel
theorem dX3_made_4 : decode cX3_made 4 = .ok (.getfield 7, 3) := by decide +kernel
theorem dX3_made_7 : decode cX3_made 7 = .ok (.iload 5, 2) := by decide +kernel
theorem dX3_made_9 : decode cX3_made 9 = .ok (.baload, 1) := by decide +kernel
theorem dX3_made_10 : decode cX3_made 10 = .ok (.ifCond .eq 9, 3) := by decide +kernel
theorem dX3_made_13 : decode cX3_made 13 = .ok (.iinc 5 1, 3) := by decide +kernel
theorem dX3_made_16 : decode cX3_made 16 = .ok (.goto (-13), 3) := by decide +kernel
theorem dX3_made_19 : decode cX3_made 19 = .ok (.aload_n 0, 1) := by decide +kernel
theorem dX3_made_20 : decode cX3_made 20 = .ok (.getfield 7, 3) := by decide +kernel
theorem dX3_made_23 : decode cX3_made 23 = .ok (.iload 5, 2) := by decide +kernel
theorem dX3_made_25 : decode cX3_made 25 = .ok (.iconst 1, 1) := by decide +kernel
theorem dX3_made_26 : decode cX3_made 26 = .ok (.bastore, 1) := by decide +kernel
theorem dX3_made_27 : decode cX3_made 27 = .ok (.aload_n 0, 1) := by decide +kernel
theorem dX3_made_28 : decode cX3_made 28 = .ok (.getfield 13, 3) := by decide +kernel
theorem dX3_made_31 : decode cX3_made 31 = .ok (.iload 5, 2) := by decide +kernel
theorem dX3_made_33 : decode cX3_made 33 = .ok (.iload_n 1, 1) := by decide +kernel
theorem dX3_made_34 : decode cX3_made 34 = .ok (.iastore, 1) := by decide +kernel
theorem dX3_made_35 : decode cX3_made 35 = .ok (.aload_n 0, 1) := by decide +kernel
theorem dX3_made_36 : decode cX3_made 36 = .ok (.getfield 17, 3) := by decide +kernel
theorem dX3_made_39 : decode cX3_made 39 = .ok (.iload 5, 2) := by decide +kernel
theorem dX3_made_41 : decode cX3_made 41 = .ok (.iload_n 2, 1) := by decide +kernel
theorem dX3_made_42 : decode cX3_made 42 = .ok (.iastore, 1) := by decide +kernel
theorem dX3_made_43 : decode cX3_made 43 = .ok (.aload_n 0, 1) := by decide +kernel
theorem dX3_made_44 : decode cX3_made 44 = .ok (.getfield 20, 3) := by decide +kernel
theorem dX3_made_47 : decode cX3_made 47 = .ok (.iload 5, 2) := by decide +kernel
theorem dX3_made_49 : decode cX3_made 49 = .ok (.iload_n 3, 1) := by decide +kernel
theorem dX3_made_50 : decode cX3_made 50 = .ok (.iastore, 1) := by decide +kernel
theorem dX3_made_51 : decode cX3_made 51 = .ok (.aload_n 0, 1) := by decide +kernel
theorem dX3_made_52 : decode cX3_made 52 = .ok (.getfield 23, 3) := by decide +kernel
theorem dX3_made_55 : decode cX3_made 55 = .ok (.iload 5, 2) := by decide +kernel
theorem dX3_made_57 : decode cX3_made 57 = .ok (.iload 4, 2) := by decide +kernel
theorem dX3_made_59 : decode cX3_made 59 = .ok (.iastore, 1) := by decide +kernel
theorem dX3_made_60 : decode cX3_made 60 = .ok (.aload_n 0, 1) := by decide +kernel
theorem dX3_made_61 : decode cX3_made 61 = .ok (.getfield 26, 3) := by decide +kernel
theorem dX3_made_64 : decode cX3_made 64 = .ok (.iload 5, 2) := by decide +kernel
theorem dX3_made_66 : decode cX3_made 66 = .ok (.iconst 0, 1) := by decide +kernel
theorem dX3_made_67 : decode cX3_made 67 = .ok (.iastore, 1) := by decide +kernel
theorem dX3_made_68 : decode cX3_made 68 = .ok (.aload_n 0, 1) := by decide +kernel
theorem dX3_made_69 : decode cX3_made 69 = .ok (.getfield 35, 3) := by decide +kernel
theorem dX3_made_72 : decode cX3_made 72 = .ok (.iload 5, 2) := by decide +kernel
theorem dX3_made_74 : decode cX3_made 74 = .ok (.iconst (-1), 1) := by decide +kernel
theorem dX3_made_75 : decode cX3_made 75 = .ok (.iastore, 1) := by decide +kernel
theorem dX3_made_76 : decode cX3_made 76 = .ok (.iload 5, 2) := by decide +kernel
theorem dX3_made_78 : decode cX3_made 78 = .ok (.ireturn, 1) := by decide +kernel
theorem dX3_place_0 : decode cX3_place 0 = .ok (.iconst (-1), 1) := by decide +kernel
theorem dX3_place_1 : decode cX3_place 1 = .ok (.istore_n 3, 1) := by decide +kernel
theorem dX3_place_2 : decode cX3_place 2 = .ok (.iconst 0, 1) := by decide +kernel
theorem dX3_place_3 : decode cX3_place 3 = .ok (.istore 4, 2) := by decide +kernel
theorem dX3_place_5 : decode cX3_place 5 = .ok (.iload 4, 2) := by decide +kernel
theorem dX3_place_7 : decode cX3_place 7 = .ok (.aload_n 0, 1) := by decide +kernel
theorem dX3_place_8 : decode cX3_place 8 = .ok (.getfield 26, 3) := by decide +kernel
theorem dX3_place_11 : decode cX3_place 11 = .ok (.iload_n 1, 1) := by decide +kernel
theorem dX3_place_12 : decode cX3_place 12 = .ok (.iaload, 1) := by decide +kernel
theorem dX3_place_13 : decode cX3_place 13 = .ok (.if_icmp .ge 31, 3) := by decide +kernel
theorem dX3_place_16 : decode cX3_place 16 = .ok (.aload_n 0, 1) := by decide +kernel
theorem dX3_place_17 : decode cX3_place 17 = .ok (.getfield 29, 3) := by decide +kernel
theorem dX3_place_20 : decode cX3_place 20 = .ok (.iconst 5, 1) := by decide +kernel
theorem dX3_place_21 : decode cX3_place 21 = .ok (.iload_n 1, 1) := by decide +kernel
theorem dX3_place_22 : decode cX3_place 22 = .ok (.imul, 1) := by decide +kernel
theorem dX3_place_23 : decode cX3_place 23 = .ok (.iload 4, 2) := by decide +kernel
theorem dX3_place_25 : decode cX3_place 25 = .ok (.iadd, 1) := by decide +kernel
theorem dX3_place_26 : decode cX3_place 26 = .ok (.iaload, 1) := by decide +kernel
theorem dX3_place_27 : decode cX3_place 27 = .ok (.iload_n 2, 1) := by decide +kernel
theorem dX3_place_28 : decode cX3_place 28 = .ok (.if_icmp .gt 8, 3) := by decide +kernel
theorem dX3_place_31 : decode cX3_place 31 = .ok (.iload 4, 2) := by decide +kernel
theorem dX3_place_33 : decode cX3_place 33 = .ok (.goto 4, 3) := by decide +kernel
theorem dX3_place_36 : decode cX3_place 36 = .ok (.iload_n 3, 1) := by decide +kernel
theorem dX3_place_37 : decode cX3_place 37 = .ok (.istore_n 3, 1) := by decide +kernel
theorem dX3_place_38 : decode cX3_place 38 = .ok (.iinc 4 1, 3) := by decide +kernel
theorem dX3_place_41 : decode cX3_place 41 = .ok (.goto (-36), 3) := by decide +kernel
theorem dX3_place_44 : decode cX3_place 44 = .ok (.iload_n 3, 1) := by decide +kernel
theorem dX3_place_45 : decode cX3_place 45 = .ok (.ireturn, 1) := by decide +kernel
theorem dX3_down_0 : decode cX3_down 0 = .ok (.aload_n 0, 1) := by decide +kernel
theorem dX3_down_1 : decode cX3_down 1 = .ok (.getfield 57, 3) := by decide +kernel
theorem dX3_down_4 : decode cX3_down 4 = .ok (.istore_n 3, 1) := by decide +kernel
theorem dX3_down_5 : decode cX3_down 5 = .ok (.aload_n 0, 1) := by decide +kernel
theorem dX3_down_6 : decode cX3_down 6 = .ok (.iconst 0, 1) := by decide +kernel
theorem dX3_down_7 : decode cX3_down 7 = .ok (.putfield 68, 3) := by decide +kernel
theorem dX3_down_10 : decode cX3_down 10 = .ok (.aload_n 0, 1) := by decide +kernel
theorem dX3_down_11 : decode cX3_down 11 = .ok (.getfield 13, 3) := by decide +kernel
theorem dX3_down_14 : decode cX3_down 14 = .ok (.iload_n 3, 1) := by decide +kernel
theorem dX3_down_15 : decode cX3_down 15 = .ok (.iaload, 1) := by decide +kernel
theorem dX3_down_16 : decode cX3_down 16 = .ok (.iload_n 2, 1) := by decide +kernel
theorem dX3_down_17 : decode cX3_down 17 = .ok (.if_icmp .gt 13, 3) := by decide +kernel
theorem dX3_down_20 : decode cX3_down 20 = .ok (.iload_n 1, 1) := by decide +kernel
theorem dX3_down_21 : decode cX3_down 21 = .ok (.aload_n 0, 1) := by decide +kernel
theorem dX3_down_22 : decode cX3_down 22 = .ok (.getfield 20, 3) := by decide +kernel
theorem dX3_down_25 : decode cX3_down 25 = .ok (.iload_n 3, 1) := by decide +kernel
theorem dX3_down_26 : decode cX3_down 26 = .ok (.iaload, 1) := by decide +kernel
theorem dX3_down_27 : decode cX3_down 27 = .ok (.if_icmp .lt 72, 3) := by decide +kernel
theorem dX3_down_30 : decode cX3_down 30 = .ok (.iload_n 1, 1) := by decide +kernel
theorem dX3_down_31 : decode cX3_down 31 = .ok (.aload_n 0, 1) := by decide +kernel
theorem dX3_down_32 : decode cX3_down 32 = .ok (.getfield 20, 3) := by decide +kernel
theorem dX3_down_35 : decode cX3_down 35 = .ok (.iload_n 3, 1) := by decide +kernel
theorem dX3_down_36 : decode cX3_down 36 = .ok (.iaload, 1) := by decide +kernel
theorem dX3_down_37 : decode cX3_down 37 = .ok (.if_icmp .lt 7, 3) := by decide +kernel
theorem dX3_down_40 : decode cX3_down 40 = .ok (.iconst 1, 1) := by decide +kernel
theorem dX3_down_41 : decode cX3_down 41 = .ok (.goto 4, 3) := by decide +kernel
theorem dX3_down_44 : decode cX3_down 44 = .ok (.iconst 0, 1) := by decide +kernel
theorem dX3_down_45 : decode cX3_down 45 = .ok (.istore 4, 2) := by decide +kernel
theorem dX3_down_47 : decode cX3_down 47 = .ok (.aload_n 0, 1) := by decide +kernel
theorem dX3_down_48 : decode cX3_down 48 = .ok (.dup, 1) := by decide +kernel
theorem dX3_down_49 : decode cX3_down 49 = .ok (.getfield 68, 3) := by decide +kernel
theorem dX3_down_52 : decode cX3_down 52 = .ok (.iload 4, 2) := by decide +kernel
theorem dX3_down_54 : decode cX3_down 54 = .ok (.ifCond .eq 7, 3) := by decide +kernel
theorem dX3_down_57 : decode cX3_down 57 = .ok (.iconst 1, 1) := by decide +kernel
theorem dX3_down_58 : decode cX3_down 58 = .ok (.goto 4, 3) := by decide +kernel
theorem dX3_down_61 : decode cX3_down 61 = .ok (.iconst 0, 1) := by decide +kernel
theorem dX3_down_62 : decode cX3_down 62 = .ok (.iadd, 1) := by decide +kernel
theorem dX3_down_63 : decode cX3_down 63 = .ok (.putfield 68, 3) := by decide +kernel
theorem dX3_down_66 : decode cX3_down 66 = .ok (.iload 4, 2) := by decide +kernel
theorem dX3_down_68 : decode cX3_down 68 = .ok (.ifCond .eq 12, 3) := by decide +kernel
theorem dX3_down_71 : decode cX3_down 71 = .ok (.aload_n 0, 1) := by decide +kernel
theorem dX3_down_72 : decode cX3_down 72 = .ok (.getfield 23, 3) := by decide +kernel
theorem dX3_down_75 : decode cX3_down 75 = .ok (.iload_n 3, 1) := by decide +kernel
theorem dX3_down_76 : decode cX3_down 76 = .ok (.iaload, 1) := by decide +kernel
theorem dX3_down_77 : decode cX3_down 77 = .ok (.goto 18, 3) := by decide +kernel
theorem dX3_down_80 : decode cX3_down 80 = .ok (.aload_n 0, 1) := by decide +kernel
theorem dX3_down_81 : decode cX3_down 81 = .ok (.getfield 32, 3) := by decide +kernel
theorem dX3_down_84 : decode cX3_down 84 = .ok (.iconst 5, 1) := by decide +kernel
theorem dX3_down_85 : decode cX3_down 85 = .ok (.iload_n 3, 1) := by decide +kernel
theorem dX3_down_86 : decode cX3_down 86 = .ok (.imul, 1) := by decide +kernel
theorem dX3_down_87 : decode cX3_down 87 = .ok (.aload_n 0, 1) := by decide +kernel
theorem dX3_down_88 : decode cX3_down 88 = .ok (.iload_n 3, 1) := by decide +kernel
theorem dX3_down_89 : decode cX3_down 89 = .ok (.iload_n 1, 1) := by decide +kernel
theorem dX3_down_90 : decode cX3_down 90 = .ok (.invokevirtual 71, 3) := by decide +kernel
theorem dX3_down_93 : decode cX3_down 93 = .ok (.iadd, 1) := by decide +kernel
theorem dX3_down_94 : decode cX3_down 94 = .ok (.iaload, 1) := by decide +kernel
theorem dX3_down_95 : decode cX3_down 95 = .ok (.istore_n 3, 1) := by decide +kernel
theorem dX3_down_96 : decode cX3_down 96 = .ok (.goto (-86), 3) := by decide +kernel
theorem dX3_down_99 : decode cX3_down 99 = .ok (.iload_n 3, 1) := by decide +kernel
theorem dX3_down_100 : decode cX3_down 100 = .ok (.ireturn, 1) := by decide +kernel
theorem dX3_hasKey_0 : decode cX3_hasKey 0 = .ok (.iload_n 2, 1) := by decide +kernel
theorem dX3_hasKey_1 : decode cX3_hasKey 1 = .ok (.iconst (-1), 1) := by decide +kernel
theorem dX3_hasKey_2 : decode cX3_hasKey 2 = .ok (.if_icmp .eq 21, 3) := by decide +kernel
theorem dX3_hasKey_5 : decode cX3_hasKey 5 = .ok (.aload_n 0, 1) := by decide +kernel
theorem dX3_hasKey_6 : decode cX3_hasKey 6 = .ok (.getfield 29, 3) := by decide +kernel
theorem dX3_hasKey_9 : decode cX3_hasKey 9 = .ok (.iconst 5, 1) := by decide +kernel
theorem dX3_hasKey_10 : decode cX3_hasKey 10 = .ok (.iload_n 1, 1) := by decide +kernel
theorem dX3_hasKey_11 : decode cX3_hasKey 11 = .ok (.imul, 1) := by decide +kernel
theorem dX3_hasKey_12 : decode cX3_hasKey 12 = .ok (.iload_n 2, 1) := by decide +kernel
theorem dX3_hasKey_13 : decode cX3_hasKey 13 = .ok (.iadd, 1) := by decide +kernel
theorem dX3_hasKey_14 : decode cX3_hasKey 14 = .ok (.iaload, 1) := by decide +kernel
theorem dX3_hasKey_15 : decode cX3_hasKey 15 = .ok (.iload_n 3, 1) := by decide +kernel
theorem dX3_hasKey_16 : decode cX3_hasKey 16 = .ok (.if_icmp .ne 7, 3) := by decide +kernel
theorem dX3_hasKey_19 : decode cX3_hasKey 19 = .ok (.iconst 1, 1) := by decide +kernel
theorem dX3_hasKey_20 : decode cX3_hasKey 20 = .ok (.goto 4, 3) := by decide +kernel
theorem dX3_hasKey_23 : decode cX3_hasKey 23 = .ok (.iconst 0, 1) := by decide +kernel
theorem dX3_hasKey_24 : decode cX3_hasKey 24 = .ok (.ireturn, 1) := by decide +kernel
theorem dX3_sets_0 : decode cX3_sets 0 = .ok (.aload_n 0, 1) := by decide +kernel
theorem dX3_sets_1 : decode cX3_sets 1 = .ok (.getfield 29, 3) := by decide +kernel
theorem dX3_sets_4 : decode cX3_sets 4 = .ok (.iconst 5, 1) := by decide +kernel
theorem dX3_sets_5 : decode cX3_sets 5 = .ok (.iload_n 1, 1) := by decide +kernel
theorem dX3_sets_6 : decode cX3_sets 6 = .ok (.imul, 1) := by decide +kernel
theorem dX3_sets_7 : decode cX3_sets 7 = .ok (.iload_n 2, 1) := by decide +kernel
theorem dX3_sets_8 : decode cX3_sets 8 = .ok (.iadd, 1) := by decide +kernel
theorem dX3_sets_9 : decode cX3_sets 9 = .ok (.iload_n 3, 1) := by decide +kernel
theorem dX3_sets_10 : decode cX3_sets 10 = .ok (.iastore, 1) := by decide +kernel
theorem dX3_sets_11 : decode cX3_sets 11 = .ok (.aload_n 0, 1) := by decide +kernel
theorem dX3_sets_12 : decode cX3_sets 12 = .ok (.getfield 32, 3) := by decide +kernel
theorem dX3_sets_15 : decode cX3_sets 15 = .ok (.iconst 5, 1) := by decide +kernel
theorem dX3_sets_16 : decode cX3_sets 16 = .ok (.iload_n 1, 1) := by decide +kernel
theorem dX3_sets_17 : decode cX3_sets 17 = .ok (.imul, 1) := by decide +kernel
theorem dX3_sets_18 : decode cX3_sets 18 = .ok (.iload_n 2, 1) := by decide +kernel
theorem dX3_sets_19 : decode cX3_sets 19 = .ok (.iadd, 1) := by decide +kernel
theorem dX3_sets_20 : decode cX3_sets 20 = .ok (.iload 4, 2) := by decide +kernel
theorem dX3_sets_22 : decode cX3_sets 22 = .ok (.iastore, 1) := by decide +kernel
theorem dX3_sets_23 : decode cX3_sets 23 = .ok (.return_, 1) := by decide +kernel
theorem dX3_adds_0 : decode cX3_adds 0 = .ok (.aload_n 0, 1) := by decide +kernel
theorem dX3_adds_1 : decode cX3_adds 1 = .ok (.iload_n 1, 1) := by decide +kernel
theorem dX3_adds_2 : decode cX3_adds 2 = .ok (.iload_n 2, 1) := by decide +kernel
theorem dX3_adds_3 : decode cX3_adds 3 = .ok (.invokevirtual 71, 3) := by decide +kernel
theorem dX3_adds_6 : decode cX3_adds 6 = .ok (.iconst 1, 1) := by decide +kernel
theorem dX3_adds_7 : decode cX3_adds 7 = .ok (.iadd, 1) := by decide +kernel
theorem dX3_adds_8 : decode cX3_adds 8 = .ok (.istore 4, 2) := by decide +kernel
theorem dX3_adds_10 : decode cX3_adds 10 = .ok (.aload_n 0, 1) := by decide +kernel
theorem dX3_adds_11 : decode cX3_adds 11 = .ok (.getfield 26, 3) := by decide +kernel
theorem dX3_adds_14 : decode cX3_adds 14 = .ok (.iload_n 1, 1) := by decide +kernel
theorem dX3_adds_15 : decode cX3_adds 15 = .ok (.iaload, 1) := by decide +kernel
theorem dX3_adds_16 : decode cX3_adds 16 = .ok (.istore 5, 2) := by decide +kernel
theorem dX3_adds_18 : decode cX3_adds 18 = .ok (.iload 5, 2) := by decide +kernel
theorem dX3_adds_20 : decode cX3_adds 20 = .ok (.iload 4, 2) := by decide +kernel
theorem dX3_adds_22 : decode cX3_adds 22 = .ok (.if_icmp .le 42, 3) := by decide +kernel
theorem dX3_adds_25 : decode cX3_adds 25 = .ok (.aload_n 0, 1) := by decide +kernel
theorem dX3_adds_26 : decode cX3_adds 26 = .ok (.iload_n 1, 1) := by decide +kernel
theorem dX3_adds_27 : decode cX3_adds 27 = .ok (.iload 5, 2) := by decide +kernel
theorem dX3_adds_29 : decode cX3_adds 29 = .ok (.aload_n 0, 1) := by decide +kernel
theorem dX3_adds_30 : decode cX3_adds 30 = .ok (.getfield 29, 3) := by decide +kernel
theorem dX3_adds_33 : decode cX3_adds 33 = .ok (.iconst 5, 1) := by decide +kernel
theorem dX3_adds_34 : decode cX3_adds 34 = .ok (.iload_n 1, 1) := by decide +kernel
theorem dX3_adds_35 : decode cX3_adds 35 = .ok (.imul, 1) := by decide +kernel
theorem dX3_adds_36 : decode cX3_adds 36 = .ok (.iload 5, 2) := by decide +kernel
theorem dX3_adds_38 : decode cX3_adds 38 = .ok (.iadd, 1) := by decide +kernel
theorem dX3_adds_39 : decode cX3_adds 39 = .ok (.iconst 1, 1) := by decide +kernel
theorem dX3_adds_40 : decode cX3_adds 40 = .ok (.isub, 1) := by decide +kernel
theorem dX3_adds_41 : decode cX3_adds 41 = .ok (.iaload, 1) := by decide +kernel
theorem dX3_adds_42 : decode cX3_adds 42 = .ok (.aload_n 0, 1) := by decide +kernel
theorem dX3_adds_43 : decode cX3_adds 43 = .ok (.getfield 32, 3) := by decide +kernel
theorem dX3_adds_46 : decode cX3_adds 46 = .ok (.iconst 5, 1) := by decide +kernel
theorem dX3_adds_47 : decode cX3_adds 47 = .ok (.iload_n 1, 1) := by decide +kernel
theorem dX3_adds_48 : decode cX3_adds 48 = .ok (.imul, 1) := by decide +kernel
theorem dX3_adds_49 : decode cX3_adds 49 = .ok (.iload 5, 2) := by decide +kernel
theorem dX3_adds_51 : decode cX3_adds 51 = .ok (.iadd, 1) := by decide +kernel
theorem dX3_adds_52 : decode cX3_adds 52 = .ok (.iconst 1, 1) := by decide +kernel
theorem dX3_adds_53 : decode cX3_adds 53 = .ok (.isub, 1) := by decide +kernel
theorem dX3_adds_54 : decode cX3_adds 54 = .ok (.iaload, 1) := by decide +kernel
theorem dX3_adds_55 : decode cX3_adds 55 = .ok (.invokevirtual 75, 3) := by decide +kernel
theorem dX3_adds_58 : decode cX3_adds 58 = .ok (.iinc 5 (-1), 3) := by decide +kernel
theorem dX3_adds_61 : decode cX3_adds 61 = .ok (.goto (-43), 3) := by decide +kernel
theorem dX3_adds_64 : decode cX3_adds 64 = .ok (.aload_n 0, 1) := by decide +kernel
theorem dX3_adds_65 : decode cX3_adds 65 = .ok (.iload_n 1, 1) := by decide +kernel
theorem dX3_adds_66 : decode cX3_adds 66 = .ok (.iload 4, 2) := by decide +kernel
theorem dX3_adds_68 : decode cX3_adds 68 = .ok (.iload_n 2, 1) := by decide +kernel
theorem dX3_adds_69 : decode cX3_adds 69 = .ok (.iload_n 3, 1) := by decide +kernel
theorem dX3_adds_70 : decode cX3_adds 70 = .ok (.invokevirtual 75, 3) := by decide +kernel
theorem dX3_adds_73 : decode cX3_adds 73 = .ok (.aload_n 0, 1) := by decide +kernel
theorem dX3_adds_74 : decode cX3_adds 74 = .ok (.getfield 26, 3) := by decide +kernel
theorem dX3_adds_77 : decode cX3_adds 77 = .ok (.iload_n 1, 1) := by decide +kernel
theorem dX3_adds_78 : decode cX3_adds 78 = .ok (.dup2, 1) := by decide +kernel
theorem dX3_adds_79 : decode cX3_adds 79 = .ok (.iaload, 1) := by decide +kernel
theorem dX3_adds_80 : decode cX3_adds 80 = .ok (.iconst 1, 1) := by decide +kernel
theorem dX3_adds_81 : decode cX3_adds 81 = .ok (.iadd, 1) := by decide +kernel
theorem dX3_adds_82 : decode cX3_adds 82 = .ok (.iastore, 1) := by decide +kernel
theorem dX3_adds_83 : decode cX3_adds 83 = .ok (.aload_n 0, 1) := by decide +kernel
theorem dX3_adds_84 : decode cX3_adds 84 = .ok (.getfield 26, 3) := by decide +kernel
theorem dX3_adds_87 : decode cX3_adds 87 = .ok (.iload_n 1, 1) := by decide +kernel
theorem dX3_adds_88 : decode cX3_adds 88 = .ok (.iaload, 1) := by decide +kernel
theorem dX3_adds_89 : decode cX3_adds 89 = .ok (.iconst 5, 1) := by decide +kernel
theorem dX3_adds_90 : decode cX3_adds 90 = .ok (.if_icmp .ne 8, 3) := by decide +kernel
theorem dX3_adds_93 : decode cX3_adds 93 = .ok (.aload_n 0, 1) := by decide +kernel
theorem dX3_adds_94 : decode cX3_adds 94 = .ok (.iload_n 1, 1) := by decide +kernel
theorem dX3_adds_95 : decode cX3_adds 95 = .ok (.invokevirtual 79, 3) := by decide +kernel
theorem dX3_adds_98 : decode cX3_adds 98 = .ok (.return_, 1) := by decide +kernel
theorem dX3_splits_0 : decode cX3_splits 0 = .ok (.aload_n 0, 1) := by decide +kernel
theorem dX3_splits_1 : decode cX3_splits 1 = .ok (.aload_n 0, 1) := by decide +kernel
theorem dX3_splits_2 : decode cX3_splits 2 = .ok (.getfield 13, 3) := by decide +kernel
theorem dX3_splits_5 : decode cX3_splits 5 = .ok (.iload_n 1, 1) := by decide +kernel
theorem dX3_splits_6 : decode cX3_splits 6 = .ok (.iaload, 1) := by decide +kernel
theorem dX3_splits_7 : decode cX3_splits 7 = .ok (.aload_n 0, 1) := by decide +kernel
theorem dX3_splits_8 : decode cX3_splits 8 = .ok (.getfield 29, 3) := by decide +kernel
theorem dX3_splits_11 : decode cX3_splits 11 = .ok (.iconst 5, 1) := by decide +kernel
theorem dX3_splits_12 : decode cX3_splits 12 = .ok (.iload_n 1, 1) := by decide +kernel
theorem dX3_splits_13 : decode cX3_splits 13 = .ok (.imul, 1) := by decide +kernel
theorem dX3_splits_14 : decode cX3_splits 14 = .ok (.iconst 3, 1) := by decide +kernel
theorem dX3_splits_15 : decode cX3_splits 15 = .ok (.iadd, 1) := by decide +kernel
theorem dX3_splits_16 : decode cX3_splits 16 = .ok (.iaload, 1) := by decide +kernel
theorem dX3_splits_17 : decode cX3_splits 17 = .ok (.aload_n 0, 1) := by decide +kernel
theorem dX3_splits_18 : decode cX3_splits 18 = .ok (.getfield 20, 3) := by decide +kernel
theorem dX3_splits_21 : decode cX3_splits 21 = .ok (.iload_n 1, 1) := by decide +kernel
theorem dX3_splits_22 : decode cX3_splits 22 = .ok (.iaload, 1) := by decide +kernel
theorem dX3_splits_23 : decode cX3_splits 23 = .ok (.aload_n 0, 1) := by decide +kernel
theorem dX3_splits_24 : decode cX3_splits 24 = .ok (.getfield 23, 3) := by decide +kernel
theorem dX3_splits_27 : decode cX3_splits 27 = .ok (.iload_n 1, 1) := by decide +kernel
theorem dX3_splits_28 : decode cX3_splits 28 = .ok (.iaload, 1) := by decide +kernel
theorem dX3_splits_29 : decode cX3_splits 29 = .ok (.invokevirtual 53, 3) := by decide +kernel
theorem dX3_splits_32 : decode cX3_splits 32 = .ok (.istore_n 2, 1) := by decide +kernel
theorem dX3_splits_33 : decode cX3_splits 33 = .ok (.aload_n 0, 1) := by decide +kernel
theorem dX3_splits_34 : decode cX3_splits 34 = .ok (.iload_n 2, 1) := by decide +kernel
theorem dX3_splits_35 : decode cX3_splits 35 = .ok (.iconst 0, 1) := by decide +kernel
theorem dX3_splits_36 : decode cX3_splits 36 = .ok (.aload_n 0, 1) := by decide +kernel
theorem dX3_splits_37 : decode cX3_splits 37 = .ok (.getfield 29, 3) := by decide +kernel
theorem dX3_splits_40 : decode cX3_splits 40 = .ok (.iconst 5, 1) := by decide +kernel
theorem dX3_splits_41 : decode cX3_splits 41 = .ok (.iload_n 1, 1) := by decide +kernel
theorem dX3_splits_42 : decode cX3_splits 42 = .ok (.imul, 1) := by decide +kernel
theorem dX3_splits_43 : decode cX3_splits 43 = .ok (.iconst 3, 1) := by decide +kernel
theorem dX3_splits_44 : decode cX3_splits 44 = .ok (.iadd, 1) := by decide +kernel
theorem dX3_splits_45 : decode cX3_splits 45 = .ok (.iaload, 1) := by decide +kernel
theorem dX3_splits_46 : decode cX3_splits 46 = .ok (.aload_n 0, 1) := by decide +kernel
theorem dX3_splits_47 : decode cX3_splits 47 = .ok (.getfield 32, 3) := by decide +kernel
theorem dX3_splits_50 : decode cX3_splits 50 = .ok (.iconst 5, 1) := by decide +kernel
theorem dX3_splits_51 : decode cX3_splits 51 = .ok (.iload_n 1, 1) := by decide +kernel
theorem dX3_splits_52 : decode cX3_splits 52 = .ok (.imul, 1) := by decide +kernel
theorem dX3_splits_53 : decode cX3_splits 53 = .ok (.iconst 3, 1) := by decide +kernel
theorem dX3_splits_54 : decode cX3_splits 54 = .ok (.iadd, 1) := by decide +kernel
theorem dX3_splits_55 : decode cX3_splits 55 = .ok (.iaload, 1) := by decide +kernel
theorem dX3_splits_56 : decode cX3_splits 56 = .ok (.invokevirtual 75, 3) := by decide +kernel
theorem dX3_splits_59 : decode cX3_splits 59 = .ok (.aload_n 0, 1) := by decide +kernel
theorem dX3_splits_60 : decode cX3_splits 60 = .ok (.iload_n 2, 1) := by decide +kernel
theorem dX3_splits_61 : decode cX3_splits 61 = .ok (.iconst 1, 1) := by decide +kernel
theorem dX3_splits_62 : decode cX3_splits 62 = .ok (.aload_n 0, 1) := by decide +kernel
theorem dX3_splits_63 : decode cX3_splits 63 = .ok (.getfield 29, 3) := by decide +kernel
theorem dX3_splits_66 : decode cX3_splits 66 = .ok (.iconst 5, 1) := by decide +kernel
theorem dX3_splits_67 : decode cX3_splits 67 = .ok (.iload_n 1, 1) := by decide +kernel
theorem dX3_splits_68 : decode cX3_splits 68 = .ok (.imul, 1) := by decide +kernel
theorem dX3_splits_69 : decode cX3_splits 69 = .ok (.iconst 4, 1) := by decide +kernel
theorem dX3_splits_70 : decode cX3_splits 70 = .ok (.iadd, 1) := by decide +kernel
theorem dX3_splits_71 : decode cX3_splits 71 = .ok (.iaload, 1) := by decide +kernel
theorem dX3_splits_72 : decode cX3_splits 72 = .ok (.aload_n 0, 1) := by decide +kernel
theorem dX3_splits_73 : decode cX3_splits 73 = .ok (.getfield 32, 3) := by decide +kernel
theorem dX3_splits_76 : decode cX3_splits 76 = .ok (.iconst 5, 1) := by decide +kernel
theorem dX3_splits_77 : decode cX3_splits 77 = .ok (.iload_n 1, 1) := by decide +kernel
theorem dX3_splits_78 : decode cX3_splits 78 = .ok (.imul, 1) := by decide +kernel
theorem dX3_splits_79 : decode cX3_splits 79 = .ok (.iconst 4, 1) := by decide +kernel
theorem dX3_splits_80 : decode cX3_splits 80 = .ok (.iadd, 1) := by decide +kernel
theorem dX3_splits_81 : decode cX3_splits 81 = .ok (.iaload, 1) := by decide +kernel
theorem dX3_splits_82 : decode cX3_splits 82 = .ok (.invokevirtual 75, 3) := by decide +kernel
theorem dX3_splits_85 : decode cX3_splits 85 = .ok (.aload_n 0, 1) := by decide +kernel
theorem dX3_splits_86 : decode cX3_splits 86 = .ok (.getfield 26, 3) := by decide +kernel
theorem dX3_splits_89 : decode cX3_splits 89 = .ok (.iload_n 2, 1) := by decide +kernel
theorem dX3_splits_90 : decode cX3_splits 90 = .ok (.iconst 2, 1) := by decide +kernel
theorem dX3_splits_91 : decode cX3_splits 91 = .ok (.iastore, 1) := by decide +kernel
theorem dX3_splits_92 : decode cX3_splits 92 = .ok (.aload_n 0, 1) := by decide +kernel
theorem dX3_splits_93 : decode cX3_splits 93 = .ok (.getfield 26, 3) := by decide +kernel
theorem dX3_splits_96 : decode cX3_splits 96 = .ok (.iload_n 1, 1) := by decide +kernel
theorem dX3_splits_97 : decode cX3_splits 97 = .ok (.iconst 3, 1) := by decide +kernel
theorem dX3_splits_98 : decode cX3_splits 98 = .ok (.iastore, 1) := by decide +kernel
theorem dX3_splits_99 : decode cX3_splits 99 = .ok (.aload_n 0, 1) := by decide +kernel
theorem dX3_splits_100 : decode cX3_splits 100 = .ok (.getfield 20, 3) := by decide +kernel
theorem dX3_splits_103 : decode cX3_splits 103 = .ok (.iload_n 1, 1) := by decide +kernel
theorem dX3_splits_104 : decode cX3_splits 104 = .ok (.aload_n 0, 1) := by decide +kernel
theorem dX3_splits_105 : decode cX3_splits 105 = .ok (.getfield 17, 3) := by decide +kernel
theorem dX3_splits_108 : decode cX3_splits 108 = .ok (.iload_n 2, 1) := by decide +kernel
theorem dX3_splits_109 : decode cX3_splits 109 = .ok (.iaload, 1) := by decide +kernel
theorem dX3_splits_110 : decode cX3_splits 110 = .ok (.iastore, 1) := by decide +kernel
theorem dX3_splits_111 : decode cX3_splits 111 = .ok (.aload_n 0, 1) := by decide +kernel
theorem dX3_splits_112 : decode cX3_splits 112 = .ok (.getfield 23, 3) := by decide +kernel
theorem dX3_splits_115 : decode cX3_splits 115 = .ok (.iload_n 1, 1) := by decide +kernel
theorem dX3_splits_116 : decode cX3_splits 116 = .ok (.iload_n 2, 1) := by decide +kernel
theorem dX3_splits_117 : decode cX3_splits 117 = .ok (.iastore, 1) := by decide +kernel
theorem dX3_splits_118 : decode cX3_splits 118 = .ok (.aload_n 0, 1) := by decide +kernel
theorem dX3_splits_119 : decode cX3_splits 119 = .ok (.getfield 38, 3) := by decide +kernel
theorem dX3_splits_122 : decode cX3_splits 122 = .ok (.aload_n 0, 1) := by decide +kernel
theorem dX3_splits_123 : decode cX3_splits 123 = .ok (.getfield 83, 3) := by decide +kernel
theorem dX3_splits_126 : decode cX3_splits 126 = .ok (.iload_n 2, 1) := by decide +kernel
theorem dX3_splits_127 : decode cX3_splits 127 = .ok (.iastore, 1) := by decide +kernel
theorem dX3_splits_128 : decode cX3_splits 128 = .ok (.aload_n 0, 1) := by decide +kernel
theorem dX3_splits_129 : decode cX3_splits 129 = .ok (.dup, 1) := by decide +kernel
theorem dX3_splits_130 : decode cX3_splits 130 = .ok (.getfield 83, 3) := by decide +kernel
theorem dX3_splits_133 : decode cX3_splits 133 = .ok (.iconst 1, 1) := by decide +kernel
theorem dX3_splits_134 : decode cX3_splits 134 = .ok (.iadd, 1) := by decide +kernel
theorem dX3_splits_135 : decode cX3_splits 135 = .ok (.putfield 83, 3) := by decide +kernel
theorem dX3_splits_138 : decode cX3_splits 138 = .ok (.return_, 1) := by decide +kernel
theorem dX3_posts_0 : decode cX3_posts 0 = .ok (.aload_n 0, 1) := by decide +kernel
theorem dX3_posts_1 : decode cX3_posts 1 = .ok (.getfield 38, 3) := by decide +kernel
theorem dX3_posts_4 : decode cX3_posts 4 = .ok (.iconst 0, 1) := by decide +kernel
theorem dX3_posts_5 : decode cX3_posts 5 = .ok (.iaload, 1) := by decide +kernel
theorem dX3_posts_6 : decode cX3_posts 6 = .ok (.istore_n 1, 1) := by decide +kernel
theorem dX3_posts_7 : decode cX3_posts 7 = .ok (.aload_n 0, 1) := by decide +kernel
theorem dX3_posts_8 : decode cX3_posts 8 = .ok (.dup, 1) := by decide +kernel
theorem dX3_posts_9 : decode cX3_posts 9 = .ok (.getfield 83, 3) := by decide +kernel
theorem dX3_posts_12 : decode cX3_posts 12 = .ok (.iconst 1, 1) := by decide +kernel
theorem dX3_posts_13 : decode cX3_posts 13 = .ok (.isub, 1) := by decide +kernel
theorem dX3_posts_14 : decode cX3_posts 14 = .ok (.putfield 83, 3) := by decide +kernel
theorem dX3_posts_17 : decode cX3_posts 17 = .ok (.iconst 0, 1) := by decide +kernel
theorem dX3_posts_18 : decode cX3_posts 18 = .ok (.istore_n 2, 1) := by decide +kernel
theorem dX3_posts_19 : decode cX3_posts 19 = .ok (.iload_n 2, 1) := by decide +kernel
theorem dX3_posts_20 : decode cX3_posts 20 = .ok (.aload_n 0, 1) := by decide +kernel
theorem dX3_posts_21 : decode cX3_posts 21 = .ok (.getfield 83, 3) := by decide +kernel
theorem dX3_posts_24 : decode cX3_posts 24 = .ok (.if_icmp .ge 23, 3) := by decide +kernel
theorem dX3_posts_27 : decode cX3_posts 27 = .ok (.aload_n 0, 1) := by decide +kernel
theorem dX3_posts_28 : decode cX3_posts 28 = .ok (.getfield 38, 3) := by decide +kernel
theorem dX3_posts_31 : decode cX3_posts 31 = .ok (.iload_n 2, 1) := by decide +kernel
theorem dX3_posts_32 : decode cX3_posts 32 = .ok (.aload_n 0, 1) := by decide +kernel
theorem dX3_posts_33 : decode cX3_posts 33 = .ok (.getfield 38, 3) := by decide +kernel
theorem dX3_posts_36 : decode cX3_posts 36 = .ok (.iload_n 2, 1) := by decide +kernel
theorem dX3_posts_37 : decode cX3_posts 37 = .ok (.iconst 1, 1) := by decide +kernel
theorem dX3_posts_38 : decode cX3_posts 38 = .ok (.iadd, 1) := by decide +kernel
theorem dX3_posts_39 : decode cX3_posts 39 = .ok (.iaload, 1) := by decide +kernel
theorem dX3_posts_40 : decode cX3_posts 40 = .ok (.iastore, 1) := by decide +kernel
theorem dX3_posts_41 : decode cX3_posts 41 = .ok (.iinc 2 1, 3) := by decide +kernel
theorem dX3_posts_44 : decode cX3_posts 44 = .ok (.goto (-25), 3) := by decide +kernel
theorem dX3_posts_47 : decode cX3_posts 47 = .ok (.aload_n 0, 1) := by decide +kernel
theorem dX3_posts_48 : decode cX3_posts 48 = .ok (.getfield 13, 3) := by decide +kernel
theorem dX3_posts_51 : decode cX3_posts 51 = .ok (.iload_n 1, 1) := by decide +kernel
theorem dX3_posts_52 : decode cX3_posts 52 = .ok (.iaload, 1) := by decide +kernel
theorem dX3_posts_53 : decode cX3_posts 53 = .ok (.aload_n 0, 1) := by decide +kernel
theorem dX3_posts_54 : decode cX3_posts 54 = .ok (.getfield 13, 3) := by decide +kernel
theorem dX3_posts_57 : decode cX3_posts 57 = .ok (.aload_n 0, 1) := by decide +kernel
theorem dX3_posts_58 : decode cX3_posts 58 = .ok (.getfield 57, 3) := by decide +kernel
theorem dX3_posts_61 : decode cX3_posts 61 = .ok (.iaload, 1) := by decide +kernel
theorem dX3_posts_62 : decode cX3_posts 62 = .ok (.if_icmp .ne 60, 3) := by decide +kernel
theorem dX3_posts_65 : decode cX3_posts 65 = .ok (.aload_n 0, 1) := by decide +kernel
theorem dX3_posts_66 : decode cX3_posts 66 = .ok (.aload_n 0, 1) := by decide +kernel
theorem dX3_posts_67 : decode cX3_posts 67 = .ok (.getfield 13, 3) := by decide +kernel
theorem dX3_posts_70 : decode cX3_posts 70 = .ok (.iload_n 1, 1) := by decide +kernel
theorem dX3_posts_71 : decode cX3_posts 71 = .ok (.iaload, 1) := by decide +kernel
theorem dX3_posts_72 : decode cX3_posts 72 = .ok (.iconst 1, 1) := by decide +kernel
theorem dX3_posts_73 : decode cX3_posts 73 = .ok (.iadd, 1) := by decide +kernel
theorem dX3_posts_74 : decode cX3_posts 74 = .ok (.iconst 0, 1) := by decide +kernel
theorem dX3_posts_75 : decode cX3_posts 75 = .ok (.sipush 200, 3) := by decide +kernel
theorem dX3_posts_78 : decode cX3_posts 78 = .ok (.iconst (-1), 1) := by decide +kernel
theorem dX3_posts_79 : decode cX3_posts 79 = .ok (.invokevirtual 53, 3) := by decide +kernel
theorem dX3_posts_82 : decode cX3_posts 82 = .ok (.istore_n 2, 1) := by decide +kernel
theorem dX3_posts_83 : decode cX3_posts 83 = .ok (.aload_n 0, 1) := by decide +kernel
theorem dX3_posts_84 : decode cX3_posts 84 = .ok (.iload_n 2, 1) := by decide +kernel
theorem dX3_posts_85 : decode cX3_posts 85 = .ok (.iconst 0, 1) := by decide +kernel
theorem dX3_posts_86 : decode cX3_posts 86 = .ok (.iconst 0, 1) := by decide +kernel
theorem dX3_posts_87 : decode cX3_posts 87 = .ok (.aload_n 0, 1) := by decide +kernel
theorem dX3_posts_88 : decode cX3_posts 88 = .ok (.getfield 57, 3) := by decide +kernel
theorem dX3_posts_91 : decode cX3_posts 91 = .ok (.invokevirtual 75, 3) := by decide +kernel
theorem dX3_posts_94 : decode cX3_posts 94 = .ok (.aload_n 0, 1) := by decide +kernel
theorem dX3_posts_95 : decode cX3_posts 95 = .ok (.iload_n 2, 1) := by decide +kernel
theorem dX3_posts_96 : decode cX3_posts 96 = .ok (.iconst 1, 1) := by decide +kernel
theorem dX3_posts_97 : decode cX3_posts 97 = .ok (.aload_n 0, 1) := by decide +kernel
theorem dX3_posts_98 : decode cX3_posts 98 = .ok (.getfield 17, 3) := by decide +kernel
theorem dX3_posts_101 : decode cX3_posts 101 = .ok (.iload_n 1, 1) := by decide +kernel
theorem dX3_posts_102 : decode cX3_posts 102 = .ok (.iaload, 1) := by decide +kernel
theorem dX3_posts_103 : decode cX3_posts 103 = .ok (.iload_n 1, 1) := by decide +kernel
theorem dX3_posts_104 : decode cX3_posts 104 = .ok (.invokevirtual 75, 3) := by decide +kernel
theorem dX3_posts_107 : decode cX3_posts 107 = .ok (.aload_n 0, 1) := by decide +kernel
theorem dX3_posts_108 : decode cX3_posts 108 = .ok (.getfield 26, 3) := by decide +kernel
theorem dX3_posts_111 : decode cX3_posts 111 = .ok (.iload_n 2, 1) := by decide +kernel
theorem dX3_posts_112 : decode cX3_posts 112 = .ok (.iconst 2, 1) := by decide +kernel
theorem dX3_posts_113 : decode cX3_posts 113 = .ok (.iastore, 1) := by decide +kernel
theorem dX3_posts_114 : decode cX3_posts 114 = .ok (.aload_n 0, 1) := by decide +kernel
theorem dX3_posts_115 : decode cX3_posts 115 = .ok (.iload_n 2, 1) := by decide +kernel
theorem dX3_posts_116 : decode cX3_posts 116 = .ok (.putfield 57, 3) := by decide +kernel
theorem dX3_posts_119 : decode cX3_posts 119 = .ok (.goto 32, 3) := by decide +kernel
theorem dX3_posts_122 : decode cX3_posts 122 = .ok (.aload_n 0, 1) := by decide +kernel
theorem dX3_posts_123 : decode cX3_posts 123 = .ok (.aload_n 0, 1) := by decide +kernel
theorem dX3_posts_124 : decode cX3_posts 124 = .ok (.aload_n 0, 1) := by decide +kernel
theorem dX3_posts_125 : decode cX3_posts 125 = .ok (.getfield 17, 3) := by decide +kernel
theorem dX3_posts_128 : decode cX3_posts 128 = .ok (.iload_n 1, 1) := by decide +kernel
theorem dX3_posts_129 : decode cX3_posts 129 = .ok (.iaload, 1) := by decide +kernel
theorem dX3_posts_130 : decode cX3_posts 130 = .ok (.aload_n 0, 1) := by decide +kernel
theorem dX3_posts_131 : decode cX3_posts 131 = .ok (.getfield 13, 3) := by decide +kernel
theorem dX3_posts_134 : decode cX3_posts 134 = .ok (.iload_n 1, 1) := by decide +kernel
theorem dX3_posts_135 : decode cX3_posts 135 = .ok (.iaload, 1) := by decide +kernel
theorem dX3_posts_136 : decode cX3_posts 136 = .ok (.iconst 1, 1) := by decide +kernel
theorem dX3_posts_137 : decode cX3_posts 137 = .ok (.iadd, 1) := by decide +kernel
theorem dX3_posts_138 : decode cX3_posts 138 = .ok (.invokevirtual 86, 3) := by decide +kernel
theorem dX3_posts_141 : decode cX3_posts 141 = .ok (.aload_n 0, 1) := by decide +kernel
theorem dX3_posts_142 : decode cX3_posts 142 = .ok (.getfield 17, 3) := by decide +kernel
theorem dX3_posts_145 : decode cX3_posts 145 = .ok (.iload_n 1, 1) := by decide +kernel
theorem dX3_posts_146 : decode cX3_posts 146 = .ok (.iaload, 1) := by decide +kernel
theorem dX3_posts_147 : decode cX3_posts 147 = .ok (.iload_n 1, 1) := by decide +kernel
theorem dX3_posts_148 : decode cX3_posts 148 = .ok (.invokevirtual 89, 3) := by decide +kernel
theorem dX3_posts_151 : decode cX3_posts 151 = .ok (.return_, 1) := by decide +kernel
theorem dX3_put_0 : decode cX3_put 0 = .ok (.aload_n 0, 1) := by decide +kernel
theorem dX3_put_1 : decode cX3_put 1 = .ok (.iload_n 1, 1) := by decide +kernel
theorem dX3_put_2 : decode cX3_put 2 = .ok (.invokestatic 93, 3) := by decide +kernel
theorem dX3_put_5 : decode cX3_put 5 = .ok (.ifCond .eq 18, 3) := by decide +kernel
theorem dX3_put_8 : decode cX3_put 8 = .ok (.iload_n 2, 1) := by decide +kernel
theorem dX3_put_9 : decode cX3_put 9 = .ok (.iconst 0, 1) := by decide +kernel
theorem dX3_put_10 : decode cX3_put 10 = .ok (.sipush 9999, 3) := by decide +kernel
theorem dX3_put_13 : decode cX3_put 13 = .ok (.invokestatic 64, 3) := by decide +kernel
theorem dX3_put_16 : decode cX3_put 16 = .ok (.ifCond .eq 7, 3) := by decide +kernel
theorem dX3_put_19 : decode cX3_put 19 = .ok (.iconst 0, 1) := by decide +kernel
theorem dX3_put_20 : decode cX3_put 20 = .ok (.goto 4, 3) := by decide +kernel
theorem dX3_put_23 : decode cX3_put 23 = .ok (.iconst 1, 1) := by decide +kernel
theorem dX3_put_24 : decode cX3_put 24 = .ok (.invokevirtual 97, 3) := by decide +kernel
theorem dX3_put_27 : decode cX3_put 27 = .ok (.ifCond .ne 5, 3) := by decide +kernel
theorem dX3_put_30 : decode cX3_put 30 = .ok (.iconst 0, 1) := by decide +kernel
theorem dX3_put_31 : decode cX3_put 31 = .ok (.ireturn, 1) := by decide +kernel
theorem dX3_put_32 : decode cX3_put 32 = .ok (.aload_n 0, 1) := by decide +kernel
theorem dX3_put_33 : decode cX3_put 33 = .ok (.iload_n 1, 1) := by decide +kernel
theorem dX3_put_34 : decode cX3_put 34 = .ok (.iconst 0, 1) := by decide +kernel
theorem dX3_put_35 : decode cX3_put 35 = .ok (.invokevirtual 86, 3) := by decide +kernel
theorem dX3_put_38 : decode cX3_put 38 = .ok (.istore_n 3, 1) := by decide +kernel
theorem dX3_put_39 : decode cX3_put 39 = .ok (.aload_n 0, 1) := by decide +kernel
theorem dX3_put_40 : decode cX3_put 40 = .ok (.iload_n 3, 1) := by decide +kernel
theorem dX3_put_41 : decode cX3_put 41 = .ok (.iload_n 1, 1) := by decide +kernel
theorem dX3_put_42 : decode cX3_put 42 = .ok (.invokevirtual 71, 3) := by decide +kernel
theorem dX3_put_45 : decode cX3_put 45 = .ok (.istore 4, 2) := by decide +kernel
theorem dX3_put_47 : decode cX3_put 47 = .ok (.aload_n 0, 1) := by decide +kernel
theorem dX3_put_48 : decode cX3_put 48 = .ok (.iload_n 3, 1) := by decide +kernel
theorem dX3_put_49 : decode cX3_put 49 = .ok (.iload 4, 2) := by decide +kernel
theorem dX3_put_51 : decode cX3_put 51 = .ok (.iload_n 1, 1) := by decide +kernel
theorem dX3_put_52 : decode cX3_put 52 = .ok (.invokevirtual 100, 3) := by decide +kernel
theorem dX3_put_55 : decode cX3_put 55 = .ok (.ifCond .ne 12, 3) := by decide +kernel
theorem dX3_put_58 : decode cX3_put 58 = .ok (.aload_n 0, 1) := by decide +kernel
theorem dX3_put_59 : decode cX3_put 59 = .ok (.iload_n 3, 1) := by decide +kernel
theorem dX3_put_60 : decode cX3_put 60 = .ok (.iload_n 1, 1) := by decide +kernel
theorem dX3_put_61 : decode cX3_put 61 = .ok (.iload_n 2, 1) := by decide +kernel
theorem dX3_put_62 : decode cX3_put 62 = .ok (.invokevirtual 89, 3) := by decide +kernel
theorem dX3_put_65 : decode cX3_put 65 = .ok (.iconst (-1), 1) := by decide +kernel
theorem dX3_put_66 : decode cX3_put 66 = .ok (.ireturn, 1) := by decide +kernel
theorem dX3_put_67 : decode cX3_put 67 = .ok (.aload_n 0, 1) := by decide +kernel
theorem dX3_put_68 : decode cX3_put 68 = .ok (.getfield 32, 3) := by decide +kernel
theorem dX3_put_71 : decode cX3_put 71 = .ok (.iconst 5, 1) := by decide +kernel
theorem dX3_put_72 : decode cX3_put 72 = .ok (.iload_n 3, 1) := by decide +kernel
theorem dX3_put_73 : decode cX3_put 73 = .ok (.imul, 1) := by decide +kernel
theorem dX3_put_74 : decode cX3_put 74 = .ok (.iload 4, 2) := by decide +kernel
theorem dX3_put_76 : decode cX3_put 76 = .ok (.iadd, 1) := by decide +kernel
theorem dX3_put_77 : decode cX3_put 77 = .ok (.iaload, 1) := by decide +kernel
theorem dX3_put_78 : decode cX3_put 78 = .ok (.istore 5, 2) := by decide +kernel
theorem dX3_put_80 : decode cX3_put 80 = .ok (.aload_n 0, 1) := by decide +kernel
theorem dX3_put_81 : decode cX3_put 81 = .ok (.getfield 32, 3) := by decide +kernel
theorem dX3_put_84 : decode cX3_put 84 = .ok (.iconst 5, 1) := by decide +kernel
theorem dX3_put_85 : decode cX3_put 85 = .ok (.iload_n 3, 1) := by decide +kernel
theorem dX3_put_86 : decode cX3_put 86 = .ok (.imul, 1) := by decide +kernel
theorem dX3_put_87 : decode cX3_put 87 = .ok (.iload 4, 2) := by decide +kernel
theorem dX3_put_89 : decode cX3_put 89 = .ok (.iadd, 1) := by decide +kernel
theorem dX3_put_90 : decode cX3_put 90 = .ok (.iload_n 2, 1) := by decide +kernel
theorem dX3_put_91 : decode cX3_put 91 = .ok (.iastore, 1) := by decide +kernel
theorem dX3_put_92 : decode cX3_put 92 = .ok (.iload 5, 2) := by decide +kernel
theorem dX3_put_94 : decode cX3_put 94 = .ok (.ireturn, 1) := by decide +kernel
theorem dX3_removes_0 : decode cX3_removes 0 = .ok (.aload_n 0, 1) := by decide +kernel
theorem dX3_removes_1 : decode cX3_removes 1 = .ok (.getfield 26, 3) := by decide +kernel
theorem dX3_removes_4 : decode cX3_removes 4 = .ok (.iload_n 1, 1) := by decide +kernel
theorem dX3_removes_5 : decode cX3_removes 5 = .ok (.dup2, 1) := by decide +kernel
theorem dX3_removes_6 : decode cX3_removes 6 = .ok (.iaload, 1) := by decide +kernel
theorem dX3_removes_7 : decode cX3_removes 7 = .ok (.iconst 1, 1) := by decide +kernel
theorem dX3_removes_8 : decode cX3_removes 8 = .ok (.isub, 1) := by decide +kernel
theorem dX3_removes_9 : decode cX3_removes 9 = .ok (.iastore, 1) := by decide +kernel
theorem dX3_removes_10 : decode cX3_removes 10 = .ok (.iload_n 2, 1) := by decide +kernel
theorem dX3_removes_11 : decode cX3_removes 11 = .ok (.istore_n 3, 1) := by decide +kernel
theorem dX3_removes_12 : decode cX3_removes 12 = .ok (.iload_n 3, 1) := by decide +kernel
theorem dX3_removes_13 : decode cX3_removes 13 = .ok (.aload_n 0, 1) := by decide +kernel
theorem dX3_removes_14 : decode cX3_removes 14 = .ok (.getfield 26, 3) := by decide +kernel
theorem dX3_removes_17 : decode cX3_removes 17 = .ok (.iload_n 1, 1) := by decide +kernel
theorem dX3_removes_18 : decode cX3_removes 18 = .ok (.iaload, 1) := by decide +kernel
theorem dX3_removes_19 : decode cX3_removes 19 = .ok (.if_icmp .ge 39, 3) := by decide +kernel
theorem dX3_removes_22 : decode cX3_removes 22 = .ok (.aload_n 0, 1) := by decide +kernel
theorem dX3_removes_23 : decode cX3_removes 23 = .ok (.iload_n 1, 1) := by decide +kernel
theorem dX3_removes_24 : decode cX3_removes 24 = .ok (.iload_n 3, 1) := by decide +kernel
theorem dX3_removes_25 : decode cX3_removes 25 = .ok (.aload_n 0, 1) := by decide +kernel
theorem dX3_removes_26 : decode cX3_removes 26 = .ok (.getfield 29, 3) := by decide +kernel
theorem dX3_removes_29 : decode cX3_removes 29 = .ok (.iconst 5, 1) := by decide +kernel
theorem dX3_removes_30 : decode cX3_removes 30 = .ok (.iload_n 1, 1) := by decide +kernel
theorem dX3_removes_31 : decode cX3_removes 31 = .ok (.imul, 1) := by decide +kernel
theorem dX3_removes_32 : decode cX3_removes 32 = .ok (.iload_n 3, 1) := by decide +kernel
theorem dX3_removes_33 : decode cX3_removes 33 = .ok (.iadd, 1) := by decide +kernel
theorem dX3_removes_34 : decode cX3_removes 34 = .ok (.iconst 1, 1) := by decide +kernel
theorem dX3_removes_35 : decode cX3_removes 35 = .ok (.iadd, 1) := by decide +kernel
theorem dX3_removes_36 : decode cX3_removes 36 = .ok (.iaload, 1) := by decide +kernel
theorem dX3_removes_37 : decode cX3_removes 37 = .ok (.aload_n 0, 1) := by decide +kernel
theorem dX3_removes_38 : decode cX3_removes 38 = .ok (.getfield 32, 3) := by decide +kernel
theorem dX3_removes_41 : decode cX3_removes 41 = .ok (.iconst 5, 1) := by decide +kernel
theorem dX3_removes_42 : decode cX3_removes 42 = .ok (.iload_n 1, 1) := by decide +kernel
theorem dX3_removes_43 : decode cX3_removes 43 = .ok (.imul, 1) := by decide +kernel
theorem dX3_removes_44 : decode cX3_removes 44 = .ok (.iload_n 3, 1) := by decide +kernel
theorem dX3_removes_45 : decode cX3_removes 45 = .ok (.iadd, 1) := by decide +kernel
theorem dX3_removes_46 : decode cX3_removes 46 = .ok (.iconst 1, 1) := by decide +kernel
theorem dX3_removes_47 : decode cX3_removes 47 = .ok (.iadd, 1) := by decide +kernel
theorem dX3_removes_48 : decode cX3_removes 48 = .ok (.iaload, 1) := by decide +kernel
theorem dX3_removes_49 : decode cX3_removes 49 = .ok (.invokevirtual 75, 3) := by decide +kernel
theorem dX3_removes_52 : decode cX3_removes 52 = .ok (.iinc 3 1, 3) := by decide +kernel
theorem dX3_removes_55 : decode cX3_removes 55 = .ok (.goto (-43), 3) := by decide +kernel
theorem dX3_removes_58 : decode cX3_removes 58 = .ok (.return_, 1) := by decide +kernel
theorem dX3_valueOf_0 : decode cX3_valueOf 0 = .ok (.aload_n 0, 1) := by decide +kernel
theorem dX3_valueOf_1 : decode cX3_valueOf 1 = .ok (.iload_n 1, 1) := by decide +kernel
theorem dX3_valueOf_2 : decode cX3_valueOf 2 = .ok (.iconst 0, 1) := by decide +kernel
theorem dX3_valueOf_3 : decode cX3_valueOf 3 = .ok (.invokevirtual 86, 3) := by decide +kernel
theorem dX3_valueOf_6 : decode cX3_valueOf 6 = .ok (.istore_n 2, 1) := by decide +kernel
theorem dX3_valueOf_7 : decode cX3_valueOf 7 = .ok (.aload_n 0, 1) := by decide +kernel
theorem dX3_valueOf_8 : decode cX3_valueOf 8 = .ok (.iload_n 2, 1) := by decide +kernel
theorem dX3_valueOf_9 : decode cX3_valueOf 9 = .ok (.iload_n 1, 1) := by decide +kernel
theorem dX3_valueOf_10 : decode cX3_valueOf 10 = .ok (.invokevirtual 71, 3) := by decide +kernel
theorem dX3_valueOf_13 : decode cX3_valueOf 13 = .ok (.istore_n 3, 1) := by decide +kernel
theorem dX3_valueOf_14 : decode cX3_valueOf 14 = .ok (.aload_n 0, 1) := by decide +kernel
theorem dX3_valueOf_15 : decode cX3_valueOf 15 = .ok (.iload_n 2, 1) := by decide +kernel
theorem dX3_valueOf_16 : decode cX3_valueOf 16 = .ok (.iload_n 3, 1) := by decide +kernel
theorem dX3_valueOf_17 : decode cX3_valueOf 17 = .ok (.iload_n 1, 1) := by decide +kernel
theorem dX3_valueOf_18 : decode cX3_valueOf 18 = .ok (.invokevirtual 100, 3) := by decide +kernel
theorem dX3_valueOf_21 : decode cX3_valueOf 21 = .ok (.ifCond .eq 16, 3) := by decide +kernel
theorem dX3_valueOf_24 : decode cX3_valueOf 24 = .ok (.aload_n 0, 1) := by decide +kernel
theorem dX3_valueOf_25 : decode cX3_valueOf 25 = .ok (.getfield 32, 3) := by decide +kernel
theorem dX3_valueOf_28 : decode cX3_valueOf 28 = .ok (.iconst 5, 1) := by decide +kernel
theorem dX3_valueOf_29 : decode cX3_valueOf 29 = .ok (.iload_n 2, 1) := by decide +kernel
theorem dX3_valueOf_30 : decode cX3_valueOf 30 = .ok (.imul, 1) := by decide +kernel
theorem dX3_valueOf_31 : decode cX3_valueOf 31 = .ok (.iload_n 3, 1) := by decide +kernel
theorem dX3_valueOf_32 : decode cX3_valueOf 32 = .ok (.iadd, 1) := by decide +kernel
theorem dX3_valueOf_33 : decode cX3_valueOf 33 = .ok (.iaload, 1) := by decide +kernel
theorem dX3_valueOf_34 : decode cX3_valueOf 34 = .ok (.goto 4, 3) := by decide +kernel
theorem dX3_valueOf_37 : decode cX3_valueOf 37 = .ok (.iconst (-1), 1) := by decide +kernel
theorem dX3_valueOf_38 : decode cX3_valueOf 38 = .ok (.ireturn, 1) := by decide +kernel
theorem dX3_take_0 : decode cX3_take 0 = .ok (.aload_n 0, 1) := by decide +kernel
theorem dX3_take_1 : decode cX3_take 1 = .ok (.iload_n 1, 1) := by decide +kernel
theorem dX3_take_2 : decode cX3_take 2 = .ok (.invokestatic 93, 3) := by decide +kernel
theorem dX3_take_5 : decode cX3_take 5 = .ok (.ifCond .eq 7, 3) := by decide +kernel
theorem dX3_take_8 : decode cX3_take 8 = .ok (.iconst 0, 1) := by decide +kernel
theorem dX3_take_9 : decode cX3_take 9 = .ok (.goto 4, 3) := by decide +kernel
theorem dX3_take_12 : decode cX3_take 12 = .ok (.iconst 1, 1) := by decide +kernel
theorem dX3_take_13 : decode cX3_take 13 = .ok (.invokevirtual 97, 3) := by decide +kernel
theorem dX3_take_16 : decode cX3_take 16 = .ok (.ifCond .ne 5, 3) := by decide +kernel
theorem dX3_take_19 : decode cX3_take 19 = .ok (.iconst 0, 1) := by decide +kernel
theorem dX3_take_20 : decode cX3_take 20 = .ok (.ireturn, 1) := by decide +kernel
theorem dX3_take_21 : decode cX3_take 21 = .ok (.aload_n 0, 1) := by decide +kernel
theorem dX3_take_22 : decode cX3_take 22 = .ok (.iload_n 1, 1) := by decide +kernel
theorem dX3_take_23 : decode cX3_take 23 = .ok (.invokevirtual 103, 3) := by decide +kernel
theorem dX3_take_26 : decode cX3_take 26 = .ok (.istore_n 2, 1) := by decide +kernel
theorem dX3_take_27 : decode cX3_take 27 = .ok (.aload_n 0, 1) := by decide +kernel
theorem dX3_take_28 : decode cX3_take 28 = .ok (.iload_n 1, 1) := by decide +kernel
theorem dX3_take_29 : decode cX3_take 29 = .ok (.iconst 0, 1) := by decide +kernel
theorem dX3_take_30 : decode cX3_take 30 = .ok (.invokevirtual 86, 3) := by decide +kernel
theorem dX3_take_33 : decode cX3_take 33 = .ok (.istore_n 3, 1) := by decide +kernel
theorem dX3_take_34 : decode cX3_take 34 = .ok (.iload_n 2, 1) := by decide +kernel
theorem dX3_take_35 : decode cX3_take 35 = .ok (.iconst (-1), 1) := by decide +kernel
theorem dX3_take_36 : decode cX3_take 36 = .ok (.if_icmp .eq 14, 3) := by decide +kernel
theorem dX3_take_39 : decode cX3_take 39 = .ok (.aload_n 0, 1) := by decide +kernel
theorem dX3_take_40 : decode cX3_take 40 = .ok (.iload_n 3, 1) := by decide +kernel
theorem dX3_take_41 : decode cX3_take 41 = .ok (.aload_n 0, 1) := by decide +kernel
theorem dX3_take_42 : decode cX3_take 42 = .ok (.iload_n 3, 1) := by decide +kernel
theorem dX3_take_43 : decode cX3_take 43 = .ok (.iload_n 1, 1) := by decide +kernel
theorem dX3_take_44 : decode cX3_take 44 = .ok (.invokevirtual 71, 3) := by decide +kernel
theorem dX3_take_47 : decode cX3_take 47 = .ok (.invokevirtual 107, 3) := by decide +kernel
theorem dX3_take_50 : decode cX3_take 50 = .ok (.iload_n 2, 1) := by decide +kernel
theorem dX3_take_51 : decode cX3_take 51 = .ok (.ireturn, 1) := by decide +kernel
theorem dX3_get_0 : decode cX3_get 0 = .ok (.aload_n 0, 1) := by decide +kernel
theorem dX3_get_1 : decode cX3_get 1 = .ok (.iload_n 1, 1) := by decide +kernel
theorem dX3_get_2 : decode cX3_get 2 = .ok (.invokestatic 93, 3) := by decide +kernel
theorem dX3_get_5 : decode cX3_get 5 = .ok (.ifCond .eq 7, 3) := by decide +kernel
theorem dX3_get_8 : decode cX3_get 8 = .ok (.iconst 0, 1) := by decide +kernel
theorem dX3_get_9 : decode cX3_get 9 = .ok (.goto 4, 3) := by decide +kernel
theorem dX3_get_12 : decode cX3_get 12 = .ok (.iconst 1, 1) := by decide +kernel
theorem dX3_get_13 : decode cX3_get 13 = .ok (.invokevirtual 97, 3) := by decide +kernel
theorem dX3_get_16 : decode cX3_get 16 = .ok (.ifCond .eq 11, 3) := by decide +kernel
theorem dX3_get_19 : decode cX3_get 19 = .ok (.aload_n 0, 1) := by decide +kernel
theorem dX3_get_20 : decode cX3_get 20 = .ok (.iload_n 1, 1) := by decide +kernel
theorem dX3_get_21 : decode cX3_get 21 = .ok (.invokevirtual 103, 3) := by decide +kernel
theorem dX3_get_24 : decode cX3_get 24 = .ok (.goto 4, 3) := by decide +kernel
theorem dX3_get_27 : decode cX3_get 27 = .ok (.iconst 0, 1) := by decide +kernel
theorem dX3_get_28 : decode cX3_get 28 = .ok (.ireturn, 1) := by decide +kernel
theorem dX3_getByLeaves_0 : decode cX3_getByLeaves 0 = .ok (.aload_n 0, 1) := by decide +kernel
theorem dX3_getByLeaves_1 : decode cX3_getByLeaves 1 = .ok (.iload_n 1, 1) := by decide +kernel
theorem dX3_getByLeaves_2 : decode cX3_getByLeaves 2 = .ok (.invokestatic 93, 3) := by decide +kernel
theorem dX3_getByLeaves_5 : decode cX3_getByLeaves 5 = .ok (.ifCond .eq 7, 3) := by decide +kernel
theorem dX3_getByLeaves_8 : decode cX3_getByLeaves 8 = .ok (.iconst 0, 1) := by decide +kernel
theorem dX3_getByLeaves_9 : decode cX3_getByLeaves 9 = .ok (.goto 4, 3) := by decide +kernel
theorem dX3_getByLeaves_12 : decode cX3_getByLeaves 12 = .ok (.iconst 1, 1) := by decide +kernel
theorem dX3_getByLeaves_13 : decode cX3_getByLeaves 13 = .ok (.invokevirtual 97, 3) := by decide +kernel
theorem dX3_getByLeaves_16 : decode cX3_getByLeaves 16 = .ok (.ifCond .eq 11, 3) := by decide +kernel
theorem dX3_getByLeaves_19 : decode cX3_getByLeaves 19 = .ok (.aload_n 0, 1) := by decide +kernel
theorem dX3_getByLeaves_20 : decode cX3_getByLeaves 20 = .ok (.iload_n 1, 1) := by decide +kernel
theorem dX3_getByLeaves_21 : decode cX3_getByLeaves 21 = .ok (.invokevirtual 103, 3) := by decide +kernel
theorem dX3_getByLeaves_24 : decode cX3_getByLeaves 24 = .ok (.goto 4, 3) := by decide +kernel
theorem dX3_getByLeaves_27 : decode cX3_getByLeaves 27 = .ok (.iconst 0, 1) := by decide +kernel
theorem dX3_getByLeaves_28 : decode cX3_getByLeaves 28 = .ok (.ireturn, 1) := by decide +kernel
theorem dX3_keys_0 : decode cX3_keys 0 = .ok (.aload_n 0, 1) := by decide +kernel
theorem dX3_keys_1 : decode cX3_keys 1 = .ok (.iconst 0, 1) := by decide +kernel
theorem dX3_keys_2 : decode cX3_keys 2 = .ok (.putfield 61, 3) := by decide +kernel
theorem dX3_keys_5 : decode cX3_keys 5 = .ok (.iconst 0, 1) := by decide +kernel
theorem dX3_keys_6 : decode cX3_keys 6 = .ok (.istore_n 1, 1) := by decide +kernel
theorem dX3_keys_7 : decode cX3_keys 7 = .ok (.iconst 0, 1) := by decide +kernel
theorem dX3_keys_8 : decode cX3_keys 8 = .ok (.istore_n 2, 1) := by decide +kernel
theorem dX3_keys_9 : decode cX3_keys 9 = .ok (.iload_n 2, 1) := by decide +kernel
theorem dX3_keys_10 : decode cX3_keys 10 = .ok (.sipush 800, 3) := by decide +kernel
theorem dX3_keys_13 : decode cX3_keys 13 = .ok (.if_icmp .ge 40, 3) := by decide +kernel
theorem dX3_keys_16 : decode cX3_keys 16 = .ok (.iload_n 1, 1) := by decide +kernel
theorem dX3_keys_17 : decode cX3_keys 17 = .ok (.aload_n 0, 1) := by decide +kernel
theorem dX3_keys_18 : decode cX3_keys 18 = .ok (.getfield 7, 3) := by decide +kernel
theorem dX3_keys_21 : decode cX3_keys 21 = .ok (.iload_n 2, 1) := by decide +kernel
theorem dX3_keys_22 : decode cX3_keys 22 = .ok (.baload, 1) := by decide +kernel
theorem dX3_keys_23 : decode cX3_keys 23 = .ok (.ifCond .eq 21, 3) := by decide +kernel
theorem dX3_keys_26 : decode cX3_keys 26 = .ok (.aload_n 0, 1) := by decide +kernel
theorem dX3_keys_27 : decode cX3_keys 27 = .ok (.getfield 13, 3) := by decide +kernel
theorem dX3_keys_30 : decode cX3_keys 30 = .ok (.iload_n 2, 1) := by decide +kernel
theorem dX3_keys_31 : decode cX3_keys 31 = .ok (.iaload, 1) := by decide +kernel
theorem dX3_keys_32 : decode cX3_keys 32 = .ok (.ifCond .ne 12, 3) := by decide +kernel
theorem dX3_keys_35 : decode cX3_keys 35 = .ok (.aload_n 0, 1) := by decide +kernel
end
section
/-! decode rows -/
theorem dX3_keys_36 : decode cX3_keys 36 = .ok (.getfield 26, 3) := by decide +kernel
theorem dX3_keys_39 : decode cX3_keys 39 = .ok (.iload_n 2, 1) := by decide +kernel
theorem dX3_keys_40 : decode cX3_keys 40 = .ok (.iaload, 1) := by decide +kernel
theorem dX3_keys_41 : decode cX3_keys 41 = .ok (.goto 4, 3) := by decide +kernel
theorem dX3_keys_44 : decode cX3_keys 44 = .ok (.iconst 0, 1) := by decide +kernel
theorem dX3_keys_45 : decode cX3_keys 45 = .ok (.iadd, 1) := by decide +kernel
theorem dX3_keys_46 : decode cX3_keys 46 = .ok (.istore_n 1, 1) := by decide +kernel
theorem dX3_keys_47 : decode cX3_keys 47 = .ok (.iinc 2 1, 3) := by decide +kernel
theorem dX3_keys_50 : decode cX3_keys 50 = .ok (.goto (-41), 3) := by decide +kernel
theorem dX3_keys_53 : decode cX3_keys 53 = .ok (.iload_n 1, 1) := by decide +kernel
theorem dX3_keys_54 : decode cX3_keys 54 = .ok (.ireturn, 1) := by decide +kernel
theorem dX3_waiting_0 : decode cX3_waiting 0 = .ok (.aload_n 0, 1) := by decide +kernel
theorem dX3_waiting_1 : decode cX3_waiting 1 = .ok (.iconst 0, 1) := by decide +kernel
theorem dX3_waiting_2 : decode cX3_waiting 2 = .ok (.putfield 61, 3) := by decide +kernel
theorem dX3_waiting_5 : decode cX3_waiting 5 = .ok (.aload_n 0, 1) := by decide +kernel
theorem dX3_waiting_6 : decode cX3_waiting 6 = .ok (.getfield 83, 3) := by decide +kernel
theorem dX3_waiting_9 : decode cX3_waiting 9 = .ok (.ireturn, 1) := by decide +kernel
theorem dX3_post_0 : decode cX3_post 0 = .ok (.aload_n 0, 1) := by decide +kernel
theorem dX3_post_1 : decode cX3_post 1 = .ok (.aload_n 0, 1) := by decide +kernel
theorem dX3_post_2 : decode cX3_post 2 = .ok (.getfield 83, 3) := by decide +kernel
theorem dX3_post_5 : decode cX3_post 5 = .ok (.ifCond .ne 7, 3) := by decide +kernel
theorem dX3_post_8 : decode cX3_post 8 = .ok (.iconst 1, 1) := by decide +kernel
theorem dX3_post_9 : decode cX3_post 9 = .ok (.goto 4, 3) := by decide +kernel
theorem dX3_post_12 : decode cX3_post 12 = .ok (.iconst 0, 1) := by decide +kernel
theorem dX3_post_13 : decode cX3_post 13 = .ok (.invokevirtual 97, 3) := by decide +kernel
theorem dX3_post_16 : decode cX3_post 16 = .ok (.ifCond .ne 5, 3) := by decide +kernel
theorem dX3_post_19 : decode cX3_post 19 = .ok (.iconst 0, 1) := by decide +kernel
theorem dX3_post_20 : decode cX3_post 20 = .ok (.ireturn, 1) := by decide +kernel
theorem dX3_post_21 : decode cX3_post 21 = .ok (.aload_n 0, 1) := by decide +kernel
theorem dX3_post_22 : decode cX3_post 22 = .ok (.invokevirtual 111, 3) := by decide +kernel
theorem dX3_post_25 : decode cX3_post 25 = .ok (.aload_n 0, 1) := by decide +kernel
theorem dX3_post_26 : decode cX3_post 26 = .ok (.getfield 83, 3) := by decide +kernel
theorem dX3_post_29 : decode cX3_post 29 = .ok (.ireturn, 1) := by decide +kernel
theorem dX3_postAll_0 : decode cX3_postAll 0 = .ok (.aload_n 0, 1) := by decide +kernel
theorem dX3_postAll_1 : decode cX3_postAll 1 = .ok (.iconst 0, 1) := by decide +kernel
theorem dX3_postAll_2 : decode cX3_postAll 2 = .ok (.putfield 61, 3) := by decide +kernel
theorem dX3_postAll_5 : decode cX3_postAll 5 = .ok (.iconst 0, 1) := by decide +kernel
theorem dX3_postAll_6 : decode cX3_postAll 6 = .ok (.istore_n 1, 1) := by decide +kernel
theorem dX3_postAll_7 : decode cX3_postAll 7 = .ok (.aload_n 0, 1) := by decide +kernel
theorem dX3_postAll_8 : decode cX3_postAll 8 = .ok (.getfield 83, 3) := by decide +kernel
theorem dX3_postAll_11 : decode cX3_postAll 11 = .ok (.ifCond .le 13, 3) := by decide +kernel
theorem dX3_postAll_14 : decode cX3_postAll 14 = .ok (.aload_n 0, 1) := by decide +kernel
theorem dX3_postAll_15 : decode cX3_postAll 15 = .ok (.invokevirtual 111, 3) := by decide +kernel
theorem dX3_postAll_18 : decode cX3_postAll 18 = .ok (.iinc 1 1, 3) := by decide +kernel
theorem dX3_postAll_21 : decode cX3_postAll 21 = .ok (.goto (-14), 3) := by decide +kernel
theorem dX3_postAll_24 : decode cX3_postAll 24 = .ok (.iload_n 1, 1) := by decide +kernel
theorem dX3_postAll_25 : decode cX3_postAll 25 = .ok (.ireturn, 1) := by decide +kernel
theorem dX3_found_0 : decode cX3_found 0 = .ok (.iconst (-1), 1) := by decide +kernel
theorem dX3_found_1 : decode cX3_found 1 = .ok (.istore_n 1, 1) := by decide +kernel
theorem dX3_found_2 : decode cX3_found 2 = .ok (.sipush 200, 3) := by decide +kernel
theorem dX3_found_5 : decode cX3_found 5 = .ok (.istore_n 2, 1) := by decide +kernel
theorem dX3_found_6 : decode cX3_found 6 = .ok (.iconst 0, 1) := by decide +kernel
theorem dX3_found_7 : decode cX3_found 7 = .ok (.istore_n 3, 1) := by decide +kernel
theorem dX3_found_8 : decode cX3_found 8 = .ok (.iload_n 3, 1) := by decide +kernel
theorem dX3_found_9 : decode cX3_found 9 = .ok (.sipush 4000, 3) := by decide +kernel
theorem dX3_found_12 : decode cX3_found 12 = .ok (.if_icmp .ge 109, 3) := by decide +kernel
theorem dX3_found_15 : decode cX3_found 15 = .ok (.iload_n 3, 1) := by decide +kernel
theorem dX3_found_16 : decode cX3_found 16 = .ok (.iconst 5, 1) := by decide +kernel
theorem dX3_found_17 : decode cX3_found 17 = .ok (.idiv, 1) := by decide +kernel
theorem dX3_found_18 : decode cX3_found 18 = .ok (.istore 4, 2) := by decide +kernel
theorem dX3_found_20 : decode cX3_found 20 = .ok (.aload_n 0, 1) := by decide +kernel
theorem dX3_found_21 : decode cX3_found 21 = .ok (.getfield 7, 3) := by decide +kernel
theorem dX3_found_24 : decode cX3_found 24 = .ok (.iload 4, 2) := by decide +kernel
theorem dX3_found_26 : decode cX3_found 26 = .ok (.baload, 1) := by decide +kernel
theorem dX3_found_27 : decode cX3_found 27 = .ok (.ifCond .eq 37, 3) := by decide +kernel
theorem dX3_found_30 : decode cX3_found 30 = .ok (.aload_n 0, 1) := by decide +kernel
theorem dX3_found_31 : decode cX3_found 31 = .ok (.getfield 13, 3) := by decide +kernel
theorem dX3_found_34 : decode cX3_found 34 = .ok (.iload 4, 2) := by decide +kernel
theorem dX3_found_36 : decode cX3_found 36 = .ok (.iaload, 1) := by decide +kernel
theorem dX3_found_37 : decode cX3_found 37 = .ok (.iconst 1, 1) := by decide +kernel
theorem dX3_found_38 : decode cX3_found 38 = .ok (.if_icmp .ne 26, 3) := by decide +kernel
theorem dX3_found_41 : decode cX3_found 41 = .ok (.iload_n 3, 1) := by decide +kernel
theorem dX3_found_42 : decode cX3_found 42 = .ok (.iconst 5, 1) := by decide +kernel
theorem dX3_found_43 : decode cX3_found 43 = .ok (.irem, 1) := by decide +kernel
theorem dX3_found_44 : decode cX3_found 44 = .ok (.ifCond .le 20, 3) := by decide +kernel
theorem dX3_found_47 : decode cX3_found 47 = .ok (.iload_n 3, 1) := by decide +kernel
theorem dX3_found_48 : decode cX3_found 48 = .ok (.iconst 5, 1) := by decide +kernel
theorem dX3_found_49 : decode cX3_found 49 = .ok (.irem, 1) := by decide +kernel
theorem dX3_found_50 : decode cX3_found 50 = .ok (.aload_n 0, 1) := by decide +kernel
theorem dX3_found_51 : decode cX3_found 51 = .ok (.getfield 26, 3) := by decide +kernel
theorem dX3_found_54 : decode cX3_found 54 = .ok (.iload 4, 2) := by decide +kernel
theorem dX3_found_56 : decode cX3_found 56 = .ok (.iaload, 1) := by decide +kernel
theorem dX3_found_57 : decode cX3_found 57 = .ok (.if_icmp .ge 7, 3) := by decide +kernel
theorem dX3_found_60 : decode cX3_found 60 = .ok (.iconst 1, 1) := by decide +kernel
theorem dX3_found_61 : decode cX3_found 61 = .ok (.goto 4, 3) := by decide +kernel
theorem dX3_found_64 : decode cX3_found 64 = .ok (.iconst 0, 1) := by decide +kernel
theorem dX3_found_65 : decode cX3_found 65 = .ok (.istore 5, 2) := by decide +kernel
theorem dX3_found_67 : decode cX3_found 67 = .ok (.iload 5, 2) := by decide +kernel
theorem dX3_found_69 : decode cX3_found 69 = .ok (.ifCond .eq 46, 3) := by decide +kernel
theorem dX3_found_72 : decode cX3_found 72 = .ok (.aload_n 0, 1) := by decide +kernel
theorem dX3_found_73 : decode cX3_found 73 = .ok (.getfield 26, 3) := by decide +kernel
theorem dX3_found_76 : decode cX3_found 76 = .ok (.aload_n 0, 1) := by decide +kernel
theorem dX3_found_77 : decode cX3_found 77 = .ok (.getfield 32, 3) := by decide +kernel
theorem dX3_found_80 : decode cX3_found 80 = .ok (.iload_n 3, 1) := by decide +kernel
theorem dX3_found_81 : decode cX3_found 81 = .ok (.iaload, 1) := by decide +kernel
theorem dX3_found_82 : decode cX3_found 82 = .ok (.iaload, 1) := by decide +kernel
theorem dX3_found_83 : decode cX3_found 83 = .ok (.ifCond .ne 32, 3) := by decide +kernel
theorem dX3_found_86 : decode cX3_found 86 = .ok (.aload_n 0, 1) := by decide +kernel
theorem dX3_found_87 : decode cX3_found 87 = .ok (.getfield 17, 3) := by decide +kernel
theorem dX3_found_90 : decode cX3_found 90 = .ok (.aload_n 0, 1) := by decide +kernel
theorem dX3_found_91 : decode cX3_found 91 = .ok (.getfield 32, 3) := by decide +kernel
theorem dX3_found_94 : decode cX3_found 94 = .ok (.iload_n 3, 1) := by decide +kernel
theorem dX3_found_95 : decode cX3_found 95 = .ok (.iaload, 1) := by decide +kernel
theorem dX3_found_96 : decode cX3_found 96 = .ok (.iaload, 1) := by decide +kernel
theorem dX3_found_97 : decode cX3_found 97 = .ok (.iload_n 2, 1) := by decide +kernel
theorem dX3_found_98 : decode cX3_found 98 = .ok (.if_icmp .ge 17, 3) := by decide +kernel
theorem dX3_found_101 : decode cX3_found 101 = .ok (.iload_n 3, 1) := by decide +kernel
theorem dX3_found_102 : decode cX3_found 102 = .ok (.istore_n 1, 1) := by decide +kernel
theorem dX3_found_103 : decode cX3_found 103 = .ok (.aload_n 0, 1) := by decide +kernel
theorem dX3_found_104 : decode cX3_found 104 = .ok (.getfield 17, 3) := by decide +kernel
theorem dX3_found_107 : decode cX3_found 107 = .ok (.aload_n 0, 1) := by decide +kernel
theorem dX3_found_108 : decode cX3_found 108 = .ok (.getfield 32, 3) := by decide +kernel
theorem dX3_found_111 : decode cX3_found 111 = .ok (.iload_n 3, 1) := by decide +kernel
theorem dX3_found_112 : decode cX3_found 112 = .ok (.iaload, 1) := by decide +kernel
theorem dX3_found_113 : decode cX3_found 113 = .ok (.iaload, 1) := by decide +kernel
theorem dX3_found_114 : decode cX3_found 114 = .ok (.istore_n 2, 1) := by decide +kernel
theorem dX3_found_115 : decode cX3_found 115 = .ok (.iinc 3 1, 3) := by decide +kernel
theorem dX3_found_118 : decode cX3_found 118 = .ok (.goto (-110), 3) := by decide +kernel
theorem dX3_found_121 : decode cX3_found 121 = .ok (.iload_n 1, 1) := by decide +kernel
theorem dX3_found_122 : decode cX3_found 122 = .ok (.ireturn, 1) := by decide +kernel
theorem dX3_takeOut_0 : decode cX3_takeOut 0 = .ok (.aload_n 0, 1) := by decide +kernel
theorem dX3_takeOut_1 : decode cX3_takeOut 1 = .ok (.iconst 0, 1) := by decide +kernel
theorem dX3_takeOut_2 : decode cX3_takeOut 2 = .ok (.putfield 61, 3) := by decide +kernel
theorem dX3_takeOut_5 : decode cX3_takeOut 5 = .ok (.aload_n 0, 1) := by decide +kernel
theorem dX3_takeOut_6 : decode cX3_takeOut 6 = .ok (.invokevirtual 114, 3) := by decide +kernel
theorem dX3_takeOut_9 : decode cX3_takeOut 9 = .ok (.istore_n 1, 1) := by decide +kernel
theorem dX3_takeOut_10 : decode cX3_takeOut 10 = .ok (.iload_n 1, 1) := by decide +kernel
theorem dX3_takeOut_11 : decode cX3_takeOut 11 = .ok (.iconst (-1), 1) := by decide +kernel
theorem dX3_takeOut_12 : decode cX3_takeOut 12 = .ok (.if_icmp .ne 5, 3) := by decide +kernel
theorem dX3_takeOut_15 : decode cX3_takeOut 15 = .ok (.iconst (-1), 1) := by decide +kernel
theorem dX3_takeOut_16 : decode cX3_takeOut 16 = .ok (.ireturn, 1) := by decide +kernel
theorem dX3_takeOut_17 : decode cX3_takeOut 17 = .ok (.aload_n 0, 1) := by decide +kernel
theorem dX3_takeOut_18 : decode cX3_takeOut 18 = .ok (.getfield 32, 3) := by decide +kernel
theorem dX3_takeOut_21 : decode cX3_takeOut 21 = .ok (.iload_n 1, 1) := by decide +kernel
theorem dX3_takeOut_22 : decode cX3_takeOut 22 = .ok (.iaload, 1) := by decide +kernel
theorem dX3_takeOut_23 : decode cX3_takeOut 23 = .ok (.istore_n 2, 1) := by decide +kernel
theorem dX3_takeOut_24 : decode cX3_takeOut 24 = .ok (.aload_n 0, 1) := by decide +kernel
theorem dX3_takeOut_25 : decode cX3_takeOut 25 = .ok (.iload_n 1, 1) := by decide +kernel
theorem dX3_takeOut_26 : decode cX3_takeOut 26 = .ok (.iconst 5, 1) := by decide +kernel
theorem dX3_takeOut_27 : decode cX3_takeOut 27 = .ok (.idiv, 1) := by decide +kernel
theorem dX3_takeOut_28 : decode cX3_takeOut 28 = .ok (.iload_n 1, 1) := by decide +kernel
theorem dX3_takeOut_29 : decode cX3_takeOut 29 = .ok (.iconst 5, 1) := by decide +kernel
theorem dX3_takeOut_30 : decode cX3_takeOut 30 = .ok (.irem, 1) := by decide +kernel
theorem dX3_takeOut_31 : decode cX3_takeOut 31 = .ok (.invokevirtual 107, 3) := by decide +kernel
theorem dX3_takeOut_34 : decode cX3_takeOut 34 = .ok (.iconst 0, 1) := by decide +kernel
theorem dX3_takeOut_35 : decode cX3_takeOut 35 = .ok (.istore_n 3, 1) := by decide +kernel
theorem dX3_takeOut_36 : decode cX3_takeOut 36 = .ok (.iload_n 3, 1) := by decide +kernel
theorem dX3_takeOut_37 : decode cX3_takeOut 37 = .ok (.sipush 800, 3) := by decide +kernel
theorem dX3_takeOut_40 : decode cX3_takeOut 40 = .ok (.if_icmp .ge 71, 3) := by decide +kernel
theorem dX3_takeOut_43 : decode cX3_takeOut 43 = .ok (.aload_n 0, 1) := by decide +kernel
theorem dX3_takeOut_44 : decode cX3_takeOut 44 = .ok (.getfield 7, 3) := by decide +kernel
theorem dX3_takeOut_47 : decode cX3_takeOut 47 = .ok (.iload_n 3, 1) := by decide +kernel
theorem dX3_takeOut_48 : decode cX3_takeOut 48 = .ok (.baload, 1) := by decide +kernel
theorem dX3_takeOut_49 : decode cX3_takeOut 49 = .ok (.ifCond .eq 56, 3) := by decide +kernel
theorem dX3_takeOut_52 : decode cX3_takeOut 52 = .ok (.aload_n 0, 1) := by decide +kernel
theorem dX3_takeOut_53 : decode cX3_takeOut 53 = .ok (.getfield 13, 3) := by decide +kernel
theorem dX3_takeOut_56 : decode cX3_takeOut 56 = .ok (.iload_n 3, 1) := by decide +kernel
theorem dX3_takeOut_57 : decode cX3_takeOut 57 = .ok (.iaload, 1) := by decide +kernel
theorem dX3_takeOut_58 : decode cX3_takeOut 58 = .ok (.ifCond .ne 47, 3) := by decide +kernel
theorem dX3_takeOut_61 : decode cX3_takeOut 61 = .ok (.aload_n 0, 1) := by decide +kernel
theorem dX3_takeOut_62 : decode cX3_takeOut 62 = .ok (.getfield 35, 3) := by decide +kernel
theorem dX3_takeOut_65 : decode cX3_takeOut 65 = .ok (.iload_n 3, 1) := by decide +kernel
theorem dX3_takeOut_66 : decode cX3_takeOut 66 = .ok (.iaload, 1) := by decide +kernel
theorem dX3_takeOut_67 : decode cX3_takeOut 67 = .ok (.iconst (-1), 1) := by decide +kernel
theorem dX3_takeOut_68 : decode cX3_takeOut 68 = .ok (.if_icmp .ne 37, 3) := by decide +kernel
theorem dX3_takeOut_71 : decode cX3_takeOut 71 = .ok (.aload_n 0, 1) := by decide +kernel
theorem dX3_takeOut_72 : decode cX3_takeOut 72 = .ok (.getfield 23, 3) := by decide +kernel
theorem dX3_takeOut_75 : decode cX3_takeOut 75 = .ok (.iload_n 3, 1) := by decide +kernel
theorem dX3_takeOut_76 : decode cX3_takeOut 76 = .ok (.iaload, 1) := by decide +kernel
theorem dX3_takeOut_77 : decode cX3_takeOut 77 = .ok (.iload_n 2, 1) := by decide +kernel
theorem dX3_takeOut_78 : decode cX3_takeOut 78 = .ok (.if_icmp .ne 27, 3) := by decide +kernel
theorem dX3_takeOut_81 : decode cX3_takeOut 81 = .ok (.aload_n 0, 1) := by decide +kernel
theorem dX3_takeOut_82 : decode cX3_takeOut 82 = .ok (.getfield 20, 3) := by decide +kernel
theorem dX3_takeOut_85 : decode cX3_takeOut 85 = .ok (.iload_n 3, 1) := by decide +kernel
theorem dX3_takeOut_86 : decode cX3_takeOut 86 = .ok (.aload_n 0, 1) := by decide +kernel
theorem dX3_takeOut_87 : decode cX3_takeOut 87 = .ok (.getfield 20, 3) := by decide +kernel
theorem dX3_takeOut_90 : decode cX3_takeOut 90 = .ok (.iload_n 2, 1) := by decide +kernel
theorem dX3_takeOut_91 : decode cX3_takeOut 91 = .ok (.iaload, 1) := by decide +kernel
theorem dX3_takeOut_92 : decode cX3_takeOut 92 = .ok (.iastore, 1) := by decide +kernel
theorem dX3_takeOut_93 : decode cX3_takeOut 93 = .ok (.aload_n 0, 1) := by decide +kernel
theorem dX3_takeOut_94 : decode cX3_takeOut 94 = .ok (.getfield 23, 3) := by decide +kernel
theorem dX3_takeOut_97 : decode cX3_takeOut 97 = .ok (.iload_n 3, 1) := by decide +kernel
theorem dX3_takeOut_98 : decode cX3_takeOut 98 = .ok (.aload_n 0, 1) := by decide +kernel
theorem dX3_takeOut_99 : decode cX3_takeOut 99 = .ok (.getfield 23, 3) := by decide +kernel
theorem dX3_takeOut_102 : decode cX3_takeOut 102 = .ok (.iload_n 2, 1) := by decide +kernel
theorem dX3_takeOut_103 : decode cX3_takeOut 103 = .ok (.iaload, 1) := by decide +kernel
theorem dX3_takeOut_104 : decode cX3_takeOut 104 = .ok (.iastore, 1) := by decide +kernel
theorem dX3_takeOut_105 : decode cX3_takeOut 105 = .ok (.iinc 3 1, 3) := by decide +kernel
theorem dX3_takeOut_108 : decode cX3_takeOut 108 = .ok (.goto (-72), 3) := by decide +kernel
theorem dX3_takeOut_111 : decode cX3_takeOut 111 = .ok (.aload_n 0, 1) := by decide +kernel
theorem dX3_takeOut_112 : decode cX3_takeOut 112 = .ok (.getfield 35, 3) := by decide +kernel
theorem dX3_takeOut_115 : decode cX3_takeOut 115 = .ok (.iload_n 2, 1) := by decide +kernel
theorem dX3_takeOut_116 : decode cX3_takeOut 116 = .ok (.aload_n 0, 1) := by decide +kernel
theorem dX3_takeOut_117 : decode cX3_takeOut 117 = .ok (.getfield 118, 3) := by decide +kernel
theorem dX3_takeOut_120 : decode cX3_takeOut 120 = .ok (.iastore, 1) := by decide +kernel
theorem dX3_takeOut_121 : decode cX3_takeOut 121 = .ok (.aload_n 0, 1) := by decide +kernel
theorem dX3_takeOut_122 : decode cX3_takeOut 122 = .ok (.dup, 1) := by decide +kernel
theorem dX3_takeOut_123 : decode cX3_takeOut 123 = .ok (.getfield 118, 3) := by decide +kernel
theorem dX3_takeOut_126 : decode cX3_takeOut 126 = .ok (.iconst 1, 1) := by decide +kernel
theorem dX3_takeOut_127 : decode cX3_takeOut 127 = .ok (.iadd, 1) := by decide +kernel
theorem dX3_takeOut_128 : decode cX3_takeOut 128 = .ok (.putfield 118, 3) := by decide +kernel
theorem dX3_takeOut_131 : decode cX3_takeOut 131 = .ok (.iload_n 2, 1) := by decide +kernel
theorem dX3_takeOut_132 : decode cX3_takeOut 132 = .ok (.ireturn, 1) := by decide +kernel
theorem dX3_mayRecycle_0 : decode cX3_mayRecycle 0 = .ok (.iconst 0, 1) := by decide +kernel
theorem dX3_mayRecycle_1 : decode cX3_mayRecycle 1 = .ok (.istore_n 2, 1) := by decide +kernel
theorem dX3_mayRecycle_2 : decode cX3_mayRecycle 2 = .ok (.iload_n 2, 1) := by decide +kernel
theorem dX3_mayRecycle_3 : decode cX3_mayRecycle 3 = .ok (.aload_n 0, 1) := by decide +kernel
theorem dX3_mayRecycle_4 : decode cX3_mayRecycle 4 = .ok (.getfield 121, 3) := by decide +kernel
theorem dX3_mayRecycle_7 : decode cX3_mayRecycle 7 = .ok (.if_icmp .ge 35, 3) := by decide +kernel
theorem dX3_mayRecycle_10 : decode cX3_mayRecycle 10 = .ok (.aload_n 0, 1) := by decide +kernel
theorem dX3_mayRecycle_11 : decode cX3_mayRecycle 11 = .ok (.getfield 41, 3) := by decide +kernel
theorem dX3_mayRecycle_14 : decode cX3_mayRecycle 14 = .ok (.iload_n 2, 1) := by decide +kernel
theorem dX3_mayRecycle_15 : decode cX3_mayRecycle 15 = .ok (.baload, 1) := by decide +kernel
theorem dX3_mayRecycle_16 : decode cX3_mayRecycle 16 = .ok (.ifCond .eq 20, 3) := by decide +kernel
theorem dX3_mayRecycle_19 : decode cX3_mayRecycle 19 = .ok (.aload_n 0, 1) := by decide +kernel
theorem dX3_mayRecycle_20 : decode cX3_mayRecycle 20 = .ok (.getfield 50, 3) := by decide +kernel
theorem dX3_mayRecycle_23 : decode cX3_mayRecycle 23 = .ok (.iload_n 2, 1) := by decide +kernel
theorem dX3_mayRecycle_24 : decode cX3_mayRecycle 24 = .ok (.iaload, 1) := by decide +kernel
theorem dX3_mayRecycle_25 : decode cX3_mayRecycle 25 = .ok (.aload_n 0, 1) := by decide +kernel
theorem dX3_mayRecycle_26 : decode cX3_mayRecycle 26 = .ok (.getfield 35, 3) := by decide +kernel
theorem dX3_mayRecycle_29 : decode cX3_mayRecycle 29 = .ok (.iload_n 1, 1) := by decide +kernel
theorem dX3_mayRecycle_30 : decode cX3_mayRecycle 30 = .ok (.iaload, 1) := by decide +kernel
theorem dX3_mayRecycle_31 : decode cX3_mayRecycle 31 = .ok (.if_icmp .gt 5, 3) := by decide +kernel
theorem dX3_mayRecycle_34 : decode cX3_mayRecycle 34 = .ok (.iconst 0, 1) := by decide +kernel
theorem dX3_mayRecycle_35 : decode cX3_mayRecycle 35 = .ok (.ireturn, 1) := by decide +kernel
theorem dX3_mayRecycle_36 : decode cX3_mayRecycle 36 = .ok (.iinc 2 1, 3) := by decide +kernel
theorem dX3_mayRecycle_39 : decode cX3_mayRecycle 39 = .ok (.goto (-37), 3) := by decide +kernel
theorem dX3_mayRecycle_42 : decode cX3_mayRecycle 42 = .ok (.aload_n 0, 1) := by decide +kernel
theorem dX3_mayRecycle_43 : decode cX3_mayRecycle 43 = .ok (.getfield 7, 3) := by decide +kernel
theorem dX3_mayRecycle_46 : decode cX3_mayRecycle 46 = .ok (.iload_n 1, 1) := by decide +kernel
theorem dX3_mayRecycle_47 : decode cX3_mayRecycle 47 = .ok (.baload, 1) := by decide +kernel
theorem dX3_mayRecycle_48 : decode cX3_mayRecycle 48 = .ok (.ifCond .eq 17, 3) := by decide +kernel
theorem dX3_mayRecycle_51 : decode cX3_mayRecycle 51 = .ok (.aload_n 0, 1) := by decide +kernel
theorem dX3_mayRecycle_52 : decode cX3_mayRecycle 52 = .ok (.getfield 35, 3) := by decide +kernel
theorem dX3_mayRecycle_55 : decode cX3_mayRecycle 55 = .ok (.iload_n 1, 1) := by decide +kernel
theorem dX3_mayRecycle_56 : decode cX3_mayRecycle 56 = .ok (.iaload, 1) := by decide +kernel
theorem dX3_mayRecycle_57 : decode cX3_mayRecycle 57 = .ok (.iconst (-1), 1) := by decide +kernel
theorem dX3_mayRecycle_58 : decode cX3_mayRecycle 58 = .ok (.if_icmp .eq 7, 3) := by decide +kernel
theorem dX3_mayRecycle_61 : decode cX3_mayRecycle 61 = .ok (.iconst 1, 1) := by decide +kernel
theorem dX3_mayRecycle_62 : decode cX3_mayRecycle 62 = .ok (.goto 4, 3) := by decide +kernel
theorem dX3_mayRecycle_65 : decode cX3_mayRecycle 65 = .ok (.iconst 0, 1) := by decide +kernel
theorem dX3_mayRecycle_66 : decode cX3_mayRecycle 66 = .ok (.ireturn, 1) := by decide +kernel
theorem dX3_recycle_0 : decode cX3_recycle 0 = .ok (.aload_n 0, 1) := by decide +kernel
theorem dX3_recycle_1 : decode cX3_recycle 1 = .ok (.iconst 0, 1) := by decide +kernel
theorem dX3_recycle_2 : decode cX3_recycle 2 = .ok (.putfield 61, 3) := by decide +kernel
theorem dX3_recycle_5 : decode cX3_recycle 5 = .ok (.iconst 0, 1) := by decide +kernel
theorem dX3_recycle_6 : decode cX3_recycle 6 = .ok (.istore_n 1, 1) := by decide +kernel
theorem dX3_recycle_7 : decode cX3_recycle 7 = .ok (.iconst 0, 1) := by decide +kernel
theorem dX3_recycle_8 : decode cX3_recycle 8 = .ok (.istore_n 2, 1) := by decide +kernel
theorem dX3_recycle_9 : decode cX3_recycle 9 = .ok (.iload_n 2, 1) := by decide +kernel
theorem dX3_recycle_10 : decode cX3_recycle 10 = .ok (.sipush 800, 3) := by decide +kernel
theorem dX3_recycle_13 : decode cX3_recycle 13 = .ok (.if_icmp .ge 27, 3) := by decide +kernel
theorem dX3_recycle_16 : decode cX3_recycle 16 = .ok (.aload_n 0, 1) := by decide +kernel
theorem dX3_recycle_17 : decode cX3_recycle 17 = .ok (.iload_n 2, 1) := by decide +kernel
theorem dX3_recycle_18 : decode cX3_recycle 18 = .ok (.invokevirtual 124, 3) := by decide +kernel
theorem dX3_recycle_21 : decode cX3_recycle 21 = .ok (.ifCond .eq 13, 3) := by decide +kernel
theorem dX3_recycle_24 : decode cX3_recycle 24 = .ok (.aload_n 0, 1) := by decide +kernel
theorem dX3_recycle_25 : decode cX3_recycle 25 = .ok (.getfield 7, 3) := by decide +kernel
theorem dX3_recycle_28 : decode cX3_recycle 28 = .ok (.iload_n 2, 1) := by decide +kernel
theorem dX3_recycle_29 : decode cX3_recycle 29 = .ok (.iconst 0, 1) := by decide +kernel
theorem dX3_recycle_30 : decode cX3_recycle 30 = .ok (.bastore, 1) := by decide +kernel
theorem dX3_recycle_31 : decode cX3_recycle 31 = .ok (.iinc 1 1, 3) := by decide +kernel
theorem dX3_recycle_34 : decode cX3_recycle 34 = .ok (.iinc 2 1, 3) := by decide +kernel
theorem dX3_recycle_37 : decode cX3_recycle 37 = .ok (.goto (-28), 3) := by decide +kernel
theorem dX3_recycle_40 : decode cX3_recycle 40 = .ok (.iload_n 1, 1) := by decide +kernel
theorem dX3_recycle_41 : decode cX3_recycle 41 = .ok (.ireturn, 1) := by decide +kernel
theorem dX3_dead_0 : decode cX3_dead 0 = .ok (.aload_n 0, 1) := by decide +kernel
theorem dX3_dead_1 : decode cX3_dead 1 = .ok (.iconst 0, 1) := by decide +kernel
theorem dX3_dead_2 : decode cX3_dead 2 = .ok (.putfield 61, 3) := by decide +kernel
theorem dX3_dead_5 : decode cX3_dead 5 = .ok (.iconst 0, 1) := by decide +kernel
theorem dX3_dead_6 : decode cX3_dead 6 = .ok (.istore_n 1, 1) := by decide +kernel
theorem dX3_dead_7 : decode cX3_dead 7 = .ok (.iconst 0, 1) := by decide +kernel
theorem dX3_dead_8 : decode cX3_dead 8 = .ok (.istore_n 2, 1) := by decide +kernel
theorem dX3_dead_9 : decode cX3_dead 9 = .ok (.iload_n 2, 1) := by decide +kernel
theorem dX3_dead_10 : decode cX3_dead 10 = .ok (.sipush 800, 3) := by decide +kernel
theorem dX3_dead_13 : decode cX3_dead 13 = .ok (.if_icmp .ge 36, 3) := by decide +kernel
theorem dX3_dead_16 : decode cX3_dead 16 = .ok (.iload_n 1, 1) := by decide +kernel
theorem dX3_dead_17 : decode cX3_dead 17 = .ok (.aload_n 0, 1) := by decide +kernel
theorem dX3_dead_18 : decode cX3_dead 18 = .ok (.getfield 7, 3) := by decide +kernel
theorem dX3_dead_21 : decode cX3_dead 21 = .ok (.iload_n 2, 1) := by decide +kernel
theorem dX3_dead_22 : decode cX3_dead 22 = .ok (.baload, 1) := by decide +kernel
theorem dX3_dead_23 : decode cX3_dead 23 = .ok (.ifCond .eq 17, 3) := by decide +kernel
theorem dX3_dead_26 : decode cX3_dead 26 = .ok (.aload_n 0, 1) := by decide +kernel
theorem dX3_dead_27 : decode cX3_dead 27 = .ok (.getfield 35, 3) := by decide +kernel
theorem dX3_dead_30 : decode cX3_dead 30 = .ok (.iload_n 2, 1) := by decide +kernel
theorem dX3_dead_31 : decode cX3_dead 31 = .ok (.iaload, 1) := by decide +kernel
theorem dX3_dead_32 : decode cX3_dead 32 = .ok (.iconst (-1), 1) := by decide +kernel
theorem dX3_dead_33 : decode cX3_dead 33 = .ok (.if_icmp .eq 7, 3) := by decide +kernel
theorem dX3_dead_36 : decode cX3_dead 36 = .ok (.iconst 1, 1) := by decide +kernel
theorem dX3_dead_37 : decode cX3_dead 37 = .ok (.goto 4, 3) := by decide +kernel
theorem dX3_dead_40 : decode cX3_dead 40 = .ok (.iconst 0, 1) := by decide +kernel
theorem dX3_dead_41 : decode cX3_dead 41 = .ok (.iadd, 1) := by decide +kernel
theorem dX3_dead_42 : decode cX3_dead 42 = .ok (.istore_n 1, 1) := by decide +kernel
theorem dX3_dead_43 : decode cX3_dead 43 = .ok (.iinc 2 1, 3) := by decide +kernel
theorem dX3_dead_46 : decode cX3_dead 46 = .ok (.goto (-37), 3) := by decide +kernel
theorem dX3_dead_49 : decode cX3_dead 49 = .ok (.iload_n 1, 1) := by decide +kernel
theorem dX3_dead_50 : decode cX3_dead 50 = .ok (.ireturn, 1) := by decide +kernel
theorem dX3_epoch_0 : decode cX3_epoch 0 = .ok (.aload_n 0, 1) := by decide +kernel
theorem dX3_epoch_1 : decode cX3_epoch 1 = .ok (.iconst 0, 1) := by decide +kernel
theorem dX3_epoch_2 : decode cX3_epoch 2 = .ok (.putfield 61, 3) := by decide +kernel
theorem dX3_epoch_5 : decode cX3_epoch 5 = .ok (.aload_n 0, 1) := by decide +kernel
theorem dX3_epoch_6 : decode cX3_epoch 6 = .ok (.getfield 118, 3) := by decide +kernel
theorem dX3_epoch_9 : decode cX3_epoch 9 = .ok (.ireturn, 1) := by decide +kernel
theorem dX3_pages_0 : decode cX3_pages 0 = .ok (.aload_n 0, 1) := by decide +kernel
theorem dX3_pages_1 : decode cX3_pages 1 = .ok (.iconst 0, 1) := by decide +kernel
theorem dX3_pages_2 : decode cX3_pages 2 = .ok (.putfield 61, 3) := by decide +kernel
theorem dX3_pages_5 : decode cX3_pages 5 = .ok (.iconst 0, 1) := by decide +kernel
theorem dX3_pages_6 : decode cX3_pages 6 = .ok (.istore_n 1, 1) := by decide +kernel
theorem dX3_pages_7 : decode cX3_pages 7 = .ok (.iconst 0, 1) := by decide +kernel
theorem dX3_pages_8 : decode cX3_pages 8 = .ok (.istore_n 2, 1) := by decide +kernel
theorem dX3_pages_9 : decode cX3_pages 9 = .ok (.iload_n 2, 1) := by decide +kernel
theorem dX3_pages_10 : decode cX3_pages 10 = .ok (.sipush 800, 3) := by decide +kernel
theorem dX3_pages_13 : decode cX3_pages 13 = .ok (.if_icmp .ge 26, 3) := by decide +kernel
theorem dX3_pages_16 : decode cX3_pages 16 = .ok (.iload_n 1, 1) := by decide +kernel
theorem dX3_pages_17 : decode cX3_pages 17 = .ok (.aload_n 0, 1) := by decide +kernel
theorem dX3_pages_18 : decode cX3_pages 18 = .ok (.getfield 7, 3) := by decide +kernel
theorem dX3_pages_21 : decode cX3_pages 21 = .ok (.iload_n 2, 1) := by decide +kernel
theorem dX3_pages_22 : decode cX3_pages 22 = .ok (.baload, 1) := by decide +kernel
theorem dX3_pages_23 : decode cX3_pages 23 = .ok (.ifCond .eq 7, 3) := by decide +kernel
theorem dX3_pages_26 : decode cX3_pages 26 = .ok (.iconst 1, 1) := by decide +kernel
theorem dX3_pages_27 : decode cX3_pages 27 = .ok (.goto 4, 3) := by decide +kernel
theorem dX3_pages_30 : decode cX3_pages 30 = .ok (.iconst 0, 1) := by decide +kernel
theorem dX3_pages_31 : decode cX3_pages 31 = .ok (.iadd, 1) := by decide +kernel
theorem dX3_pages_32 : decode cX3_pages 32 = .ok (.istore_n 1, 1) := by decide +kernel
theorem dX3_pages_33 : decode cX3_pages 33 = .ok (.iinc 2 1, 3) := by decide +kernel
theorem dX3_pages_36 : decode cX3_pages 36 = .ok (.goto (-27), 3) := by decide +kernel
theorem dX3_pages_39 : decode cX3_pages 39 = .ok (.iload_n 1, 1) := by decide +kernel
theorem dX3_pages_40 : decode cX3_pages 40 = .ok (.ireturn, 1) := by decide +kernel
theorem dX3_root_0 : decode cX3_root 0 = .ok (.aload_n 0, 1) := by decide +kernel
theorem dX3_root_1 : decode cX3_root 1 = .ok (.iconst 0, 1) := by decide +kernel
theorem dX3_root_2 : decode cX3_root 2 = .ok (.putfield 61, 3) := by decide +kernel
theorem dX3_root_5 : decode cX3_root 5 = .ok (.aload_n 0, 1) := by decide +kernel
theorem dX3_root_6 : decode cX3_root 6 = .ok (.getfield 57, 3) := by decide +kernel
theorem dX3_root_9 : decode cX3_root 9 = .ok (.ireturn, 1) := by decide +kernel
theorem dX3_isPage_0 : decode cX3_isPage 0 = .ok (.iload_n 1, 1) := by decide +kernel
theorem dX3_isPage_1 : decode cX3_isPage 1 = .ok (.iconst 0, 1) := by decide +kernel
theorem dX3_isPage_2 : decode cX3_isPage 2 = .ok (.sipush 799, 3) := by decide +kernel
theorem dX3_isPage_5 : decode cX3_isPage 5 = .ok (.invokestatic 64, 3) := by decide +kernel
theorem dX3_isPage_8 : decode cX3_isPage 8 = .ok (.ifCond .eq 16, 3) := by decide +kernel
theorem dX3_isPage_11 : decode cX3_isPage 11 = .ok (.aload_n 0, 1) := by decide +kernel
theorem dX3_isPage_12 : decode cX3_isPage 12 = .ok (.getfield 7, 3) := by decide +kernel
theorem dX3_isPage_15 : decode cX3_isPage 15 = .ok (.iload_n 1, 1) := by decide +kernel
theorem dX3_isPage_16 : decode cX3_isPage 16 = .ok (.baload, 1) := by decide +kernel
theorem dX3_isPage_17 : decode cX3_isPage 17 = .ok (.ifCond .eq 7, 3) := by decide +kernel
theorem dX3_isPage_20 : decode cX3_isPage 20 = .ok (.iconst 1, 1) := by decide +kernel
theorem dX3_isPage_21 : decode cX3_isPage 21 = .ok (.goto 4, 3) := by decide +kernel
theorem dX3_isPage_24 : decode cX3_isPage 24 = .ok (.iconst 0, 1) := by decide +kernel
theorem dX3_isPage_25 : decode cX3_isPage 25 = .ok (.ireturn, 1) := by decide +kernel
theorem dX3_level_0 : decode cX3_level 0 = .ok (.aload_n 0, 1) := by decide +kernel
theorem dX3_level_1 : decode cX3_level 1 = .ok (.aload_n 0, 1) := by decide +kernel
theorem dX3_level_2 : decode cX3_level 2 = .ok (.iload_n 1, 1) := by decide +kernel
theorem dX3_level_3 : decode cX3_level 3 = .ok (.invokevirtual 127, 3) := by decide +kernel
theorem dX3_level_6 : decode cX3_level 6 = .ok (.ifCond .eq 7, 3) := by decide +kernel
theorem dX3_level_9 : decode cX3_level 9 = .ok (.iconst 0, 1) := by decide +kernel
theorem dX3_level_10 : decode cX3_level 10 = .ok (.goto 4, 3) := by decide +kernel
theorem dX3_level_13 : decode cX3_level 13 = .ok (.iconst 1, 1) := by decide +kernel
theorem dX3_level_14 : decode cX3_level 14 = .ok (.invokevirtual 97, 3) := by decide +kernel
theorem dX3_level_17 : decode cX3_level 17 = .ok (.ifCond .eq 12, 3) := by decide +kernel
theorem dX3_level_20 : decode cX3_level 20 = .ok (.aload_n 0, 1) := by decide +kernel
theorem dX3_level_21 : decode cX3_level 21 = .ok (.getfield 13, 3) := by decide +kernel
theorem dX3_level_24 : decode cX3_level 24 = .ok (.iload_n 1, 1) := by decide +kernel
theorem dX3_level_25 : decode cX3_level 25 = .ok (.iaload, 1) := by decide +kernel
theorem dX3_level_26 : decode cX3_level 26 = .ok (.goto 4, 3) := by decide +kernel
theorem dX3_level_29 : decode cX3_level 29 = .ok (.iconst 0, 1) := by decide +kernel
theorem dX3_level_30 : decode cX3_level 30 = .ok (.ireturn, 1) := by decide +kernel
theorem dX3_size_0 : decode cX3_size 0 = .ok (.aload_n 0, 1) := by decide +kernel
theorem dX3_size_1 : decode cX3_size 1 = .ok (.aload_n 0, 1) := by decide +kernel
theorem dX3_size_2 : decode cX3_size 2 = .ok (.iload_n 1, 1) := by decide +kernel
theorem dX3_size_3 : decode cX3_size 3 = .ok (.invokevirtual 127, 3) := by decide +kernel
theorem dX3_size_6 : decode cX3_size 6 = .ok (.ifCond .eq 7, 3) := by decide +kernel
theorem dX3_size_9 : decode cX3_size 9 = .ok (.iconst 0, 1) := by decide +kernel
theorem dX3_size_10 : decode cX3_size 10 = .ok (.goto 4, 3) := by decide +kernel
theorem dX3_size_13 : decode cX3_size 13 = .ok (.iconst 1, 1) := by decide +kernel
theorem dX3_size_14 : decode cX3_size 14 = .ok (.invokevirtual 97, 3) := by decide +kernel
theorem dX3_size_17 : decode cX3_size 17 = .ok (.ifCond .eq 12, 3) := by decide +kernel
theorem dX3_size_20 : decode cX3_size 20 = .ok (.aload_n 0, 1) := by decide +kernel
theorem dX3_size_21 : decode cX3_size 21 = .ok (.getfield 26, 3) := by decide +kernel
theorem dX3_size_24 : decode cX3_size 24 = .ok (.iload_n 1, 1) := by decide +kernel
theorem dX3_size_25 : decode cX3_size 25 = .ok (.iaload, 1) := by decide +kernel
theorem dX3_size_26 : decode cX3_size 26 = .ok (.goto 4, 3) := by decide +kernel
theorem dX3_size_29 : decode cX3_size 29 = .ok (.iconst 0, 1) := by decide +kernel
theorem dX3_size_30 : decode cX3_size 30 = .ok (.ireturn, 1) := by decide +kernel
theorem dX3_keyAt_0 : decode cX3_keyAt 0 = .ok (.aload_n 0, 1) := by decide +kernel
theorem dX3_keyAt_1 : decode cX3_keyAt 1 = .ok (.aload_n 0, 1) := by decide +kernel
theorem dX3_keyAt_2 : decode cX3_keyAt 2 = .ok (.iload_n 1, 1) := by decide +kernel
theorem dX3_keyAt_3 : decode cX3_keyAt 3 = .ok (.invokevirtual 127, 3) := by decide +kernel
theorem dX3_keyAt_6 : decode cX3_keyAt 6 = .ok (.ifCond .eq 11, 3) := by decide +kernel
theorem dX3_keyAt_9 : decode cX3_keyAt 9 = .ok (.iload_n 2, 1) := by decide +kernel
theorem dX3_keyAt_10 : decode cX3_keyAt 10 = .ok (.ifCond .lt 7, 3) := by decide +kernel
theorem dX3_keyAt_13 : decode cX3_keyAt 13 = .ok (.iconst 0, 1) := by decide +kernel
theorem dX3_keyAt_14 : decode cX3_keyAt 14 = .ok (.goto 4, 3) := by decide +kernel
theorem dX3_keyAt_17 : decode cX3_keyAt 17 = .ok (.iconst 1, 1) := by decide +kernel
theorem dX3_keyAt_18 : decode cX3_keyAt 18 = .ok (.invokevirtual 97, 3) := by decide +kernel
theorem dX3_keyAt_21 : decode cX3_keyAt 21 = .ok (.ifCond .ne 7, 3) := by decide +kernel
theorem dX3_keyAt_24 : decode cX3_keyAt 24 = .ok (.iconst 0, 1) := by decide +kernel
theorem dX3_keyAt_25 : decode cX3_keyAt 25 = .ok (.goto 27, 3) := by decide +kernel
theorem dX3_keyAt_28 : decode cX3_keyAt 28 = .ok (.iload_n 2, 1) := by decide +kernel
theorem dX3_keyAt_29 : decode cX3_keyAt 29 = .ok (.aload_n 0, 1) := by decide +kernel
theorem dX3_keyAt_30 : decode cX3_keyAt 30 = .ok (.getfield 26, 3) := by decide +kernel
theorem dX3_keyAt_33 : decode cX3_keyAt 33 = .ok (.iload_n 1, 1) := by decide +kernel
theorem dX3_keyAt_34 : decode cX3_keyAt 34 = .ok (.iaload, 1) := by decide +kernel
theorem dX3_keyAt_35 : decode cX3_keyAt 35 = .ok (.if_icmp .ge 16, 3) := by decide +kernel
theorem dX3_keyAt_38 : decode cX3_keyAt 38 = .ok (.aload_n 0, 1) := by decide +kernel
theorem dX3_keyAt_39 : decode cX3_keyAt 39 = .ok (.getfield 29, 3) := by decide +kernel
theorem dX3_keyAt_42 : decode cX3_keyAt 42 = .ok (.iconst 5, 1) := by decide +kernel
theorem dX3_keyAt_43 : decode cX3_keyAt 43 = .ok (.iload_n 1, 1) := by decide +kernel
theorem dX3_keyAt_44 : decode cX3_keyAt 44 = .ok (.imul, 1) := by decide +kernel
theorem dX3_keyAt_45 : decode cX3_keyAt 45 = .ok (.iload_n 2, 1) := by decide +kernel
theorem dX3_keyAt_46 : decode cX3_keyAt 46 = .ok (.iadd, 1) := by decide +kernel
theorem dX3_keyAt_47 : decode cX3_keyAt 47 = .ok (.iaload, 1) := by decide +kernel
theorem dX3_keyAt_48 : decode cX3_keyAt 48 = .ok (.goto 4, 3) := by decide +kernel
theorem dX3_keyAt_51 : decode cX3_keyAt 51 = .ok (.iconst (-1), 1) := by decide +kernel
theorem dX3_keyAt_52 : decode cX3_keyAt 52 = .ok (.ireturn, 1) := by decide +kernel
theorem dX3_below_0 : decode cX3_below 0 = .ok (.aload_n 0, 1) := by decide +kernel
theorem dX3_below_1 : decode cX3_below 1 = .ok (.aload_n 0, 1) := by decide +kernel
theorem dX3_below_2 : decode cX3_below 2 = .ok (.iload_n 1, 1) := by decide +kernel
theorem dX3_below_3 : decode cX3_below 3 = .ok (.invokevirtual 127, 3) := by decide +kernel
theorem dX3_below_6 : decode cX3_below 6 = .ok (.ifCond .eq 11, 3) := by decide +kernel
theorem dX3_below_9 : decode cX3_below 9 = .ok (.iload_n 2, 1) := by decide +kernel
theorem dX3_below_10 : decode cX3_below 10 = .ok (.ifCond .lt 7, 3) := by decide +kernel
theorem dX3_below_13 : decode cX3_below 13 = .ok (.iconst 0, 1) := by decide +kernel
theorem dX3_below_14 : decode cX3_below 14 = .ok (.goto 4, 3) := by decide +kernel
theorem dX3_below_17 : decode cX3_below 17 = .ok (.iconst 1, 1) := by decide +kernel
theorem dX3_below_18 : decode cX3_below 18 = .ok (.invokevirtual 97, 3) := by decide +kernel
theorem dX3_below_21 : decode cX3_below 21 = .ok (.ifCond .ne 7, 3) := by decide +kernel
theorem dX3_below_24 : decode cX3_below 24 = .ok (.iconst 0, 1) := by decide +kernel
theorem dX3_below_25 : decode cX3_below 25 = .ok (.goto 36, 3) := by decide +kernel
theorem dX3_below_28 : decode cX3_below 28 = .ok (.iload_n 2, 1) := by decide +kernel
theorem dX3_below_29 : decode cX3_below 29 = .ok (.aload_n 0, 1) := by decide +kernel
theorem dX3_below_30 : decode cX3_below 30 = .ok (.getfield 26, 3) := by decide +kernel
theorem dX3_below_33 : decode cX3_below 33 = .ok (.iload_n 1, 1) := by decide +kernel
theorem dX3_below_34 : decode cX3_below 34 = .ok (.iaload, 1) := by decide +kernel
theorem dX3_below_35 : decode cX3_below 35 = .ok (.if_icmp .ge 25, 3) := by decide +kernel
theorem dX3_below_38 : decode cX3_below 38 = .ok (.aload_n 0, 1) := by decide +kernel
theorem dX3_below_39 : decode cX3_below 39 = .ok (.getfield 13, 3) := by decide +kernel
theorem dX3_below_42 : decode cX3_below 42 = .ok (.iload_n 1, 1) := by decide +kernel
theorem dX3_below_43 : decode cX3_below 43 = .ok (.iaload, 1) := by decide +kernel
theorem dX3_below_44 : decode cX3_below 44 = .ok (.ifCond .le 16, 3) := by decide +kernel
theorem dX3_below_47 : decode cX3_below 47 = .ok (.aload_n 0, 1) := by decide +kernel
theorem dX3_below_48 : decode cX3_below 48 = .ok (.getfield 32, 3) := by decide +kernel
theorem dX3_below_51 : decode cX3_below 51 = .ok (.iconst 5, 1) := by decide +kernel
theorem dX3_below_52 : decode cX3_below 52 = .ok (.iload_n 1, 1) := by decide +kernel
theorem dX3_below_53 : decode cX3_below 53 = .ok (.imul, 1) := by decide +kernel
theorem dX3_below_54 : decode cX3_below 54 = .ok (.iload_n 2, 1) := by decide +kernel
theorem dX3_below_55 : decode cX3_below 55 = .ok (.iadd, 1) := by decide +kernel
theorem dX3_below_56 : decode cX3_below 56 = .ok (.iaload, 1) := by decide +kernel
theorem dX3_below_57 : decode cX3_below 57 = .ok (.goto 4, 3) := by decide +kernel
theorem dX3_below_60 : decode cX3_below 60 = .ok (.iconst (-1), 1) := by decide +kernel
theorem dX3_below_61 : decode cX3_below 61 = .ok (.ireturn, 1) := by decide +kernel
theorem dX3_high_0 : decode cX3_high 0 = .ok (.aload_n 0, 1) := by decide +kernel
theorem dX3_high_1 : decode cX3_high 1 = .ok (.aload_n 0, 1) := by decide +kernel
theorem dX3_high_2 : decode cX3_high 2 = .ok (.iload_n 1, 1) := by decide +kernel
theorem dX3_high_3 : decode cX3_high 3 = .ok (.invokevirtual 127, 3) := by decide +kernel
theorem dX3_high_6 : decode cX3_high 6 = .ok (.ifCond .eq 7, 3) := by decide +kernel
theorem dX3_high_9 : decode cX3_high 9 = .ok (.iconst 0, 1) := by decide +kernel
theorem dX3_high_10 : decode cX3_high 10 = .ok (.goto 4, 3) := by decide +kernel
theorem dX3_high_13 : decode cX3_high 13 = .ok (.iconst 1, 1) := by decide +kernel
theorem dX3_high_14 : decode cX3_high 14 = .ok (.invokevirtual 97, 3) := by decide +kernel
theorem dX3_high_17 : decode cX3_high 17 = .ok (.ifCond .eq 12, 3) := by decide +kernel
theorem dX3_high_20 : decode cX3_high 20 = .ok (.aload_n 0, 1) := by decide +kernel
theorem dX3_high_21 : decode cX3_high 21 = .ok (.getfield 20, 3) := by decide +kernel
theorem dX3_high_24 : decode cX3_high 24 = .ok (.iload_n 1, 1) := by decide +kernel
theorem dX3_high_25 : decode cX3_high 25 = .ok (.iaload, 1) := by decide +kernel
theorem dX3_high_26 : decode cX3_high 26 = .ok (.goto 4, 3) := by decide +kernel
theorem dX3_high_29 : decode cX3_high 29 = .ok (.iconst 0, 1) := by decide +kernel
theorem dX3_high_30 : decode cX3_high 30 = .ok (.ireturn, 1) := by decide +kernel
theorem dX3_right_0 : decode cX3_right 0 = .ok (.aload_n 0, 1) := by decide +kernel
theorem dX3_right_1 : decode cX3_right 1 = .ok (.aload_n 0, 1) := by decide +kernel
theorem dX3_right_2 : decode cX3_right 2 = .ok (.iload_n 1, 1) := by decide +kernel
theorem dX3_right_3 : decode cX3_right 3 = .ok (.invokevirtual 127, 3) := by decide +kernel
theorem dX3_right_6 : decode cX3_right 6 = .ok (.ifCond .eq 7, 3) := by decide +kernel
theorem dX3_right_9 : decode cX3_right 9 = .ok (.iconst 0, 1) := by decide +kernel
theorem dX3_right_10 : decode cX3_right 10 = .ok (.goto 4, 3) := by decide +kernel
theorem dX3_right_13 : decode cX3_right 13 = .ok (.iconst 1, 1) := by decide +kernel
theorem dX3_right_14 : decode cX3_right 14 = .ok (.invokevirtual 97, 3) := by decide +kernel
theorem dX3_right_17 : decode cX3_right 17 = .ok (.ifCond .eq 12, 3) := by decide +kernel
theorem dX3_right_20 : decode cX3_right 20 = .ok (.aload_n 0, 1) := by decide +kernel
theorem dX3_right_21 : decode cX3_right 21 = .ok (.getfield 23, 3) := by decide +kernel
theorem dX3_right_24 : decode cX3_right 24 = .ok (.iload_n 1, 1) := by decide +kernel
theorem dX3_right_25 : decode cX3_right 25 = .ok (.iaload, 1) := by decide +kernel
theorem dX3_right_26 : decode cX3_right 26 = .ok (.goto 4, 3) := by decide +kernel
theorem dX3_right_29 : decode cX3_right 29 = .ok (.iconst 0, 1) := by decide +kernel
theorem dX3_right_30 : decode cX3_right 30 = .ok (.ireturn, 1) := by decide +kernel
theorem dX3_links_0 : decode cX3_links 0 = .ok (.aload_n 0, 1) := by decide +kernel
theorem dX3_links_1 : decode cX3_links 1 = .ok (.iload_n 1, 1) := by decide +kernel
theorem dX3_links_2 : decode cX3_links 2 = .ok (.invokestatic 93, 3) := by decide +kernel
theorem dX3_links_5 : decode cX3_links 5 = .ok (.ifCond .eq 7, 3) := by decide +kernel
theorem dX3_links_8 : decode cX3_links 8 = .ok (.iconst 0, 1) := by decide +kernel
theorem dX3_links_9 : decode cX3_links 9 = .ok (.goto 4, 3) := by decide +kernel
theorem dX3_links_12 : decode cX3_links 12 = .ok (.iconst 1, 1) := by decide +kernel
theorem dX3_links_13 : decode cX3_links 13 = .ok (.invokevirtual 97, 3) := by decide +kernel
theorem dX3_links_16 : decode cX3_links 16 = .ok (.ifCond .ne 5, 3) := by decide +kernel
theorem dX3_links_19 : decode cX3_links 19 = .ok (.iconst 0, 1) := by decide +kernel
theorem dX3_links_20 : decode cX3_links 20 = .ok (.ireturn, 1) := by decide +kernel
theorem dX3_links_21 : decode cX3_links 21 = .ok (.aload_n 0, 1) := by decide +kernel
theorem dX3_links_22 : decode cX3_links 22 = .ok (.iload_n 1, 1) := by decide +kernel
theorem dX3_links_23 : decode cX3_links 23 = .ok (.iconst 0, 1) := by decide +kernel
theorem dX3_links_24 : decode cX3_links 24 = .ok (.invokevirtual 86, 3) := by decide +kernel
theorem dX3_links_27 : decode cX3_links 27 = .ok (.istore_n 2, 1) := by decide +kernel
theorem dX3_links_28 : decode cX3_links 28 = .ok (.aload_n 0, 1) := by decide +kernel
theorem dX3_links_29 : decode cX3_links 29 = .ok (.getfield 7, 3) := by decide +kernel
theorem dX3_links_32 : decode cX3_links 32 = .ok (.iload_n 2, 1) := by decide +kernel
theorem dX3_links_33 : decode cX3_links 33 = .ok (.baload, 1) := by decide +kernel
theorem dX3_links_34 : decode cX3_links 34 = .ok (.ifCond .eq 10, 3) := by decide +kernel
theorem dX3_links_37 : decode cX3_links 37 = .ok (.aload_n 0, 1) := by decide +kernel
theorem dX3_links_38 : decode cX3_links 38 = .ok (.getfield 68, 3) := by decide +kernel
theorem dX3_links_41 : decode cX3_links 41 = .ok (.goto 4, 3) := by decide +kernel
theorem dX3_links_44 : decode cX3_links 44 = .ok (.iconst 0, 1) := by decide +kernel
theorem dX3_links_45 : decode cX3_links 45 = .ok (.ireturn, 1) := by decide +kernel
theorem dX3_open_0 : decode cX3_open 0 = .ok (.aload_n 0, 1) := by decide +kernel
theorem dX3_open_1 : decode cX3_open 1 = .ok (.iload_n 1, 1) := by decide +kernel
theorem dX3_open_2 : decode cX3_open 2 = .ok (.invokestatic 93, 3) := by decide +kernel
theorem dX3_open_5 : decode cX3_open 5 = .ok (.ifCond .ne 7, 3) := by decide +kernel
theorem dX3_open_8 : decode cX3_open 8 = .ok (.iconst 1, 1) := by decide +kernel
theorem dX3_open_9 : decode cX3_open 9 = .ok (.goto 17, 3) := by decide +kernel
theorem dX3_open_12 : decode cX3_open 12 = .ok (.aload_n 0, 1) := by decide +kernel
theorem dX3_open_13 : decode cX3_open 13 = .ok (.getfield 121, 3) := by decide +kernel
theorem dX3_open_16 : decode cX3_open 16 = .ok (.bipush 20, 2) := by decide +kernel
theorem dX3_open_18 : decode cX3_open 18 = .ok (.if_icmp .ne 7, 3) := by decide +kernel
theorem dX3_open_21 : decode cX3_open 21 = .ok (.iconst 2, 1) := by decide +kernel
theorem dX3_open_22 : decode cX3_open 22 = .ok (.goto 4, 3) := by decide +kernel
theorem dX3_open_25 : decode cX3_open 25 = .ok (.iconst 0, 1) := by decide +kernel
theorem dX3_open_26 : decode cX3_open 26 = .ok (.invokevirtual 97, 3) := by decide +kernel
theorem dX3_open_29 : decode cX3_open 29 = .ok (.ifCond .ne 5, 3) := by decide +kernel
theorem dX3_open_32 : decode cX3_open 32 = .ok (.iconst 0, 1) := by decide +kernel
theorem dX3_open_33 : decode cX3_open 33 = .ok (.ireturn, 1) := by decide +kernel
theorem dX3_open_34 : decode cX3_open 34 = .ok (.aload_n 0, 1) := by decide +kernel
theorem dX3_open_35 : decode cX3_open 35 = .ok (.getfield 41, 3) := by decide +kernel
theorem dX3_open_38 : decode cX3_open 38 = .ok (.aload_n 0, 1) := by decide +kernel
theorem dX3_open_39 : decode cX3_open 39 = .ok (.getfield 121, 3) := by decide +kernel
theorem dX3_open_42 : decode cX3_open 42 = .ok (.iconst 1, 1) := by decide +kernel
theorem dX3_open_43 : decode cX3_open 43 = .ok (.bastore, 1) := by decide +kernel
theorem dX3_open_44 : decode cX3_open 44 = .ok (.aload_n 0, 1) := by decide +kernel
theorem dX3_open_45 : decode cX3_open 45 = .ok (.getfield 44, 3) := by decide +kernel
theorem dX3_open_48 : decode cX3_open 48 = .ok (.aload_n 0, 1) := by decide +kernel
theorem dX3_open_49 : decode cX3_open 49 = .ok (.getfield 121, 3) := by decide +kernel
theorem dX3_open_52 : decode cX3_open 52 = .ok (.aload_n 0, 1) := by decide +kernel
theorem dX3_open_53 : decode cX3_open 53 = .ok (.iload_n 1, 1) := by decide +kernel
theorem dX3_open_54 : decode cX3_open 54 = .ok (.iconst 0, 1) := by decide +kernel
theorem dX3_open_55 : decode cX3_open 55 = .ok (.invokevirtual 86, 3) := by decide +kernel
theorem dX3_open_58 : decode cX3_open 58 = .ok (.iastore, 1) := by decide +kernel
theorem dX3_open_59 : decode cX3_open 59 = .ok (.aload_n 0, 1) := by decide +kernel
theorem dX3_open_60 : decode cX3_open 60 = .ok (.getfield 47, 3) := by decide +kernel
theorem dX3_open_63 : decode cX3_open 63 = .ok (.aload_n 0, 1) := by decide +kernel
theorem dX3_open_64 : decode cX3_open 64 = .ok (.getfield 121, 3) := by decide +kernel
theorem dX3_open_67 : decode cX3_open 67 = .ok (.iload_n 1, 1) := by decide +kernel
theorem dX3_open_68 : decode cX3_open 68 = .ok (.iconst 1, 1) := by decide +kernel
theorem dX3_open_69 : decode cX3_open 69 = .ok (.isub, 1) := by decide +kernel
theorem dX3_open_70 : decode cX3_open 70 = .ok (.iastore, 1) := by decide +kernel
theorem dX3_open_71 : decode cX3_open 71 = .ok (.aload_n 0, 1) := by decide +kernel
theorem dX3_open_72 : decode cX3_open 72 = .ok (.getfield 50, 3) := by decide +kernel
theorem dX3_open_75 : decode cX3_open 75 = .ok (.aload_n 0, 1) := by decide +kernel
theorem dX3_open_76 : decode cX3_open 76 = .ok (.getfield 121, 3) := by decide +kernel
theorem dX3_open_79 : decode cX3_open 79 = .ok (.aload_n 0, 1) := by decide +kernel
theorem dX3_open_80 : decode cX3_open 80 = .ok (.getfield 118, 3) := by decide +kernel
theorem dX3_open_83 : decode cX3_open 83 = .ok (.iastore, 1) := by decide +kernel
theorem dX3_open_84 : decode cX3_open 84 = .ok (.aload_n 0, 1) := by decide +kernel
theorem dX3_open_85 : decode cX3_open 85 = .ok (.dup, 1) := by decide +kernel
theorem dX3_open_86 : decode cX3_open 86 = .ok (.getfield 121, 3) := by decide +kernel
theorem dX3_open_89 : decode cX3_open 89 = .ok (.iconst 1, 1) := by decide +kernel
theorem dX3_open_90 : decode cX3_open 90 = .ok (.iadd, 1) := by decide +kernel
theorem dX3_open_91 : decode cX3_open 91 = .ok (.putfield 121, 3) := by decide +kernel
theorem dX3_open_94 : decode cX3_open 94 = .ok (.aload_n 0, 1) := by decide +kernel
theorem dX3_open_95 : decode cX3_open 95 = .ok (.getfield 121, 3) := by decide +kernel
theorem dX3_open_98 : decode cX3_open 98 = .ok (.iconst 1, 1) := by decide +kernel
theorem dX3_open_99 : decode cX3_open 99 = .ok (.isub, 1) := by decide +kernel
theorem dX3_open_100 : decode cX3_open 100 = .ok (.ireturn, 1) := by decide +kernel
theorem dX3_isCursor_0 : decode cX3_isCursor 0 = .ok (.iload_n 1, 1) := by decide +kernel
theorem dX3_isCursor_1 : decode cX3_isCursor 1 = .ok (.iconst 0, 1) := by decide +kernel
theorem dX3_isCursor_2 : decode cX3_isCursor 2 = .ok (.aload_n 0, 1) := by decide +kernel
theorem dX3_isCursor_3 : decode cX3_isCursor 3 = .ok (.getfield 121, 3) := by decide +kernel
theorem dX3_isCursor_6 : decode cX3_isCursor 6 = .ok (.iconst 1, 1) := by decide +kernel
theorem dX3_isCursor_7 : decode cX3_isCursor 7 = .ok (.isub, 1) := by decide +kernel
theorem dX3_isCursor_8 : decode cX3_isCursor 8 = .ok (.invokestatic 64, 3) := by decide +kernel
theorem dX3_isCursor_11 : decode cX3_isCursor 11 = .ok (.ifCond .eq 16, 3) := by decide +kernel
theorem dX3_isCursor_14 : decode cX3_isCursor 14 = .ok (.aload_n 0, 1) := by decide +kernel
theorem dX3_isCursor_15 : decode cX3_isCursor 15 = .ok (.getfield 41, 3) := by decide +kernel
theorem dX3_isCursor_18 : decode cX3_isCursor 18 = .ok (.iload_n 1, 1) := by decide +kernel
theorem dX3_isCursor_19 : decode cX3_isCursor 19 = .ok (.baload, 1) := by decide +kernel
theorem dX3_isCursor_20 : decode cX3_isCursor 20 = .ok (.ifCond .eq 7, 3) := by decide +kernel
theorem dX3_isCursor_23 : decode cX3_isCursor 23 = .ok (.iconst 1, 1) := by decide +kernel
theorem dX3_isCursor_24 : decode cX3_isCursor 24 = .ok (.goto 4, 3) := by decide +kernel
theorem dX3_isCursor_27 : decode cX3_isCursor 27 = .ok (.iconst 0, 1) := by decide +kernel
theorem dX3_isCursor_28 : decode cX3_isCursor 28 = .ok (.ireturn, 1) := by decide +kernel
theorem dX3_next_0 : decode cX3_next 0 = .ok (.aload_n 0, 1) := by decide +kernel
theorem dX3_next_1 : decode cX3_next 1 = .ok (.aload_n 0, 1) := by decide +kernel
theorem dX3_next_2 : decode cX3_next 2 = .ok (.iload_n 1, 1) := by decide +kernel
theorem dX3_next_3 : decode cX3_next 3 = .ok (.invokevirtual 130, 3) := by decide +kernel
theorem dX3_next_6 : decode cX3_next 6 = .ok (.ifCond .eq 7, 3) := by decide +kernel
theorem dX3_next_9 : decode cX3_next 9 = .ok (.iconst 0, 1) := by decide +kernel
theorem dX3_next_10 : decode cX3_next 10 = .ok (.goto 4, 3) := by decide +kernel
theorem dX3_next_13 : decode cX3_next 13 = .ok (.iconst 1, 1) := by decide +kernel
theorem dX3_next_14 : decode cX3_next 14 = .ok (.invokevirtual 97, 3) := by decide +kernel
theorem dX3_next_17 : decode cX3_next 17 = .ok (.ifCond .ne 5, 3) := by decide +kernel
theorem dX3_next_20 : decode cX3_next 20 = .ok (.iconst 0, 1) := by decide +kernel
theorem dX3_next_21 : decode cX3_next 21 = .ok (.ireturn, 1) := by decide +kernel
theorem dX3_next_22 : decode cX3_next 22 = .ok (.aload_n 0, 1) := by decide +kernel
theorem dX3_next_23 : decode cX3_next 23 = .ok (.getfield 44, 3) := by decide +kernel
theorem dX3_next_26 : decode cX3_next 26 = .ok (.iload_n 1, 1) := by decide +kernel
theorem dX3_next_27 : decode cX3_next 27 = .ok (.iaload, 1) := by decide +kernel
theorem dX3_next_28 : decode cX3_next 28 = .ok (.istore_n 2, 1) := by decide +kernel
theorem dX3_next_29 : decode cX3_next 29 = .ok (.aload_n 0, 1) := by decide +kernel
theorem dX3_next_30 : decode cX3_next 30 = .ok (.iload_n 2, 1) := by decide +kernel
theorem dX3_next_31 : decode cX3_next 31 = .ok (.aload_n 0, 1) := by decide +kernel
theorem dX3_next_32 : decode cX3_next 32 = .ok (.getfield 47, 3) := by decide +kernel
theorem dX3_next_35 : decode cX3_next 35 = .ok (.iload_n 1, 1) := by decide +kernel
theorem dX3_next_36 : decode cX3_next 36 = .ok (.iaload, 1) := by decide +kernel
theorem dX3_next_37 : decode cX3_next 37 = .ok (.invokevirtual 71, 3) := by decide +kernel
theorem dX3_next_40 : decode cX3_next 40 = .ok (.iconst 1, 1) := by decide +kernel
theorem dX3_next_41 : decode cX3_next 41 = .ok (.iadd, 1) := by decide +kernel
theorem dX3_next_42 : decode cX3_next 42 = .ok (.istore_n 3, 1) := by decide +kernel
theorem dX3_next_43 : decode cX3_next 43 = .ok (.iload_n 3, 1) := by decide +kernel
theorem dX3_next_44 : decode cX3_next 44 = .ok (.aload_n 0, 1) := by decide +kernel
theorem dX3_next_45 : decode cX3_next 45 = .ok (.getfield 26, 3) := by decide +kernel
theorem dX3_next_48 : decode cX3_next 48 = .ok (.iload_n 2, 1) := by decide +kernel
theorem dX3_next_49 : decode cX3_next 49 = .ok (.iaload, 1) := by decide +kernel
theorem dX3_next_50 : decode cX3_next 50 = .ok (.if_icmp .lt 37, 3) := by decide +kernel
theorem dX3_next_53 : decode cX3_next 53 = .ok (.aload_n 0, 1) := by decide +kernel
theorem dX3_next_54 : decode cX3_next 54 = .ok (.getfield 23, 3) := by decide +kernel
theorem dX3_next_57 : decode cX3_next 57 = .ok (.iload_n 2, 1) := by decide +kernel
theorem dX3_next_58 : decode cX3_next 58 = .ok (.iaload, 1) := by decide +kernel
theorem dX3_next_59 : decode cX3_next 59 = .ok (.iconst (-1), 1) := by decide +kernel
theorem dX3_next_60 : decode cX3_next 60 = .ok (.if_icmp .eq 27, 3) := by decide +kernel
theorem dX3_next_63 : decode cX3_next 63 = .ok (.aload_n 0, 1) := by decide +kernel
theorem dX3_next_64 : decode cX3_next 64 = .ok (.getfield 23, 3) := by decide +kernel
theorem dX3_next_67 : decode cX3_next 67 = .ok (.iload_n 2, 1) := by decide +kernel
theorem dX3_next_68 : decode cX3_next 68 = .ok (.iaload, 1) := by decide +kernel
theorem dX3_next_69 : decode cX3_next 69 = .ok (.istore_n 2, 1) := by decide +kernel
theorem dX3_next_70 : decode cX3_next 70 = .ok (.aload_n 0, 1) := by decide +kernel
theorem dX3_next_71 : decode cX3_next 71 = .ok (.iload_n 2, 1) := by decide +kernel
theorem dX3_next_72 : decode cX3_next 72 = .ok (.aload_n 0, 1) := by decide +kernel
theorem dX3_next_73 : decode cX3_next 73 = .ok (.getfield 47, 3) := by decide +kernel
theorem dX3_next_76 : decode cX3_next 76 = .ok (.iload_n 1, 1) := by decide +kernel
theorem dX3_next_77 : decode cX3_next 77 = .ok (.iaload, 1) := by decide +kernel
theorem dX3_next_78 : decode cX3_next 78 = .ok (.invokevirtual 71, 3) := by decide +kernel
theorem dX3_next_81 : decode cX3_next 81 = .ok (.iconst 1, 1) := by decide +kernel
theorem dX3_next_82 : decode cX3_next 82 = .ok (.iadd, 1) := by decide +kernel
theorem dX3_next_83 : decode cX3_next 83 = .ok (.istore_n 3, 1) := by decide +kernel
theorem dX3_next_84 : decode cX3_next 84 = .ok (.goto (-41), 3) := by decide +kernel
theorem dX3_next_87 : decode cX3_next 87 = .ok (.aload_n 0, 1) := by decide +kernel
theorem dX3_next_88 : decode cX3_next 88 = .ok (.getfield 44, 3) := by decide +kernel
theorem dX3_next_91 : decode cX3_next 91 = .ok (.iload_n 1, 1) := by decide +kernel
theorem dX3_next_92 : decode cX3_next 92 = .ok (.iload_n 2, 1) := by decide +kernel
theorem dX3_next_93 : decode cX3_next 93 = .ok (.iastore, 1) := by decide +kernel
theorem dX3_next_94 : decode cX3_next 94 = .ok (.aload_n 0, 1) := by decide +kernel
theorem dX3_next_95 : decode cX3_next 95 = .ok (.getfield 47, 3) := by decide +kernel
theorem dX3_next_98 : decode cX3_next 98 = .ok (.iload_n 1, 1) := by decide +kernel
theorem dX3_next_99 : decode cX3_next 99 = .ok (.iload_n 3, 1) := by decide +kernel
theorem dX3_next_100 : decode cX3_next 100 = .ok (.aload_n 0, 1) := by decide +kernel
theorem dX3_next_101 : decode cX3_next 101 = .ok (.getfield 26, 3) := by decide +kernel
theorem dX3_next_104 : decode cX3_next 104 = .ok (.iload_n 2, 1) := by decide +kernel
theorem dX3_next_105 : decode cX3_next 105 = .ok (.iaload, 1) := by decide +kernel
theorem dX3_next_106 : decode cX3_next 106 = .ok (.if_icmp .ge 16, 3) := by decide +kernel
theorem dX3_next_109 : decode cX3_next 109 = .ok (.aload_n 0, 1) := by decide +kernel
theorem dX3_next_110 : decode cX3_next 110 = .ok (.getfield 29, 3) := by decide +kernel
theorem dX3_next_113 : decode cX3_next 113 = .ok (.iconst 5, 1) := by decide +kernel
theorem dX3_next_114 : decode cX3_next 114 = .ok (.iload_n 2, 1) := by decide +kernel
theorem dX3_next_115 : decode cX3_next 115 = .ok (.imul, 1) := by decide +kernel
theorem dX3_next_116 : decode cX3_next 116 = .ok (.iload_n 3, 1) := by decide +kernel
theorem dX3_next_117 : decode cX3_next 117 = .ok (.iadd, 1) := by decide +kernel
theorem dX3_next_118 : decode cX3_next 118 = .ok (.iaload, 1) := by decide +kernel
theorem dX3_next_119 : decode cX3_next 119 = .ok (.goto 9, 3) := by decide +kernel
theorem dX3_next_122 : decode cX3_next 122 = .ok (.aload_n 0, 1) := by decide +kernel
theorem dX3_next_123 : decode cX3_next 123 = .ok (.getfield 47, 3) := by decide +kernel
theorem dX3_next_126 : decode cX3_next 126 = .ok (.iload_n 1, 1) := by decide +kernel
theorem dX3_next_127 : decode cX3_next 127 = .ok (.iaload, 1) := by decide +kernel
theorem dX3_next_128 : decode cX3_next 128 = .ok (.iastore, 1) := by decide +kernel
theorem dX3_next_129 : decode cX3_next 129 = .ok (.iload_n 3, 1) := by decide +kernel
theorem dX3_next_130 : decode cX3_next 130 = .ok (.aload_n 0, 1) := by decide +kernel
theorem dX3_next_131 : decode cX3_next 131 = .ok (.getfield 26, 3) := by decide +kernel
theorem dX3_next_134 : decode cX3_next 134 = .ok (.iload_n 2, 1) := by decide +kernel
theorem dX3_next_135 : decode cX3_next 135 = .ok (.iaload, 1) := by decide +kernel
theorem dX3_next_136 : decode cX3_next 136 = .ok (.if_icmp .ge 12, 3) := by decide +kernel
theorem dX3_next_139 : decode cX3_next 139 = .ok (.aload_n 0, 1) := by decide +kernel
theorem dX3_next_140 : decode cX3_next 140 = .ok (.getfield 47, 3) := by decide +kernel
theorem dX3_next_143 : decode cX3_next 143 = .ok (.iload_n 1, 1) := by decide +kernel
theorem dX3_next_144 : decode cX3_next 144 = .ok (.iaload, 1) := by decide +kernel
theorem dX3_next_145 : decode cX3_next 145 = .ok (.goto 4, 3) := by decide +kernel
theorem dX3_next_148 : decode cX3_next 148 = .ok (.iconst (-1), 1) := by decide +kernel
theorem dX3_next_149 : decode cX3_next 149 = .ok (.ireturn, 1) := by decide +kernel
theorem dX3_leafOf_0 : decode cX3_leafOf 0 = .ok (.aload_n 0, 1) := by decide +kernel
theorem dX3_leafOf_1 : decode cX3_leafOf 1 = .ok (.aload_n 0, 1) := by decide +kernel
theorem dX3_leafOf_2 : decode cX3_leafOf 2 = .ok (.iload_n 1, 1) := by decide +kernel
theorem dX3_leafOf_3 : decode cX3_leafOf 3 = .ok (.invokevirtual 130, 3) := by decide +kernel
theorem dX3_leafOf_6 : decode cX3_leafOf 6 = .ok (.ifCond .eq 7, 3) := by decide +kernel
theorem dX3_leafOf_9 : decode cX3_leafOf 9 = .ok (.iconst 0, 1) := by decide +kernel
theorem dX3_leafOf_10 : decode cX3_leafOf 10 = .ok (.goto 4, 3) := by decide +kernel
theorem dX3_leafOf_13 : decode cX3_leafOf 13 = .ok (.iconst 1, 1) := by decide +kernel
theorem dX3_leafOf_14 : decode cX3_leafOf 14 = .ok (.invokevirtual 97, 3) := by decide +kernel
theorem dX3_leafOf_17 : decode cX3_leafOf 17 = .ok (.ifCond .eq 12, 3) := by decide +kernel
theorem dX3_leafOf_20 : decode cX3_leafOf 20 = .ok (.aload_n 0, 1) := by decide +kernel
theorem dX3_leafOf_21 : decode cX3_leafOf 21 = .ok (.getfield 44, 3) := by decide +kernel
theorem dX3_leafOf_24 : decode cX3_leafOf 24 = .ok (.iload_n 1, 1) := by decide +kernel
theorem dX3_leafOf_25 : decode cX3_leafOf 25 = .ok (.iaload, 1) := by decide +kernel
theorem dX3_leafOf_26 : decode cX3_leafOf 26 = .ok (.goto 4, 3) := by decide +kernel
theorem dX3_leafOf_29 : decode cX3_leafOf 29 = .ok (.iconst 0, 1) := by decide +kernel
theorem dX3_leafOf_30 : decode cX3_leafOf 30 = .ok (.ireturn, 1) := by decide +kernel
theorem dX3_close_0 : decode cX3_close 0 = .ok (.aload_n 0, 1) := by decide +kernel
theorem dX3_close_1 : decode cX3_close 1 = .ok (.aload_n 0, 1) := by decide +kernel
theorem dX3_close_2 : decode cX3_close 2 = .ok (.iload_n 1, 1) := by decide +kernel
theorem dX3_close_3 : decode cX3_close 3 = .ok (.invokevirtual 130, 3) := by decide +kernel
theorem dX3_close_6 : decode cX3_close 6 = .ok (.ifCond .eq 7, 3) := by decide +kernel
theorem dX3_close_9 : decode cX3_close 9 = .ok (.iconst 0, 1) := by decide +kernel
theorem dX3_close_10 : decode cX3_close 10 = .ok (.goto 4, 3) := by decide +kernel
theorem dX3_close_13 : decode cX3_close 13 = .ok (.iconst 1, 1) := by decide +kernel
theorem dX3_close_14 : decode cX3_close 14 = .ok (.invokevirtual 97, 3) := by decide +kernel
theorem dX3_close_17 : decode cX3_close 17 = .ok (.ifCond .ne 5, 3) := by decide +kernel
theorem dX3_close_20 : decode cX3_close 20 = .ok (.iconst 0, 1) := by decide +kernel
theorem dX3_close_21 : decode cX3_close 21 = .ok (.ireturn, 1) := by decide +kernel
theorem dX3_close_22 : decode cX3_close 22 = .ok (.aload_n 0, 1) := by decide +kernel
theorem dX3_close_23 : decode cX3_close 23 = .ok (.getfield 41, 3) := by decide +kernel
theorem dX3_close_26 : decode cX3_close 26 = .ok (.iload_n 1, 1) := by decide +kernel
theorem dX3_close_27 : decode cX3_close 27 = .ok (.iconst 0, 1) := by decide +kernel
theorem dX3_close_28 : decode cX3_close 28 = .ok (.bastore, 1) := by decide +kernel
theorem dX3_close_29 : decode cX3_close 29 = .ok (.iconst 0, 1) := by decide +kernel
theorem dX3_close_30 : decode cX3_close 30 = .ok (.istore_n 2, 1) := by decide +kernel
theorem dX3_close_31 : decode cX3_close 31 = .ok (.iconst 0, 1) := by decide +kernel
theorem dX3_close_32 : decode cX3_close 32 = .ok (.istore_n 3, 1) := by decide +kernel
theorem dX3_close_33 : decode cX3_close 33 = .ok (.iload_n 3, 1) := by decide +kernel
theorem dX3_close_34 : decode cX3_close 34 = .ok (.aload_n 0, 1) := by decide +kernel
theorem dX3_close_35 : decode cX3_close 35 = .ok (.getfield 121, 3) := by decide +kernel
theorem dX3_close_38 : decode cX3_close 38 = .ok (.if_icmp .ge 26, 3) := by decide +kernel
theorem dX3_close_41 : decode cX3_close 41 = .ok (.iload_n 2, 1) := by decide +kernel
theorem dX3_close_42 : decode cX3_close 42 = .ok (.aload_n 0, 1) := by decide +kernel
theorem dX3_close_43 : decode cX3_close 43 = .ok (.getfield 41, 3) := by decide +kernel
theorem dX3_close_46 : decode cX3_close 46 = .ok (.iload_n 3, 1) := by decide +kernel
theorem dX3_close_47 : decode cX3_close 47 = .ok (.baload, 1) := by decide +kernel
theorem dX3_close_48 : decode cX3_close 48 = .ok (.ifCond .eq 7, 3) := by decide +kernel
theorem dX3_close_51 : decode cX3_close 51 = .ok (.iconst 1, 1) := by decide +kernel
theorem dX3_close_52 : decode cX3_close 52 = .ok (.goto 4, 3) := by decide +kernel
theorem dX3_close_55 : decode cX3_close 55 = .ok (.iconst 0, 1) := by decide +kernel
theorem dX3_close_56 : decode cX3_close 56 = .ok (.iadd, 1) := by decide +kernel
theorem dX3_close_57 : decode cX3_close 57 = .ok (.istore_n 2, 1) := by decide +kernel
theorem dX3_close_58 : decode cX3_close 58 = .ok (.iinc 3 1, 3) := by decide +kernel
theorem dX3_close_61 : decode cX3_close 61 = .ok (.goto (-28), 3) := by decide +kernel
theorem dX3_close_64 : decode cX3_close 64 = .ok (.iload_n 2, 1) := by decide +kernel
theorem dX3_close_65 : decode cX3_close 65 = .ok (.ireturn, 1) := by decide +kernel
end
section
/-! decode rows -/
theorem dJ9_max_7cf53_0 : decode cJ9_max_7cf53 0 = .ok (.iload_n 0, 1) := by decide +kernel
theorem dJ9_max_7cf53_1 : decode cJ9_max_7cf53 1 = .ok (.iload_n 1, 1) := by decide +kernel
theorem dJ9_max_7cf53_2 : decode cJ9_max_7cf53 2 = .ok (.if_icmp .lt 7, 3) := by decide +kernel
theorem dJ9_max_7cf53_5 : decode cJ9_max_7cf53 5 = .ok (.iload_n 0, 1) := by decide +kernel
theorem dJ9_max_7cf53_6 : decode cJ9_max_7cf53 6 = .ok (.goto 4, 3) := by decide +kernel
theorem dJ9_max_7cf53_9 : decode cJ9_max_7cf53 9 = .ok (.iload_n 1, 1) := by decide +kernel
theorem dJ9_max_7cf53_10 : decode cJ9_max_7cf53 10 = .ok (.ireturn, 1) := by decide +kernel
theorem dJ9_min_7cf53_0 : decode cJ9_min_7cf53 0 = .ok (.iload_n 0, 1) := by decide +kernel
theorem dJ9_min_7cf53_1 : decode cJ9_min_7cf53 1 = .ok (.iload_n 1, 1) := by decide +kernel
theorem dJ9_min_7cf53_2 : decode cJ9_min_7cf53 2 = .ok (.if_icmp .gt 7, 3) := by decide +kernel
theorem dJ9_min_7cf53_5 : decode cJ9_min_7cf53 5 = .ok (.iload_n 0, 1) := by decide +kernel
theorem dJ9_min_7cf53_6 : decode cJ9_min_7cf53 6 = .ok (.goto 4, 3) := by decide +kernel
theorem dJ9_min_7cf53_9 : decode cJ9_min_7cf53 9 = .ok (.iload_n 1, 1) := by decide +kernel
theorem dJ9_min_7cf53_10 : decode cJ9_min_7cf53 10 = .ok (.ireturn, 1) := by decide +kernel
theorem dJxa1e45_init_da8c8_0 : decode cJxa1e45_init_da8c8 0 = .ok (.aload_n 0, 1) := by decide +kernel
theorem dJxa1e45_init_da8c8_1 : decode cJxa1e45_init_da8c8 1 = .ok (.invokespecial 1, 3) := by decide +kernel
theorem dJxa1e45_init_da8c8_4 : decode cJxa1e45_init_da8c8 4 = .ok (.return_, 1) := by decide +kernel
theorem dJxc12de_init_da8c8_0 : decode cJxc12de_init_da8c8 0 = .ok (.aload_n 0, 1) := by decide +kernel
theorem dJxc12de_init_da8c8_1 : decode cJxc12de_init_da8c8 1 = .ok (.invokespecial 1, 3) := by decide +kernel
theorem dJxc12de_init_da8c8_4 : decode cJxc12de_init_da8c8 4 = .ok (.aload_n 0, 1) := by decide +kernel
theorem dJxc12de_init_da8c8_5 : decode cJxc12de_init_da8c8 5 = .ok (.iconst 0, 1) := by decide +kernel
theorem dJxc12de_init_da8c8_6 : decode cJxc12de_init_da8c8 6 = .ok (.putfield 7, 3) := by decide +kernel
theorem dJxc12de_init_da8c8_9 : decode cJxc12de_init_da8c8 9 = .ok (.return_, 1) := by decide +kernel
theorem dJx4a65c_init_da8c8_0 : decode cJx4a65c_init_da8c8 0 = .ok (.aload_n 0, 1) := by decide +kernel
theorem dJx4a65c_init_da8c8_1 : decode cJx4a65c_init_da8c8 1 = .ok (.invokespecial 1, 3) := by decide +kernel
theorem dJx4a65c_init_da8c8_4 : decode cJx4a65c_init_da8c8 4 = .ok (.aload_n 0, 1) := by decide +kernel
theorem dJx4a65c_init_da8c8_5 : decode cJx4a65c_init_da8c8 5 = .ok (.getstatic 39, 3) := by decide +kernel
theorem dJx4a65c_init_da8c8_8 : decode cJx4a65c_init_da8c8 8 = .ok (.putfield 9, 3) := by decide +kernel
theorem dJx4a65c_init_da8c8_11 : decode cJx4a65c_init_da8c8 11 = .ok (.return_, 1) := by decide +kernel
theorem dJx4a65c_grow_92f84_0 : decode cJx4a65c_grow_92f84 0 = .ok (.aload_n 0, 1) := by decide +kernel
theorem dJx4a65c_grow_92f84_1 : decode cJx4a65c_grow_92f84 1 = .ok (.getfield 9, 3) := by decide +kernel
theorem dJx4a65c_grow_92f84_4 : decode cJx4a65c_grow_92f84 4 = .ok (.arraylength, 1) := by decide +kernel
theorem dJx4a65c_grow_92f84_5 : decode cJx4a65c_grow_92f84 5 = .ok (.istore_n 2, 1) := by decide +kernel
theorem dJx4a65c_grow_92f84_6 : decode cJx4a65c_grow_92f84 6 = .ok (.iload_n 2, 1) := by decide +kernel
theorem dJx4a65c_grow_92f84_7 : decode cJx4a65c_grow_92f84 7 = .ok (.ifCond .gt 13, 3) := by decide +kernel
theorem dJx4a65c_grow_92f84_10 : decode cJx4a65c_grow_92f84 10 = .ok (.aload_n 0, 1) := by decide +kernel
theorem dJx4a65c_grow_92f84_11 : decode cJx4a65c_grow_92f84 11 = .ok (.getfield 9, 3) := by decide +kernel
theorem dJx4a65c_grow_92f84_14 : decode cJx4a65c_grow_92f84 14 = .ok (.getstatic 39, 3) := by decide +kernel
theorem dJx4a65c_grow_92f84_17 : decode cJx4a65c_grow_92f84 17 = .ok (.if_acmp .eq 28, 3) := by decide +kernel
theorem dJx4a65c_grow_92f84_20 : decode cJx4a65c_grow_92f84 20 = .ok (.iload_n 2, 1) := by decide +kernel
theorem dJx4a65c_grow_92f84_21 : decode cJx4a65c_grow_92f84 21 = .ok (.iload_n 1, 1) := by decide +kernel
theorem dJx4a65c_grow_92f84_22 : decode cJx4a65c_grow_92f84 22 = .ok (.iload_n 2, 1) := by decide +kernel
theorem dJx4a65c_grow_92f84_23 : decode cJx4a65c_grow_92f84 23 = .ok (.isub, 1) := by decide +kernel
theorem dJx4a65c_grow_92f84_24 : decode cJx4a65c_grow_92f84 24 = .ok (.iload_n 2, 1) := by decide +kernel
theorem dJx4a65c_grow_92f84_25 : decode cJx4a65c_grow_92f84 25 = .ok (.iconst 1, 1) := by decide +kernel
theorem dJx4a65c_grow_92f84_26 : decode cJx4a65c_grow_92f84 26 = .ok (.ishr, 1) := by decide +kernel
theorem dJx4a65c_grow_92f84_27 : decode cJx4a65c_grow_92f84 27 = .ok (.invokestatic 73, 3) := by decide +kernel
theorem dJx4a65c_grow_92f84_30 : decode cJx4a65c_grow_92f84 30 = .ok (.istore_n 3, 1) := by decide +kernel
theorem dJx4a65c_grow_92f84_31 : decode cJx4a65c_grow_92f84 31 = .ok (.aload_n 0, 1) := by decide +kernel
theorem dJx4a65c_grow_92f84_32 : decode cJx4a65c_grow_92f84 32 = .ok (.aload_n 0, 1) := by decide +kernel
theorem dJx4a65c_grow_92f84_33 : decode cJx4a65c_grow_92f84 33 = .ok (.getfield 9, 3) := by decide +kernel
theorem dJx4a65c_grow_92f84_36 : decode cJx4a65c_grow_92f84 36 = .ok (.iload_n 3, 1) := by decide +kernel
theorem dJx4a65c_grow_92f84_37 : decode cJx4a65c_grow_92f84 37 = .ok (.invokestatic 66, 3) := by decide +kernel
theorem dJx4a65c_grow_92f84_40 : decode cJx4a65c_grow_92f84 40 = .ok (.dup_x1, 1) := by decide +kernel
theorem dJx4a65c_grow_92f84_41 : decode cJx4a65c_grow_92f84 41 = .ok (.putfield 9, 3) := by decide +kernel
theorem dJx4a65c_grow_92f84_44 : decode cJx4a65c_grow_92f84 44 = .ok (.areturn, 1) := by decide +kernel
theorem dJx4a65c_grow_92f84_45 : decode cJx4a65c_grow_92f84 45 = .ok (.aload_n 0, 1) := by decide +kernel
theorem dJx4a65c_grow_92f84_46 : decode cJx4a65c_grow_92f84 46 = .ok (.bipush 10, 2) := by decide +kernel
theorem dJx4a65c_grow_92f84_48 : decode cJx4a65c_grow_92f84 48 = .ok (.iload_n 1, 1) := by decide +kernel
theorem dJx4a65c_grow_92f84_49 : decode cJx4a65c_grow_92f84 49 = .ok (.invokestatic 79, 3) := by decide +kernel
theorem dJx4a65c_grow_92f84_52 : decode cJx4a65c_grow_92f84 52 = .ok (.anewarray 7, 3) := by decide +kernel
theorem dJx4a65c_grow_92f84_55 : decode cJx4a65c_grow_92f84 55 = .ok (.dup_x1, 1) := by decide +kernel
theorem dJx4a65c_grow_92f84_56 : decode cJx4a65c_grow_92f84 56 = .ok (.putfield 9, 3) := by decide +kernel
theorem dJx4a65c_grow_92f84_59 : decode cJx4a65c_grow_92f84 59 = .ok (.areturn, 1) := by decide +kernel
theorem dJx4a65c_grow_d5877_0 : decode cJx4a65c_grow_d5877 0 = .ok (.aload_n 0, 1) := by decide +kernel
theorem dJx4a65c_grow_d5877_1 : decode cJx4a65c_grow_d5877 1 = .ok (.aload_n 0, 1) := by decide +kernel
theorem dJx4a65c_grow_d5877_2 : decode cJx4a65c_grow_d5877 2 = .ok (.getfield 48, 3) := by decide +kernel
theorem dJx4a65c_grow_d5877_5 : decode cJx4a65c_grow_d5877 5 = .ok (.iconst 1, 1) := by decide +kernel
theorem dJx4a65c_grow_d5877_6 : decode cJx4a65c_grow_d5877 6 = .ok (.iadd, 1) := by decide +kernel
theorem dJx4a65c_grow_d5877_7 : decode cJx4a65c_grow_d5877 7 = .ok (.invokevirtual 69, 3) := by decide +kernel
theorem dJx4a65c_grow_d5877_10 : decode cJx4a65c_grow_d5877 10 = .ok (.areturn, 1) := by decide +kernel
theorem dJx4a65c_size_8abf5_0 : decode cJx4a65c_size_8abf5 0 = .ok (.aload_n 0, 1) := by decide +kernel
theorem dJx4a65c_size_8abf5_1 : decode cJx4a65c_size_8abf5 1 = .ok (.getfield 48, 3) := by decide +kernel
theorem dJx4a65c_size_8abf5_4 : decode cJx4a65c_size_8abf5 4 = .ok (.ireturn, 1) := by decide +kernel
theorem dJx4a65c_isEmpty_aae02_0 : decode cJx4a65c_isEmpty_aae02 0 = .ok (.aload_n 0, 1) := by decide +kernel
theorem dJx4a65c_isEmpty_aae02_1 : decode cJx4a65c_isEmpty_aae02 1 = .ok (.getfield 48, 3) := by decide +kernel
theorem dJx4a65c_isEmpty_aae02_4 : decode cJx4a65c_isEmpty_aae02 4 = .ok (.ifCond .ne 7, 3) := by decide +kernel
theorem dJx4a65c_isEmpty_aae02_7 : decode cJx4a65c_isEmpty_aae02 7 = .ok (.iconst 1, 1) := by decide +kernel
theorem dJx4a65c_isEmpty_aae02_8 : decode cJx4a65c_isEmpty_aae02 8 = .ok (.goto 4, 3) := by decide +kernel
theorem dJx4a65c_isEmpty_aae02_11 : decode cJx4a65c_isEmpty_aae02 11 = .ok (.iconst 0, 1) := by decide +kernel
theorem dJx4a65c_isEmpty_aae02_12 : decode cJx4a65c_isEmpty_aae02 12 = .ok (.ireturn, 1) := by decide +kernel
theorem dJx4a65c_add_72be8_0 : decode cJx4a65c_add_72be8 0 = .ok (.iload_n 3, 1) := by decide +kernel
theorem dJx4a65c_add_72be8_1 : decode cJx4a65c_add_72be8 1 = .ok (.aload_n 2, 1) := by decide +kernel
theorem dJx4a65c_add_72be8_2 : decode cJx4a65c_add_72be8 2 = .ok (.arraylength, 1) := by decide +kernel
theorem dJx4a65c_add_72be8_3 : decode cJx4a65c_add_72be8 3 = .ok (.if_icmp .ne 8, 3) := by decide +kernel
theorem dJx4a65c_add_72be8_6 : decode cJx4a65c_add_72be8 6 = .ok (.aload_n 0, 1) := by decide +kernel
theorem dJx4a65c_add_72be8_7 : decode cJx4a65c_add_72be8 7 = .ok (.invokevirtual 129, 3) := by decide +kernel
theorem dJx4a65c_add_72be8_10 : decode cJx4a65c_add_72be8 10 = .ok (.astore_n 2, 1) := by decide +kernel
theorem dJx4a65c_add_72be8_11 : decode cJx4a65c_add_72be8 11 = .ok (.aload_n 2, 1) := by decide +kernel
theorem dJx4a65c_add_72be8_12 : decode cJx4a65c_add_72be8 12 = .ok (.iload_n 3, 1) := by decide +kernel
theorem dJx4a65c_add_72be8_13 : decode cJx4a65c_add_72be8 13 = .ok (.aload_n 1, 1) := by decide +kernel
theorem dJx4a65c_add_72be8_14 : decode cJx4a65c_add_72be8 14 = .ok (.aastore, 1) := by decide +kernel
theorem dJx4a65c_add_72be8_15 : decode cJx4a65c_add_72be8 15 = .ok (.aload_n 0, 1) := by decide +kernel
theorem dJx4a65c_add_72be8_16 : decode cJx4a65c_add_72be8 16 = .ok (.iload_n 3, 1) := by decide +kernel
theorem dJx4a65c_add_72be8_17 : decode cJx4a65c_add_72be8 17 = .ok (.iconst 1, 1) := by decide +kernel
theorem dJx4a65c_add_72be8_18 : decode cJx4a65c_add_72be8 18 = .ok (.iadd, 1) := by decide +kernel
theorem dJx4a65c_add_72be8_19 : decode cJx4a65c_add_72be8 19 = .ok (.putfield 48, 3) := by decide +kernel
theorem dJx4a65c_add_72be8_22 : decode cJx4a65c_add_72be8 22 = .ok (.return_, 1) := by decide +kernel
theorem dJx4a65c_add_9ea2d_0 : decode cJx4a65c_add_9ea2d 0 = .ok (.aload_n 0, 1) := by decide +kernel
theorem dJx4a65c_add_9ea2d_1 : decode cJx4a65c_add_9ea2d 1 = .ok (.dup, 1) := by decide +kernel
theorem dJx4a65c_add_9ea2d_2 : decode cJx4a65c_add_9ea2d 2 = .ok (.getfield 63, 3) := by decide +kernel
theorem dJx4a65c_add_9ea2d_5 : decode cJx4a65c_add_9ea2d 5 = .ok (.iconst 1, 1) := by decide +kernel
theorem dJx4a65c_add_9ea2d_6 : decode cJx4a65c_add_9ea2d 6 = .ok (.iadd, 1) := by decide +kernel
theorem dJx4a65c_add_9ea2d_7 : decode cJx4a65c_add_9ea2d 7 = .ok (.putfield 63, 3) := by decide +kernel
theorem dJx4a65c_add_9ea2d_10 : decode cJx4a65c_add_9ea2d 10 = .ok (.aload_n 0, 1) := by decide +kernel
theorem dJx4a65c_add_9ea2d_11 : decode cJx4a65c_add_9ea2d 11 = .ok (.aload_n 1, 1) := by decide +kernel
theorem dJx4a65c_add_9ea2d_12 : decode cJx4a65c_add_9ea2d 12 = .ok (.aload_n 0, 1) := by decide +kernel
theorem dJx4a65c_add_9ea2d_13 : decode cJx4a65c_add_9ea2d 13 = .ok (.getfield 9, 3) := by decide +kernel
theorem dJx4a65c_add_9ea2d_16 : decode cJx4a65c_add_9ea2d 16 = .ok (.aload_n 0, 1) := by decide +kernel
theorem dJx4a65c_add_9ea2d_17 : decode cJx4a65c_add_9ea2d 17 = .ok (.getfield 48, 3) := by decide +kernel
theorem dJx4a65c_add_9ea2d_20 : decode cJx4a65c_add_9ea2d 20 = .ok (.invokevirtual 131, 3) := by decide +kernel
theorem dJx4a65c_add_9ea2d_23 : decode cJx4a65c_add_9ea2d 23 = .ok (.iconst 1, 1) := by decide +kernel
theorem dJx4a65c_add_9ea2d_24 : decode cJx4a65c_add_9ea2d 24 = .ok (.ireturn, 1) := by decide +kernel
theorem dJx4a65c_remove_915e3_0 : decode cJx4a65c_remove_915e3 0 = .ok (.iload_n 1, 1) := by decide +kernel
theorem dJx4a65c_remove_915e3_1 : decode cJx4a65c_remove_915e3 1 = .ok (.aload_n 0, 1) := by decide +kernel
theorem dJx4a65c_remove_915e3_2 : decode cJx4a65c_remove_915e3 2 = .ok (.getfield 48, 3) := by decide +kernel
theorem dJx4a65c_remove_915e3_5 : decode cJx4a65c_remove_915e3 5 = .ok (.invokestatic 118, 3) := by decide +kernel
theorem dJx4a65c_remove_915e3_8 : decode cJx4a65c_remove_915e3 8 = .ok (.pop, 1) := by decide +kernel
theorem dJx4a65c_remove_915e3_9 : decode cJx4a65c_remove_915e3 9 = .ok (.aload_n 0, 1) := by decide +kernel
theorem dJx4a65c_remove_915e3_10 : decode cJx4a65c_remove_915e3 10 = .ok (.getfield 9, 3) := by decide +kernel
theorem dJx4a65c_remove_915e3_13 : decode cJx4a65c_remove_915e3 13 = .ok (.astore_n 2, 1) := by decide +kernel
theorem dJx4a65c_remove_915e3_14 : decode cJx4a65c_remove_915e3 14 = .ok (.aload_n 2, 1) := by decide +kernel
theorem dJx4a65c_remove_915e3_15 : decode cJx4a65c_remove_915e3 15 = .ok (.iload_n 1, 1) := by decide +kernel
theorem dJx4a65c_remove_915e3_16 : decode cJx4a65c_remove_915e3 16 = .ok (.aaload, 1) := by decide +kernel
theorem dJx4a65c_remove_915e3_17 : decode cJx4a65c_remove_915e3 17 = .ok (.astore_n 3, 1) := by decide +kernel
theorem dJx4a65c_remove_915e3_18 : decode cJx4a65c_remove_915e3 18 = .ok (.aload_n 0, 1) := by decide +kernel
theorem dJx4a65c_remove_915e3_19 : decode cJx4a65c_remove_915e3 19 = .ok (.aload_n 2, 1) := by decide +kernel
theorem dJx4a65c_remove_915e3_20 : decode cJx4a65c_remove_915e3 20 = .ok (.iload_n 1, 1) := by decide +kernel
theorem dJx4a65c_remove_915e3_21 : decode cJx4a65c_remove_915e3 21 = .ok (.invokevirtual 144, 3) := by decide +kernel
theorem dJx4a65c_remove_915e3_24 : decode cJx4a65c_remove_915e3 24 = .ok (.aload_n 3, 1) := by decide +kernel
theorem dJx4a65c_remove_915e3_25 : decode cJx4a65c_remove_915e3 25 = .ok (.areturn, 1) := by decide +kernel
theorem dJx4a65c_fastRemove_b59b0_0 : decode cJx4a65c_fastRemove_b59b0 0 = .ok (.aload_n 0, 1) := by decide +kernel
theorem dJx4a65c_fastRemove_b59b0_1 : decode cJx4a65c_fastRemove_b59b0 1 = .ok (.dup, 1) := by decide +kernel
theorem dJx4a65c_fastRemove_b59b0_2 : decode cJx4a65c_fastRemove_b59b0 2 = .ok (.getfield 63, 3) := by decide +kernel
theorem dJx4a65c_fastRemove_b59b0_5 : decode cJx4a65c_fastRemove_b59b0 5 = .ok (.iconst 1, 1) := by decide +kernel
theorem dJx4a65c_fastRemove_b59b0_6 : decode cJx4a65c_fastRemove_b59b0 6 = .ok (.iadd, 1) := by decide +kernel
theorem dJx4a65c_fastRemove_b59b0_7 : decode cJx4a65c_fastRemove_b59b0 7 = .ok (.putfield 63, 3) := by decide +kernel
theorem dJx4a65c_fastRemove_b59b0_10 : decode cJx4a65c_fastRemove_b59b0 10 = .ok (.aload_n 0, 1) := by decide +kernel
theorem dJx4a65c_fastRemove_b59b0_11 : decode cJx4a65c_fastRemove_b59b0 11 = .ok (.getfield 48, 3) := by decide +kernel
theorem dJx4a65c_fastRemove_b59b0_14 : decode cJx4a65c_fastRemove_b59b0 14 = .ok (.iconst 1, 1) := by decide +kernel
theorem dJx4a65c_fastRemove_b59b0_15 : decode cJx4a65c_fastRemove_b59b0 15 = .ok (.isub, 1) := by decide +kernel
theorem dJx4a65c_fastRemove_b59b0_16 : decode cJx4a65c_fastRemove_b59b0 16 = .ok (.dup, 1) := by decide +kernel
theorem dJx4a65c_fastRemove_b59b0_17 : decode cJx4a65c_fastRemove_b59b0 17 = .ok (.istore_n 3, 1) := by decide +kernel
theorem dJx4a65c_fastRemove_b59b0_18 : decode cJx4a65c_fastRemove_b59b0 18 = .ok (.iload_n 2, 1) := by decide +kernel
theorem dJx4a65c_fastRemove_b59b0_19 : decode cJx4a65c_fastRemove_b59b0 19 = .ok (.if_icmp .le 15, 3) := by decide +kernel
theorem dJx4a65c_fastRemove_b59b0_22 : decode cJx4a65c_fastRemove_b59b0 22 = .ok (.aload_n 1, 1) := by decide +kernel
theorem dJx4a65c_fastRemove_b59b0_23 : decode cJx4a65c_fastRemove_b59b0 23 = .ok (.iload_n 2, 1) := by decide +kernel
theorem dJx4a65c_fastRemove_b59b0_24 : decode cJx4a65c_fastRemove_b59b0 24 = .ok (.iconst 1, 1) := by decide +kernel
theorem dJx4a65c_fastRemove_b59b0_25 : decode cJx4a65c_fastRemove_b59b0 25 = .ok (.iadd, 1) := by decide +kernel
theorem dJx4a65c_fastRemove_b59b0_26 : decode cJx4a65c_fastRemove_b59b0 26 = .ok (.aload_n 1, 1) := by decide +kernel
theorem dJx4a65c_fastRemove_b59b0_27 : decode cJx4a65c_fastRemove_b59b0 27 = .ok (.iload_n 2, 1) := by decide +kernel
theorem dJx4a65c_fastRemove_b59b0_28 : decode cJx4a65c_fastRemove_b59b0 28 = .ok (.iload_n 3, 1) := by decide +kernel
theorem dJx4a65c_fastRemove_b59b0_29 : decode cJx4a65c_fastRemove_b59b0 29 = .ok (.iload_n 2, 1) := by decide +kernel
theorem dJx4a65c_fastRemove_b59b0_30 : decode cJx4a65c_fastRemove_b59b0 30 = .ok (.isub, 1) := by decide +kernel
theorem dJx4a65c_fastRemove_b59b0_31 : decode cJx4a65c_fastRemove_b59b0 31 = .ok (.invokestatic 112, 3) := by decide +kernel
theorem dJx4a65c_fastRemove_b59b0_34 : decode cJx4a65c_fastRemove_b59b0 34 = .ok (.aload_n 1, 1) := by decide +kernel
theorem dJx4a65c_fastRemove_b59b0_35 : decode cJx4a65c_fastRemove_b59b0 35 = .ok (.aload_n 0, 1) := by decide +kernel
theorem dJx4a65c_fastRemove_b59b0_36 : decode cJx4a65c_fastRemove_b59b0 36 = .ok (.iload_n 3, 1) := by decide +kernel
theorem dJx4a65c_fastRemove_b59b0_37 : decode cJx4a65c_fastRemove_b59b0 37 = .ok (.dup_x1, 1) := by decide +kernel
theorem dJx4a65c_fastRemove_b59b0_38 : decode cJx4a65c_fastRemove_b59b0 38 = .ok (.putfield 48, 3) := by decide +kernel
theorem dJx4a65c_fastRemove_b59b0_41 : decode cJx4a65c_fastRemove_b59b0 41 = .ok (.aconst_null, 1) := by decide +kernel
theorem dJx4a65c_fastRemove_b59b0_42 : decode cJx4a65c_fastRemove_b59b0 42 = .ok (.aastore, 1) := by decide +kernel
theorem dJx4a65c_fastRemove_b59b0_43 : decode cJx4a65c_fastRemove_b59b0 43 = .ok (.return_, 1) := by decide +kernel
theorem dJ7_copyOf_1904c_0 : decode cJ7_copyOf_1904c 0 = .ok (.aload_n 0, 1) := by decide +kernel
theorem dJ7_copyOf_1904c_1 : decode cJ7_copyOf_1904c 1 = .ok (.iload_n 1, 1) := by decide +kernel
theorem dJ7_copyOf_1904c_2 : decode cJ7_copyOf_1904c 2 = .ok (.aload_n 0, 1) := by decide +kernel
theorem dJ7_copyOf_1904c_3 : decode cJ7_copyOf_1904c 3 = .ok (.invokevirtual 86, 3) := by decide +kernel
theorem dJ7_copyOf_1904c_6 : decode cJ7_copyOf_1904c 6 = .ok (.invokestatic 300, 3) := by decide +kernel
theorem dJ7_copyOf_1904c_9 : decode cJ7_copyOf_1904c 9 = .ok (.areturn, 1) := by decide +kernel
theorem dJ7_copyOf_6403c_0 : decode cJ7_copyOf_6403c 0 = .ok (.aload_n 2, 1) := by decide +kernel
theorem dJ7_copyOf_6403c_1 : decode cJ7_copyOf_6403c 1 = .ok (.ldc 110, 2) := by decide +kernel
theorem dJ7_copyOf_6403c_3 : decode cJ7_copyOf_6403c 3 = .ok (.if_acmp .ne 10, 3) := by decide +kernel
theorem dJ7_copyOf_6403c_6 : decode cJ7_copyOf_6403c 6 = .ok (.iload_n 1, 1) := by decide +kernel
theorem dJ7_copyOf_6403c_7 : decode cJ7_copyOf_6403c 7 = .ok (.anewarray 2, 3) := by decide +kernel
theorem dJ7_copyOf_6403c_10 : decode cJ7_copyOf_6403c 10 = .ok (.goto 14, 3) := by decide +kernel
theorem dJ7_copyOf_6403c_13 : decode cJ7_copyOf_6403c 13 = .ok (.aload_n 2, 1) := by decide +kernel
theorem dJ7_copyOf_6403c_14 : decode cJ7_copyOf_6403c 14 = .ok (.invokevirtual 90, 3) := by decide +kernel
theorem dJ7_copyOf_6403c_17 : decode cJ7_copyOf_6403c 17 = .ok (.iload_n 1, 1) := by decide +kernel
theorem dJ7_copyOf_6403c_18 : decode cJ7_copyOf_6403c 18 = .ok (.invokestatic 95, 3) := by decide +kernel
theorem dJ7_copyOf_6403c_21 : decode cJ7_copyOf_6403c 21 = .ok (.checkcast 110, 3) := by decide +kernel
theorem dJ7_copyOf_6403c_24 : decode cJ7_copyOf_6403c 24 = .ok (.astore_n 3, 1) := by decide +kernel
theorem dJ7_copyOf_6403c_25 : decode cJ7_copyOf_6403c 25 = .ok (.aload_n 0, 1) := by decide +kernel
theorem dJ7_copyOf_6403c_26 : decode cJ7_copyOf_6403c 26 = .ok (.iconst 0, 1) := by decide +kernel
theorem dJ7_copyOf_6403c_27 : decode cJ7_copyOf_6403c 27 = .ok (.aload_n 3, 1) := by decide +kernel
theorem dJ7_copyOf_6403c_28 : decode cJ7_copyOf_6403c 28 = .ok (.iconst 0, 1) := by decide +kernel
theorem dJ7_copyOf_6403c_29 : decode cJ7_copyOf_6403c 29 = .ok (.aload_n 0, 1) := by decide +kernel
theorem dJ7_copyOf_6403c_30 : decode cJ7_copyOf_6403c 30 = .ok (.arraylength, 1) := by decide +kernel
theorem dJ7_copyOf_6403c_31 : decode cJ7_copyOf_6403c 31 = .ok (.iload_n 1, 1) := by decide +kernel
theorem dJ7_copyOf_6403c_32 : decode cJ7_copyOf_6403c 32 = .ok (.invokestatic 304, 3) := by decide +kernel
theorem dJ7_copyOf_6403c_35 : decode cJ7_copyOf_6403c 35 = .ok (.invokestatic 150, 3) := by decide +kernel
theorem dJ7_copyOf_6403c_38 : decode cJ7_copyOf_6403c 38 = .ok (.aload_n 3, 1) := by decide +kernel
theorem dJ7_copyOf_6403c_39 : decode cJ7_copyOf_6403c 39 = .ok (.areturn, 1) := by decide +kernel
theorem dJ15_checkIndex_7cf53_0 : decode cJ15_checkIndex_7cf53 0 = .ok (.iload_n 0, 1) := by decide +kernel
theorem dJ15_checkIndex_7cf53_1 : decode cJ15_checkIndex_7cf53 1 = .ok (.iload_n 1, 1) := by decide +kernel
theorem dJ15_checkIndex_7cf53_2 : decode cJ15_checkIndex_7cf53 2 = .ok (.aconst_null, 1) := by decide +kernel
theorem dJ15_checkIndex_7cf53_3 : decode cJ15_checkIndex_7cf53 3 = .ok (.invokestatic 105, 3) := by decide +kernel
theorem dJ15_checkIndex_7cf53_6 : decode cJ15_checkIndex_7cf53 6 = .ok (.ireturn, 1) := by decide +kernel
theorem dJ8_newLength_cabcc_0 : decode cJ8_newLength_cabcc 0 = .ok (.iload_n 0, 1) := by decide +kernel
theorem dJ8_newLength_cabcc_1 : decode cJ8_newLength_cabcc 1 = .ok (.iload_n 1, 1) := by decide +kernel
theorem dJ8_newLength_cabcc_2 : decode cJ8_newLength_cabcc 2 = .ok (.iload_n 2, 1) := by decide +kernel
theorem dJ8_newLength_cabcc_3 : decode cJ8_newLength_cabcc 3 = .ok (.invokestatic 194, 3) := by decide +kernel
theorem dJ8_newLength_cabcc_6 : decode cJ8_newLength_cabcc 6 = .ok (.iadd, 1) := by decide +kernel
theorem dJ8_newLength_cabcc_7 : decode cJ8_newLength_cabcc 7 = .ok (.istore_n 3, 1) := by decide +kernel
theorem dJ8_newLength_cabcc_8 : decode cJ8_newLength_cabcc 8 = .ok (.iconst 0, 1) := by decide +kernel
theorem dJ8_newLength_cabcc_9 : decode cJ8_newLength_cabcc 9 = .ok (.iload_n 3, 1) := by decide +kernel
theorem dJ8_newLength_cabcc_10 : decode cJ8_newLength_cabcc 10 = .ok (.if_icmp .ge 11, 3) := by decide +kernel
theorem dJ8_newLength_cabcc_13 : decode cJ8_newLength_cabcc 13 = .ok (.iload_n 3, 1) := by decide +kernel
theorem dJ8_newLength_cabcc_14 : decode cJ8_newLength_cabcc 14 = .ok (.ldc 200, 2) := by decide +kernel
theorem dJ8_newLength_cabcc_16 : decode cJ8_newLength_cabcc 16 = .ok (.if_icmp .gt 5, 3) := by decide +kernel
theorem dJ8_newLength_cabcc_19 : decode cJ8_newLength_cabcc 19 = .ok (.iload_n 3, 1) := by decide +kernel
theorem dJ8_newLength_cabcc_20 : decode cJ8_newLength_cabcc 20 = .ok (.ireturn, 1) := by decide +kernel
theorem dJ8_newLength_cabcc_21 : decode cJ8_newLength_cabcc 21 = .ok (.iload_n 0, 1) := by decide +kernel
theorem dJ8_newLength_cabcc_22 : decode cJ8_newLength_cabcc 22 = .ok (.iload_n 1, 1) := by decide +kernel
theorem dJ8_newLength_cabcc_23 : decode cJ8_newLength_cabcc 23 = .ok (.invokestatic 201, 3) := by decide +kernel
theorem dJ8_newLength_cabcc_26 : decode cJ8_newLength_cabcc 26 = .ok (.ireturn, 1) := by decide +kernel
theorem dJ8_hugeLength_7cf53_0 : decode cJ8_hugeLength_7cf53 0 = .ok (.iload_n 0, 1) := by decide +kernel
theorem dJ8_hugeLength_7cf53_1 : decode cJ8_hugeLength_7cf53 1 = .ok (.iload_n 1, 1) := by decide +kernel
theorem dJ8_hugeLength_7cf53_2 : decode cJ8_hugeLength_7cf53 2 = .ok (.iadd, 1) := by decide +kernel
theorem dJ8_hugeLength_7cf53_3 : decode cJ8_hugeLength_7cf53 3 = .ok (.istore_n 2, 1) := by decide +kernel
theorem dJ8_hugeLength_7cf53_4 : decode cJ8_hugeLength_7cf53 4 = .ok (.iload_n 2, 1) := by decide +kernel
theorem dJ8_hugeLength_7cf53_5 : decode cJ8_hugeLength_7cf53 5 = .ok (.ifCond .ge 44, 3) := by decide +kernel
theorem dJ8_hugeLength_7cf53_8 : decode cJ8_hugeLength_7cf53 8 = .ok (.new 204, 3) := by decide +kernel
theorem dJ8_hugeLength_7cf53_11 : decode cJ8_hugeLength_7cf53 11 = .ok (.dup, 1) := by decide +kernel
theorem dJ8_hugeLength_7cf53_12 : decode cJ8_hugeLength_7cf53 12 = .ok (.new 89, 3) := by decide +kernel
theorem dJ8_hugeLength_7cf53_15 : decode cJ8_hugeLength_7cf53 15 = .ok (.dup, 1) := by decide +kernel
theorem dJ8_hugeLength_7cf53_16 : decode cJ8_hugeLength_7cf53 16 = .ok (.invokespecial 91, 3) := by decide +kernel
theorem dJ8_hugeLength_7cf53_19 : decode cJ8_hugeLength_7cf53 19 = .ok (.ldc 206, 2) := by decide +kernel
theorem dJ8_hugeLength_7cf53_21 : decode cJ8_hugeLength_7cf53 21 = .ok (.invokevirtual 94, 3) := by decide +kernel
theorem dJ8_hugeLength_7cf53_24 : decode cJ8_hugeLength_7cf53 24 = .ok (.iload_n 0, 1) := by decide +kernel
theorem dJ8_hugeLength_7cf53_25 : decode cJ8_hugeLength_7cf53 25 = .ok (.invokevirtual 98, 3) := by decide +kernel
theorem dJ8_hugeLength_7cf53_28 : decode cJ8_hugeLength_7cf53 28 = .ok (.ldc 208, 2) := by decide +kernel
theorem dJ8_hugeLength_7cf53_30 : decode cJ8_hugeLength_7cf53 30 = .ok (.invokevirtual 94, 3) := by decide +kernel
theorem dJ8_hugeLength_7cf53_33 : decode cJ8_hugeLength_7cf53 33 = .ok (.iload_n 1, 1) := by decide +kernel
theorem dJ8_hugeLength_7cf53_34 : decode cJ8_hugeLength_7cf53 34 = .ok (.invokevirtual 98, 3) := by decide +kernel
theorem dJ8_hugeLength_7cf53_37 : decode cJ8_hugeLength_7cf53 37 = .ok (.ldc 210, 2) := by decide +kernel
theorem dJ8_hugeLength_7cf53_39 : decode cJ8_hugeLength_7cf53 39 = .ok (.invokevirtual 94, 3) := by decide +kernel
theorem dJ8_hugeLength_7cf53_42 : decode cJ8_hugeLength_7cf53 42 = .ok (.invokevirtual 101, 3) := by decide +kernel
theorem dJ8_hugeLength_7cf53_45 : decode cJ8_hugeLength_7cf53 45 = .ok (.invokespecial 212, 3) := by decide +kernel
theorem dJ8_hugeLength_7cf53_48 : decode cJ8_hugeLength_7cf53 48 = .ok (.athrow, 1) := by decide +kernel
theorem dJ8_hugeLength_7cf53_49 : decode cJ8_hugeLength_7cf53 49 = .ok (.iload_n 2, 1) := by decide +kernel
theorem dJ8_hugeLength_7cf53_50 : decode cJ8_hugeLength_7cf53 50 = .ok (.ldc 200, 2) := by decide +kernel
theorem dJ8_hugeLength_7cf53_52 : decode cJ8_hugeLength_7cf53 52 = .ok (.if_icmp .gt 6, 3) := by decide +kernel
theorem dJ8_hugeLength_7cf53_55 : decode cJ8_hugeLength_7cf53 55 = .ok (.ldc 200, 2) := by decide +kernel
theorem dJ8_hugeLength_7cf53_57 : decode cJ8_hugeLength_7cf53 57 = .ok (.ireturn, 1) := by decide +kernel
theorem dJ8_hugeLength_7cf53_58 : decode cJ8_hugeLength_7cf53 58 = .ok (.iload_n 2, 1) := by decide +kernel
theorem dJ8_hugeLength_7cf53_59 : decode cJ8_hugeLength_7cf53 59 = .ok (.ireturn, 1) := by decide +kernel
theorem dJ3_checkIndex_8e157_0 : decode cJ3_checkIndex_8e157 0 = .ok (.iload_n 0, 1) := by decide +kernel
theorem dJ3_checkIndex_8e157_1 : decode cJ3_checkIndex_8e157 1 = .ok (.ifCond .lt 8, 3) := by decide +kernel
theorem dJ3_checkIndex_8e157_4 : decode cJ3_checkIndex_8e157 4 = .ok (.iload_n 0, 1) := by decide +kernel
theorem dJ3_checkIndex_8e157_5 : decode cJ3_checkIndex_8e157 5 = .ok (.iload_n 1, 1) := by decide +kernel
theorem dJ3_checkIndex_8e157_6 : decode cJ3_checkIndex_8e157 6 = .ok (.if_icmp .lt 10, 3) := by decide +kernel
theorem dJ3_checkIndex_8e157_9 : decode cJ3_checkIndex_8e157 9 = .ok (.aload_n 2, 1) := by decide +kernel
theorem dJ3_checkIndex_8e157_10 : decode cJ3_checkIndex_8e157 10 = .ok (.iload_n 0, 1) := by decide +kernel
theorem dJ3_checkIndex_8e157_11 : decode cJ3_checkIndex_8e157 11 = .ok (.iload_n 1, 1) := by decide +kernel
theorem dJ3_checkIndex_8e157_12 : decode cJ3_checkIndex_8e157 12 = .ok (.invokestatic 95, 3) := by decide +kernel
theorem dJ3_checkIndex_8e157_15 : decode cJ3_checkIndex_8e157 15 = .ok (.athrow, 1) := by decide +kernel
theorem dJ3_checkIndex_8e157_16 : decode cJ3_checkIndex_8e157 16 = .ok (.iload_n 0, 1) := by decide +kernel
theorem dJ3_checkIndex_8e157_17 : decode cJ3_checkIndex_8e157 17 = .ok (.ireturn, 1) := by decide +kernel
end
section
/-! decode rows -/
theorem dL_put_0 : decode cL_put 0 = .ok (.aload_n 3, 1) := by decide +kernel
theorem dL_put_1 : decode cL_put 1 = .ok (.iconst 0, 1) := by decide +kernel
theorem dL_put_2 : decode cL_put 2 = .ok (.aload_n 0, 1) := by decide +kernel
theorem dL_put_3 : decode cL_put 3 = .ok (.iload_n 1, 1) := by decide +kernel
theorem dL_put_4 : decode cL_put 4 = .ok (.iload_n 2, 1) := by decide +kernel
theorem dL_put_5 : decode cL_put 5 = .ok (.invokevirtual 7, 3) := by decide +kernel
theorem dL_put_8 : decode cL_put 8 = .ok (.i2l, 1) := by decide +kernel
theorem dL_put_9 : decode cL_put 9 = .ok (.lastore, 1) := by decide +kernel
theorem dL_put_10 : decode cL_put 10 = .ok (.goto 7, 3) := by decide +kernel
theorem dL_put_13 : decode cL_put 13 = .ok (.astore 4, 2) := by decide +kernel
theorem dL_put_15 : decode cL_put 15 = .ok (.iconst 1, 1) := by decide +kernel
theorem dL_put_16 : decode cL_put 16 = .ok (.ireturn, 1) := by decide +kernel
theorem dL_put_17 : decode cL_put 17 = .ok (.iconst 0, 1) := by decide +kernel
theorem dL_put_18 : decode cL_put 18 = .ok (.ireturn, 1) := by decide +kernel
theorem dL_take_0 : decode cL_take 0 = .ok (.aload_n 2, 1) := by decide +kernel
theorem dL_take_1 : decode cL_take 1 = .ok (.iconst 0, 1) := by decide +kernel
theorem dL_take_2 : decode cL_take 2 = .ok (.aload_n 0, 1) := by decide +kernel
theorem dL_take_3 : decode cL_take 3 = .ok (.iload_n 1, 1) := by decide +kernel
theorem dL_take_4 : decode cL_take 4 = .ok (.invokevirtual 15, 3) := by decide +kernel
theorem dL_take_7 : decode cL_take 7 = .ok (.i2l, 1) := by decide +kernel
theorem dL_take_8 : decode cL_take 8 = .ok (.lastore, 1) := by decide +kernel
theorem dL_take_9 : decode cL_take 9 = .ok (.goto 6, 3) := by decide +kernel
theorem dL_take_12 : decode cL_take 12 = .ok (.astore_n 3, 1) := by decide +kernel
theorem dL_take_13 : decode cL_take 13 = .ok (.iconst 1, 1) := by decide +kernel
theorem dL_take_14 : decode cL_take 14 = .ok (.ireturn, 1) := by decide +kernel
theorem dL_take_15 : decode cL_take 15 = .ok (.iconst 0, 1) := by decide +kernel
theorem dL_take_16 : decode cL_take 16 = .ok (.ireturn, 1) := by decide +kernel
theorem dL_get_0 : decode cL_get 0 = .ok (.aload_n 2, 1) := by decide +kernel
theorem dL_get_1 : decode cL_get 1 = .ok (.iconst 0, 1) := by decide +kernel
theorem dL_get_2 : decode cL_get 2 = .ok (.aload_n 0, 1) := by decide +kernel
theorem dL_get_3 : decode cL_get 3 = .ok (.iload_n 1, 1) := by decide +kernel
theorem dL_get_4 : decode cL_get 4 = .ok (.invokevirtual 19, 3) := by decide +kernel
theorem dL_get_7 : decode cL_get 7 = .ok (.i2l, 1) := by decide +kernel
theorem dL_get_8 : decode cL_get 8 = .ok (.lastore, 1) := by decide +kernel
theorem dL_get_9 : decode cL_get 9 = .ok (.goto 6, 3) := by decide +kernel
theorem dL_get_12 : decode cL_get 12 = .ok (.astore_n 3, 1) := by decide +kernel
theorem dL_get_13 : decode cL_get 13 = .ok (.iconst 1, 1) := by decide +kernel
theorem dL_get_14 : decode cL_get 14 = .ok (.ireturn, 1) := by decide +kernel
theorem dL_get_15 : decode cL_get 15 = .ok (.iconst 0, 1) := by decide +kernel
theorem dL_get_16 : decode cL_get 16 = .ok (.ireturn, 1) := by decide +kernel
theorem dL_getByLeaves_0 : decode cL_getByLeaves 0 = .ok (.aload_n 2, 1) := by decide +kernel
theorem dL_getByLeaves_1 : decode cL_getByLeaves 1 = .ok (.iconst 0, 1) := by decide +kernel
theorem dL_getByLeaves_2 : decode cL_getByLeaves 2 = .ok (.aload_n 0, 1) := by decide +kernel
theorem dL_getByLeaves_3 : decode cL_getByLeaves 3 = .ok (.iload_n 1, 1) := by decide +kernel
theorem dL_getByLeaves_4 : decode cL_getByLeaves 4 = .ok (.invokevirtual 22, 3) := by decide +kernel
theorem dL_getByLeaves_7 : decode cL_getByLeaves 7 = .ok (.i2l, 1) := by decide +kernel
theorem dL_getByLeaves_8 : decode cL_getByLeaves 8 = .ok (.lastore, 1) := by decide +kernel
theorem dL_getByLeaves_9 : decode cL_getByLeaves 9 = .ok (.goto 6, 3) := by decide +kernel
theorem dL_getByLeaves_12 : decode cL_getByLeaves 12 = .ok (.astore_n 3, 1) := by decide +kernel
theorem dL_getByLeaves_13 : decode cL_getByLeaves 13 = .ok (.iconst 1, 1) := by decide +kernel
theorem dL_getByLeaves_14 : decode cL_getByLeaves 14 = .ok (.ireturn, 1) := by decide +kernel
theorem dL_getByLeaves_15 : decode cL_getByLeaves 15 = .ok (.iconst 0, 1) := by decide +kernel
theorem dL_getByLeaves_16 : decode cL_getByLeaves 16 = .ok (.ireturn, 1) := by decide +kernel
theorem dL_post_0 : decode cL_post 0 = .ok (.aload_n 1, 1) := by decide +kernel
theorem dL_post_1 : decode cL_post 1 = .ok (.iconst 0, 1) := by decide +kernel
theorem dL_post_2 : decode cL_post 2 = .ok (.aload_n 0, 1) := by decide +kernel
theorem dL_post_3 : decode cL_post 3 = .ok (.invokevirtual 25, 3) := by decide +kernel
theorem dL_post_6 : decode cL_post 6 = .ok (.i2l, 1) := by decide +kernel
theorem dL_post_7 : decode cL_post 7 = .ok (.lastore, 1) := by decide +kernel
theorem dL_post_8 : decode cL_post 8 = .ok (.goto 6, 3) := by decide +kernel
theorem dL_post_11 : decode cL_post 11 = .ok (.astore_n 2, 1) := by decide +kernel
theorem dL_post_12 : decode cL_post 12 = .ok (.iconst 1, 1) := by decide +kernel
theorem dL_post_13 : decode cL_post 13 = .ok (.ireturn, 1) := by decide +kernel
theorem dL_post_14 : decode cL_post 14 = .ok (.iconst 0, 1) := by decide +kernel
theorem dL_post_15 : decode cL_post 15 = .ok (.ireturn, 1) := by decide +kernel
theorem dL_level_0 : decode cL_level 0 = .ok (.aload_n 2, 1) := by decide +kernel
theorem dL_level_1 : decode cL_level 1 = .ok (.iconst 0, 1) := by decide +kernel
theorem dL_level_2 : decode cL_level 2 = .ok (.aload_n 0, 1) := by decide +kernel
theorem dL_level_3 : decode cL_level 3 = .ok (.iload_n 1, 1) := by decide +kernel
theorem dL_level_4 : decode cL_level 4 = .ok (.invokevirtual 31, 3) := by decide +kernel
theorem dL_level_7 : decode cL_level 7 = .ok (.i2l, 1) := by decide +kernel
theorem dL_level_8 : decode cL_level 8 = .ok (.lastore, 1) := by decide +kernel
theorem dL_level_9 : decode cL_level 9 = .ok (.goto 6, 3) := by decide +kernel
theorem dL_level_12 : decode cL_level 12 = .ok (.astore_n 3, 1) := by decide +kernel
theorem dL_level_13 : decode cL_level 13 = .ok (.iconst 1, 1) := by decide +kernel
theorem dL_level_14 : decode cL_level 14 = .ok (.ireturn, 1) := by decide +kernel
theorem dL_level_15 : decode cL_level 15 = .ok (.iconst 0, 1) := by decide +kernel
theorem dL_level_16 : decode cL_level 16 = .ok (.ireturn, 1) := by decide +kernel
theorem dL_size_0 : decode cL_size 0 = .ok (.aload_n 2, 1) := by decide +kernel
theorem dL_size_1 : decode cL_size 1 = .ok (.iconst 0, 1) := by decide +kernel
theorem dL_size_2 : decode cL_size 2 = .ok (.aload_n 0, 1) := by decide +kernel
theorem dL_size_3 : decode cL_size 3 = .ok (.iload_n 1, 1) := by decide +kernel
theorem dL_size_4 : decode cL_size 4 = .ok (.invokevirtual 36, 3) := by decide +kernel
theorem dL_size_7 : decode cL_size 7 = .ok (.i2l, 1) := by decide +kernel
theorem dL_size_8 : decode cL_size 8 = .ok (.lastore, 1) := by decide +kernel
theorem dL_size_9 : decode cL_size 9 = .ok (.goto 6, 3) := by decide +kernel
theorem dL_size_12 : decode cL_size 12 = .ok (.astore_n 3, 1) := by decide +kernel
theorem dL_size_13 : decode cL_size 13 = .ok (.iconst 1, 1) := by decide +kernel
theorem dL_size_14 : decode cL_size 14 = .ok (.ireturn, 1) := by decide +kernel
theorem dL_size_15 : decode cL_size 15 = .ok (.iconst 0, 1) := by decide +kernel
theorem dL_size_16 : decode cL_size 16 = .ok (.ireturn, 1) := by decide +kernel
theorem dL_keyAt_0 : decode cL_keyAt 0 = .ok (.aload_n 3, 1) := by decide +kernel
theorem dL_keyAt_1 : decode cL_keyAt 1 = .ok (.iconst 0, 1) := by decide +kernel
theorem dL_keyAt_2 : decode cL_keyAt 2 = .ok (.aload_n 0, 1) := by decide +kernel
theorem dL_keyAt_3 : decode cL_keyAt 3 = .ok (.iload_n 1, 1) := by decide +kernel
theorem dL_keyAt_4 : decode cL_keyAt 4 = .ok (.iload_n 2, 1) := by decide +kernel
theorem dL_keyAt_5 : decode cL_keyAt 5 = .ok (.invokevirtual 39, 3) := by decide +kernel
theorem dL_keyAt_8 : decode cL_keyAt 8 = .ok (.i2l, 1) := by decide +kernel
theorem dL_keyAt_9 : decode cL_keyAt 9 = .ok (.lastore, 1) := by decide +kernel
theorem dL_keyAt_10 : decode cL_keyAt 10 = .ok (.goto 7, 3) := by decide +kernel
theorem dL_keyAt_13 : decode cL_keyAt 13 = .ok (.astore 4, 2) := by decide +kernel
theorem dL_keyAt_15 : decode cL_keyAt 15 = .ok (.iconst 1, 1) := by decide +kernel
theorem dL_keyAt_16 : decode cL_keyAt 16 = .ok (.ireturn, 1) := by decide +kernel
theorem dL_keyAt_17 : decode cL_keyAt 17 = .ok (.iconst 0, 1) := by decide +kernel
theorem dL_keyAt_18 : decode cL_keyAt 18 = .ok (.ireturn, 1) := by decide +kernel
theorem dL_below_0 : decode cL_below 0 = .ok (.aload_n 3, 1) := by decide +kernel
theorem dL_below_1 : decode cL_below 1 = .ok (.iconst 0, 1) := by decide +kernel
theorem dL_below_2 : decode cL_below 2 = .ok (.aload_n 0, 1) := by decide +kernel
theorem dL_below_3 : decode cL_below 3 = .ok (.iload_n 1, 1) := by decide +kernel
theorem dL_below_4 : decode cL_below 4 = .ok (.iload_n 2, 1) := by decide +kernel
theorem dL_below_5 : decode cL_below 5 = .ok (.invokevirtual 42, 3) := by decide +kernel
theorem dL_below_8 : decode cL_below 8 = .ok (.i2l, 1) := by decide +kernel
theorem dL_below_9 : decode cL_below 9 = .ok (.lastore, 1) := by decide +kernel
theorem dL_below_10 : decode cL_below 10 = .ok (.goto 7, 3) := by decide +kernel
theorem dL_below_13 : decode cL_below 13 = .ok (.astore 4, 2) := by decide +kernel
theorem dL_below_15 : decode cL_below 15 = .ok (.iconst 1, 1) := by decide +kernel
theorem dL_below_16 : decode cL_below 16 = .ok (.ireturn, 1) := by decide +kernel
theorem dL_below_17 : decode cL_below 17 = .ok (.iconst 0, 1) := by decide +kernel
theorem dL_below_18 : decode cL_below 18 = .ok (.ireturn, 1) := by decide +kernel
theorem dL_high_0 : decode cL_high 0 = .ok (.aload_n 2, 1) := by decide +kernel
theorem dL_high_1 : decode cL_high 1 = .ok (.iconst 0, 1) := by decide +kernel
theorem dL_high_2 : decode cL_high 2 = .ok (.aload_n 0, 1) := by decide +kernel
theorem dL_high_3 : decode cL_high 3 = .ok (.iload_n 1, 1) := by decide +kernel
theorem dL_high_4 : decode cL_high 4 = .ok (.invokevirtual 45, 3) := by decide +kernel
theorem dL_high_7 : decode cL_high 7 = .ok (.i2l, 1) := by decide +kernel
theorem dL_high_8 : decode cL_high 8 = .ok (.lastore, 1) := by decide +kernel
theorem dL_high_9 : decode cL_high 9 = .ok (.goto 6, 3) := by decide +kernel
theorem dL_high_12 : decode cL_high 12 = .ok (.astore_n 3, 1) := by decide +kernel
theorem dL_high_13 : decode cL_high 13 = .ok (.iconst 1, 1) := by decide +kernel
theorem dL_high_14 : decode cL_high 14 = .ok (.ireturn, 1) := by decide +kernel
theorem dL_high_15 : decode cL_high 15 = .ok (.iconst 0, 1) := by decide +kernel
theorem dL_high_16 : decode cL_high 16 = .ok (.ireturn, 1) := by decide +kernel
theorem dL_right_0 : decode cL_right 0 = .ok (.aload_n 2, 1) := by decide +kernel
theorem dL_right_1 : decode cL_right 1 = .ok (.iconst 0, 1) := by decide +kernel
theorem dL_right_2 : decode cL_right 2 = .ok (.aload_n 0, 1) := by decide +kernel
theorem dL_right_3 : decode cL_right 3 = .ok (.iload_n 1, 1) := by decide +kernel
theorem dL_right_4 : decode cL_right 4 = .ok (.invokevirtual 48, 3) := by decide +kernel
theorem dL_right_7 : decode cL_right 7 = .ok (.i2l, 1) := by decide +kernel
theorem dL_right_8 : decode cL_right 8 = .ok (.lastore, 1) := by decide +kernel
theorem dL_right_9 : decode cL_right 9 = .ok (.goto 6, 3) := by decide +kernel
theorem dL_right_12 : decode cL_right 12 = .ok (.astore_n 3, 1) := by decide +kernel
theorem dL_right_13 : decode cL_right 13 = .ok (.iconst 1, 1) := by decide +kernel
theorem dL_right_14 : decode cL_right 14 = .ok (.ireturn, 1) := by decide +kernel
theorem dL_right_15 : decode cL_right 15 = .ok (.iconst 0, 1) := by decide +kernel
theorem dL_right_16 : decode cL_right 16 = .ok (.ireturn, 1) := by decide +kernel
theorem dL_links_0 : decode cL_links 0 = .ok (.aload_n 2, 1) := by decide +kernel
theorem dL_links_1 : decode cL_links 1 = .ok (.iconst 0, 1) := by decide +kernel
theorem dL_links_2 : decode cL_links 2 = .ok (.aload_n 0, 1) := by decide +kernel
theorem dL_links_3 : decode cL_links 3 = .ok (.iload_n 1, 1) := by decide +kernel
theorem dL_links_4 : decode cL_links 4 = .ok (.invokevirtual 51, 3) := by decide +kernel
theorem dL_links_7 : decode cL_links 7 = .ok (.i2l, 1) := by decide +kernel
theorem dL_links_8 : decode cL_links 8 = .ok (.lastore, 1) := by decide +kernel
theorem dL_links_9 : decode cL_links 9 = .ok (.goto 6, 3) := by decide +kernel
theorem dL_links_12 : decode cL_links 12 = .ok (.astore_n 3, 1) := by decide +kernel
theorem dL_links_13 : decode cL_links 13 = .ok (.iconst 1, 1) := by decide +kernel
theorem dL_links_14 : decode cL_links 14 = .ok (.ireturn, 1) := by decide +kernel
theorem dL_links_15 : decode cL_links 15 = .ok (.iconst 0, 1) := by decide +kernel
theorem dL_links_16 : decode cL_links 16 = .ok (.ireturn, 1) := by decide +kernel
theorem dL_open_0 : decode cL_open 0 = .ok (.aload_n 2, 1) := by decide +kernel
theorem dL_open_1 : decode cL_open 1 = .ok (.iconst 0, 1) := by decide +kernel
theorem dL_open_2 : decode cL_open 2 = .ok (.aload_n 0, 1) := by decide +kernel
theorem dL_open_3 : decode cL_open 3 = .ok (.iload_n 1, 1) := by decide +kernel
theorem dL_open_4 : decode cL_open 4 = .ok (.invokevirtual 54, 3) := by decide +kernel
theorem dL_open_7 : decode cL_open 7 = .ok (.i2l, 1) := by decide +kernel
theorem dL_open_8 : decode cL_open 8 = .ok (.lastore, 1) := by decide +kernel
theorem dL_open_9 : decode cL_open 9 = .ok (.goto 9, 3) := by decide +kernel
theorem dL_open_12 : decode cL_open 12 = .ok (.astore_n 3, 1) := by decide +kernel
theorem dL_open_13 : decode cL_open 13 = .ok (.iconst 1, 1) := by decide +kernel
theorem dL_open_14 : decode cL_open 14 = .ok (.ireturn, 1) := by decide +kernel
theorem dL_open_15 : decode cL_open 15 = .ok (.astore_n 3, 1) := by decide +kernel
theorem dL_open_16 : decode cL_open 16 = .ok (.iconst 2, 1) := by decide +kernel
theorem dL_open_17 : decode cL_open 17 = .ok (.ireturn, 1) := by decide +kernel
theorem dL_open_18 : decode cL_open 18 = .ok (.iconst 0, 1) := by decide +kernel
theorem dL_open_19 : decode cL_open 19 = .ok (.ireturn, 1) := by decide +kernel
theorem dL_next_0 : decode cL_next 0 = .ok (.aload_n 2, 1) := by decide +kernel
theorem dL_next_1 : decode cL_next 1 = .ok (.iconst 0, 1) := by decide +kernel
theorem dL_next_2 : decode cL_next 2 = .ok (.aload_n 0, 1) := by decide +kernel
theorem dL_next_3 : decode cL_next 3 = .ok (.iload_n 1, 1) := by decide +kernel
theorem dL_next_4 : decode cL_next 4 = .ok (.invokevirtual 57, 3) := by decide +kernel
theorem dL_next_7 : decode cL_next 7 = .ok (.i2l, 1) := by decide +kernel
theorem dL_next_8 : decode cL_next 8 = .ok (.lastore, 1) := by decide +kernel
theorem dL_next_9 : decode cL_next 9 = .ok (.goto 6, 3) := by decide +kernel
theorem dL_next_12 : decode cL_next 12 = .ok (.astore_n 3, 1) := by decide +kernel
theorem dL_next_13 : decode cL_next 13 = .ok (.iconst 1, 1) := by decide +kernel
theorem dL_next_14 : decode cL_next 14 = .ok (.ireturn, 1) := by decide +kernel
theorem dL_next_15 : decode cL_next 15 = .ok (.iconst 0, 1) := by decide +kernel
theorem dL_next_16 : decode cL_next 16 = .ok (.ireturn, 1) := by decide +kernel
theorem dL_leafOf_0 : decode cL_leafOf 0 = .ok (.aload_n 2, 1) := by decide +kernel
theorem dL_leafOf_1 : decode cL_leafOf 1 = .ok (.iconst 0, 1) := by decide +kernel
theorem dL_leafOf_2 : decode cL_leafOf 2 = .ok (.aload_n 0, 1) := by decide +kernel
theorem dL_leafOf_3 : decode cL_leafOf 3 = .ok (.iload_n 1, 1) := by decide +kernel
theorem dL_leafOf_4 : decode cL_leafOf 4 = .ok (.invokevirtual 60, 3) := by decide +kernel
theorem dL_leafOf_7 : decode cL_leafOf 7 = .ok (.i2l, 1) := by decide +kernel
theorem dL_leafOf_8 : decode cL_leafOf 8 = .ok (.lastore, 1) := by decide +kernel
theorem dL_leafOf_9 : decode cL_leafOf 9 = .ok (.goto 6, 3) := by decide +kernel
theorem dL_leafOf_12 : decode cL_leafOf 12 = .ok (.astore_n 3, 1) := by decide +kernel
theorem dL_leafOf_13 : decode cL_leafOf 13 = .ok (.iconst 1, 1) := by decide +kernel
theorem dL_leafOf_14 : decode cL_leafOf 14 = .ok (.ireturn, 1) := by decide +kernel
theorem dL_leafOf_15 : decode cL_leafOf 15 = .ok (.iconst 0, 1) := by decide +kernel
theorem dL_leafOf_16 : decode cL_leafOf 16 = .ok (.ireturn, 1) := by decide +kernel
theorem dL_close_0 : decode cL_close 0 = .ok (.aload_n 2, 1) := by decide +kernel
theorem dL_close_1 : decode cL_close 1 = .ok (.iconst 0, 1) := by decide +kernel
theorem dL_close_2 : decode cL_close 2 = .ok (.aload_n 0, 1) := by decide +kernel
theorem dL_close_3 : decode cL_close 3 = .ok (.iload_n 1, 1) := by decide +kernel
theorem dL_close_4 : decode cL_close 4 = .ok (.invokevirtual 63, 3) := by decide +kernel
theorem dL_close_7 : decode cL_close 7 = .ok (.i2l, 1) := by decide +kernel
theorem dL_close_8 : decode cL_close 8 = .ok (.lastore, 1) := by decide +kernel
theorem dL_close_9 : decode cL_close 9 = .ok (.goto 6, 3) := by decide +kernel
theorem dL_close_12 : decode cL_close 12 = .ok (.astore_n 3, 1) := by decide +kernel
theorem dL_close_13 : decode cL_close 13 = .ok (.iconst 1, 1) := by decide +kernel
theorem dL_close_14 : decode cL_close 14 = .ok (.ireturn, 1) := by decide +kernel
theorem dL_close_15 : decode cL_close 15 = .ok (.iconst 0, 1) := by decide +kernel
theorem dL_close_16 : decode cL_close 16 = .ok (.ireturn, 1) := by decide +kernel
theorem dL_law_0 : decode cL_law 0 = .ok (.new 8, 3) := by decide +kernel
theorem dL_law_3 : decode cL_law 3 = .ok (.dup, 1) := by decide +kernel
theorem dL_law_4 : decode cL_law 4 = .ok (.invokespecial 66, 3) := by decide +kernel
theorem dL_law_7 : decode cL_law 7 = .ok (.astore_n 1, 1) := by decide +kernel
theorem dL_law_8 : decode cL_law 8 = .ok (.new 67, 3) := by decide +kernel
theorem dL_law_11 : decode cL_law 11 = .ok (.dup, 1) := by decide +kernel
theorem dL_law_12 : decode cL_law 12 = .ok (.invokespecial 69, 3) := by decide +kernel
theorem dL_law_15 : decode cL_law 15 = .ok (.astore_n 2, 1) := by decide +kernel
theorem dL_law_16 : decode cL_law 16 = .ok (.iconst 1, 1) := by decide +kernel
theorem dL_law_17 : decode cL_law 17 = .ok (.newarray .long, 2) := by decide +kernel
theorem dL_law_19 : decode cL_law 19 = .ok (.astore_n 3, 1) := by decide +kernel
theorem dL_law_20 : decode cL_law 20 = .ok (.iconst 0, 1) := by decide +kernel
theorem dL_law_21 : decode cL_law 21 = .ok (.istore 4, 2) := by decide +kernel
theorem dL_law_23 : decode cL_law 23 = .ok (.iload 4, 2) := by decide +kernel
theorem dL_law_25 : decode cL_law 25 = .ok (.aload_n 0, 1) := by decide +kernel
theorem dL_law_26 : decode cL_law 26 = .ok (.arraylength, 1) := by decide +kernel
theorem dL_law_27 : decode cL_law 27 = .ok (.iconst 3, 1) := by decide +kernel
theorem dL_law_28 : decode cL_law 28 = .ok (.isub, 1) := by decide +kernel
theorem dL_law_29 : decode cL_law 29 = .ok (.if_icmp .gt 1166, 3) := by decide +kernel
theorem dL_law_32 : decode cL_law 32 = .ok (.aload_n 0, 1) := by decide +kernel
theorem dL_law_33 : decode cL_law 33 = .ok (.iload 4, 2) := by decide +kernel
theorem dL_law_35 : decode cL_law 35 = .ok (.iaload, 1) := by decide +kernel
theorem dL_law_36 : decode cL_law 36 = .ok (.bipush 31, 2) := by decide +kernel
theorem dL_law_38 : decode cL_law 38 = .ok (.iand, 1) := by decide +kernel
theorem dL_law_39 : decode cL_law 39 = .ok (.tableswitch 1150 0 24 #[113, 181, 237, 293, 349, 362, 375, 419, 432, 445, 458, 471, 484, 497, 510, 566, 622, 690, 758, 814, 870, 926, 982, 1038, 1094], 113) := by decide +kernel
theorem dL_law_152 : decode cL_law 152 = .ok (.aload_n 1, 1) := by decide +kernel
theorem dL_law_153 : decode cL_law 153 = .ok (.aload_n 0, 1) := by decide +kernel
theorem dL_law_154 : decode cL_law 154 = .ok (.iload 4, 2) := by decide +kernel
theorem dL_law_156 : decode cL_law 156 = .ok (.iconst 1, 1) := by decide +kernel
theorem dL_law_157 : decode cL_law 157 = .ok (.iadd, 1) := by decide +kernel
theorem dL_law_158 : decode cL_law 158 = .ok (.iaload, 1) := by decide +kernel
theorem dL_law_159 : decode cL_law 159 = .ok (.aload_n 0, 1) := by decide +kernel
theorem dL_law_160 : decode cL_law 160 = .ok (.iload 4, 2) := by decide +kernel
theorem dL_law_162 : decode cL_law 162 = .ok (.iconst 2, 1) := by decide +kernel
theorem dL_law_163 : decode cL_law 163 = .ok (.iadd, 1) := by decide +kernel
theorem dL_law_164 : decode cL_law 164 = .ok (.iaload, 1) := by decide +kernel
theorem dL_law_165 : decode cL_law 165 = .ok (.aload_n 3, 1) := by decide +kernel
theorem dL_law_166 : decode cL_law 166 = .ok (.invokestatic 70, 3) := by decide +kernel
theorem dL_law_169 : decode cL_law 169 = .ok (.istore 5, 2) := by decide +kernel
theorem dL_law_171 : decode cL_law 171 = .ok (.aload_n 2, 1) := by decide +kernel
theorem dL_law_172 : decode cL_law 172 = .ok (.aload_n 0, 1) := by decide +kernel
theorem dL_law_173 : decode cL_law 173 = .ok (.iload 4, 2) := by decide +kernel
theorem dL_law_175 : decode cL_law 175 = .ok (.iconst 1, 1) := by decide +kernel
theorem dL_law_176 : decode cL_law 176 = .ok (.iadd, 1) := by decide +kernel
theorem dL_law_177 : decode cL_law 177 = .ok (.iaload, 1) := by decide +kernel
theorem dL_law_178 : decode cL_law 178 = .ok (.aload_n 0, 1) := by decide +kernel
theorem dL_law_179 : decode cL_law 179 = .ok (.iload 4, 2) := by decide +kernel
theorem dL_law_181 : decode cL_law 181 = .ok (.iconst 2, 1) := by decide +kernel
theorem dL_law_182 : decode cL_law 182 = .ok (.iadd, 1) := by decide +kernel
theorem dL_law_183 : decode cL_law 183 = .ok (.iaload, 1) := by decide +kernel
theorem dL_law_184 : decode cL_law 184 = .ok (.invokevirtual 75, 3) := by decide +kernel
theorem dL_law_187 : decode cL_law 187 = .ok (.istore 6, 2) := by decide +kernel
theorem dL_law_189 : decode cL_law 189 = .ok (.aload_n 2, 1) := by decide +kernel
theorem dL_law_190 : decode cL_law 190 = .ok (.invokevirtual 76, 3) := by decide +kernel
theorem dL_law_193 : decode cL_law 193 = .ok (.iload 5, 2) := by decide +kernel
theorem dL_law_195 : decode cL_law 195 = .ok (.if_icmp .eq 5, 3) := by decide +kernel
theorem dL_law_198 : decode cL_law 198 = .ok (.iconst 0, 1) := by decide +kernel
theorem dL_law_199 : decode cL_law 199 = .ok (.ireturn, 1) := by decide +kernel
theorem dL_law_200 : decode cL_law 200 = .ok (.iload 5, 2) := by decide +kernel
theorem dL_law_202 : decode cL_law 202 = .ok (.ifCond .ne 15, 3) := by decide +kernel
theorem dL_law_205 : decode cL_law 205 = .ok (.aload_n 3, 1) := by decide +kernel
theorem dL_law_206 : decode cL_law 206 = .ok (.iconst 0, 1) := by decide +kernel
theorem dL_law_207 : decode cL_law 207 = .ok (.laload, 1) := by decide +kernel
theorem dL_law_208 : decode cL_law 208 = .ok (.iload 6, 2) := by decide +kernel
theorem dL_law_210 : decode cL_law 210 = .ok (.i2l, 1) := by decide +kernel
theorem dL_law_211 : decode cL_law 211 = .ok (.lcmp, 1) := by decide +kernel
theorem dL_law_212 : decode cL_law 212 = .ok (.ifCond .eq 5, 3) := by decide +kernel
theorem dL_law_215 : decode cL_law 215 = .ok (.iconst 0, 1) := by decide +kernel
theorem dL_law_216 : decode cL_law 216 = .ok (.ireturn, 1) := by decide +kernel
theorem dL_law_217 : decode cL_law 217 = .ok (.goto 972, 3) := by decide +kernel
theorem dL_law_220 : decode cL_law 220 = .ok (.aload_n 1, 1) := by decide +kernel
theorem dL_law_221 : decode cL_law 221 = .ok (.aload_n 0, 1) := by decide +kernel
theorem dL_law_222 : decode cL_law 222 = .ok (.iload 4, 2) := by decide +kernel
theorem dL_law_224 : decode cL_law 224 = .ok (.iconst 1, 1) := by decide +kernel
theorem dL_law_225 : decode cL_law 225 = .ok (.iadd, 1) := by decide +kernel
theorem dL_law_226 : decode cL_law 226 = .ok (.iaload, 1) := by decide +kernel
theorem dL_law_227 : decode cL_law 227 = .ok (.aload_n 3, 1) := by decide +kernel
theorem dL_law_228 : decode cL_law 228 = .ok (.invokestatic 79, 3) := by decide +kernel
theorem dL_law_231 : decode cL_law 231 = .ok (.istore 5, 2) := by decide +kernel
theorem dL_law_233 : decode cL_law 233 = .ok (.aload_n 2, 1) := by decide +kernel
theorem dL_law_234 : decode cL_law 234 = .ok (.aload_n 0, 1) := by decide +kernel
theorem dL_law_235 : decode cL_law 235 = .ok (.iload 4, 2) := by decide +kernel
theorem dL_law_237 : decode cL_law 237 = .ok (.iconst 1, 1) := by decide +kernel
theorem dL_law_238 : decode cL_law 238 = .ok (.iadd, 1) := by decide +kernel
theorem dL_law_239 : decode cL_law 239 = .ok (.iaload, 1) := by decide +kernel
theorem dL_law_240 : decode cL_law 240 = .ok (.invokevirtual 82, 3) := by decide +kernel
theorem dL_law_243 : decode cL_law 243 = .ok (.istore 6, 2) := by decide +kernel
theorem dL_law_245 : decode cL_law 245 = .ok (.aload_n 2, 1) := by decide +kernel
theorem dL_law_246 : decode cL_law 246 = .ok (.invokevirtual 76, 3) := by decide +kernel
theorem dL_law_249 : decode cL_law 249 = .ok (.iload 5, 2) := by decide +kernel
theorem dL_law_251 : decode cL_law 251 = .ok (.if_icmp .eq 5, 3) := by decide +kernel
theorem dL_law_254 : decode cL_law 254 = .ok (.iconst 0, 1) := by decide +kernel
theorem dL_law_255 : decode cL_law 255 = .ok (.ireturn, 1) := by decide +kernel
theorem dL_law_256 : decode cL_law 256 = .ok (.iload 5, 2) := by decide +kernel
theorem dL_law_258 : decode cL_law 258 = .ok (.ifCond .ne 15, 3) := by decide +kernel
theorem dL_law_261 : decode cL_law 261 = .ok (.aload_n 3, 1) := by decide +kernel
theorem dL_law_262 : decode cL_law 262 = .ok (.iconst 0, 1) := by decide +kernel
theorem dL_law_263 : decode cL_law 263 = .ok (.laload, 1) := by decide +kernel
theorem dL_law_264 : decode cL_law 264 = .ok (.iload 6, 2) := by decide +kernel
theorem dL_law_266 : decode cL_law 266 = .ok (.i2l, 1) := by decide +kernel
theorem dL_law_267 : decode cL_law 267 = .ok (.lcmp, 1) := by decide +kernel
theorem dL_law_268 : decode cL_law 268 = .ok (.ifCond .eq 5, 3) := by decide +kernel
theorem dL_law_271 : decode cL_law 271 = .ok (.iconst 0, 1) := by decide +kernel
theorem dL_law_272 : decode cL_law 272 = .ok (.ireturn, 1) := by decide +kernel
theorem dL_law_273 : decode cL_law 273 = .ok (.goto 916, 3) := by decide +kernel
theorem dL_law_276 : decode cL_law 276 = .ok (.aload_n 1, 1) := by decide +kernel
theorem dL_law_277 : decode cL_law 277 = .ok (.aload_n 0, 1) := by decide +kernel
theorem dL_law_278 : decode cL_law 278 = .ok (.iload 4, 2) := by decide +kernel
theorem dL_law_280 : decode cL_law 280 = .ok (.iconst 1, 1) := by decide +kernel
theorem dL_law_281 : decode cL_law 281 = .ok (.iadd, 1) := by decide +kernel
theorem dL_law_282 : decode cL_law 282 = .ok (.iaload, 1) := by decide +kernel
theorem dL_law_283 : decode cL_law 283 = .ok (.aload_n 3, 1) := by decide +kernel
theorem dL_law_284 : decode cL_law 284 = .ok (.invokestatic 83, 3) := by decide +kernel
theorem dL_law_287 : decode cL_law 287 = .ok (.istore 5, 2) := by decide +kernel
theorem dL_law_289 : decode cL_law 289 = .ok (.aload_n 2, 1) := by decide +kernel
theorem dL_law_290 : decode cL_law 290 = .ok (.aload_n 0, 1) := by decide +kernel
theorem dL_law_291 : decode cL_law 291 = .ok (.iload 4, 2) := by decide +kernel
theorem dL_law_293 : decode cL_law 293 = .ok (.iconst 1, 1) := by decide +kernel
theorem dL_law_294 : decode cL_law 294 = .ok (.iadd, 1) := by decide +kernel
theorem dL_law_295 : decode cL_law 295 = .ok (.iaload, 1) := by decide +kernel
theorem dL_law_296 : decode cL_law 296 = .ok (.invokevirtual 85, 3) := by decide +kernel
theorem dL_law_299 : decode cL_law 299 = .ok (.istore 6, 2) := by decide +kernel
theorem dL_law_301 : decode cL_law 301 = .ok (.aload_n 2, 1) := by decide +kernel
theorem dL_law_302 : decode cL_law 302 = .ok (.invokevirtual 76, 3) := by decide +kernel
theorem dL_law_305 : decode cL_law 305 = .ok (.iload 5, 2) := by decide +kernel
theorem dL_law_307 : decode cL_law 307 = .ok (.if_icmp .eq 5, 3) := by decide +kernel
theorem dL_law_310 : decode cL_law 310 = .ok (.iconst 0, 1) := by decide +kernel
theorem dL_law_311 : decode cL_law 311 = .ok (.ireturn, 1) := by decide +kernel
theorem dL_law_312 : decode cL_law 312 = .ok (.iload 5, 2) := by decide +kernel
theorem dL_law_314 : decode cL_law 314 = .ok (.ifCond .ne 15, 3) := by decide +kernel
theorem dL_law_317 : decode cL_law 317 = .ok (.aload_n 3, 1) := by decide +kernel
theorem dL_law_318 : decode cL_law 318 = .ok (.iconst 0, 1) := by decide +kernel
theorem dL_law_319 : decode cL_law 319 = .ok (.laload, 1) := by decide +kernel
theorem dL_law_320 : decode cL_law 320 = .ok (.iload 6, 2) := by decide +kernel
theorem dL_law_322 : decode cL_law 322 = .ok (.i2l, 1) := by decide +kernel
theorem dL_law_323 : decode cL_law 323 = .ok (.lcmp, 1) := by decide +kernel
theorem dL_law_324 : decode cL_law 324 = .ok (.ifCond .eq 5, 3) := by decide +kernel
theorem dL_law_327 : decode cL_law 327 = .ok (.iconst 0, 1) := by decide +kernel
theorem dL_law_328 : decode cL_law 328 = .ok (.ireturn, 1) := by decide +kernel
theorem dL_law_329 : decode cL_law 329 = .ok (.goto 860, 3) := by decide +kernel
theorem dL_law_332 : decode cL_law 332 = .ok (.aload_n 1, 1) := by decide +kernel
theorem dL_law_333 : decode cL_law 333 = .ok (.aload_n 0, 1) := by decide +kernel
theorem dL_law_334 : decode cL_law 334 = .ok (.iload 4, 2) := by decide +kernel
theorem dL_law_336 : decode cL_law 336 = .ok (.iconst 1, 1) := by decide +kernel
theorem dL_law_337 : decode cL_law 337 = .ok (.iadd, 1) := by decide +kernel
theorem dL_law_338 : decode cL_law 338 = .ok (.iaload, 1) := by decide +kernel
theorem dL_law_339 : decode cL_law 339 = .ok (.aload_n 3, 1) := by decide +kernel
theorem dL_law_340 : decode cL_law 340 = .ok (.invokestatic 86, 3) := by decide +kernel
theorem dL_law_343 : decode cL_law 343 = .ok (.istore 5, 2) := by decide +kernel
theorem dL_law_345 : decode cL_law 345 = .ok (.aload_n 2, 1) := by decide +kernel
theorem dL_law_346 : decode cL_law 346 = .ok (.aload_n 0, 1) := by decide +kernel
theorem dL_law_347 : decode cL_law 347 = .ok (.iload 4, 2) := by decide +kernel
theorem dL_law_349 : decode cL_law 349 = .ok (.iconst 1, 1) := by decide +kernel
theorem dL_law_350 : decode cL_law 350 = .ok (.iadd, 1) := by decide +kernel
theorem dL_law_351 : decode cL_law 351 = .ok (.iaload, 1) := by decide +kernel
theorem dL_law_352 : decode cL_law 352 = .ok (.invokevirtual 88, 3) := by decide +kernel
theorem dL_law_355 : decode cL_law 355 = .ok (.istore 6, 2) := by decide +kernel
theorem dL_law_357 : decode cL_law 357 = .ok (.aload_n 2, 1) := by decide +kernel
theorem dL_law_358 : decode cL_law 358 = .ok (.invokevirtual 76, 3) := by decide +kernel
theorem dL_law_361 : decode cL_law 361 = .ok (.iload 5, 2) := by decide +kernel
theorem dL_law_363 : decode cL_law 363 = .ok (.if_icmp .eq 5, 3) := by decide +kernel
theorem dL_law_366 : decode cL_law 366 = .ok (.iconst 0, 1) := by decide +kernel
theorem dL_law_367 : decode cL_law 367 = .ok (.ireturn, 1) := by decide +kernel
theorem dL_law_368 : decode cL_law 368 = .ok (.iload 5, 2) := by decide +kernel
theorem dL_law_370 : decode cL_law 370 = .ok (.ifCond .ne 15, 3) := by decide +kernel
theorem dL_law_373 : decode cL_law 373 = .ok (.aload_n 3, 1) := by decide +kernel
theorem dL_law_374 : decode cL_law 374 = .ok (.iconst 0, 1) := by decide +kernel
theorem dL_law_375 : decode cL_law 375 = .ok (.laload, 1) := by decide +kernel
theorem dL_law_376 : decode cL_law 376 = .ok (.iload 6, 2) := by decide +kernel
theorem dL_law_378 : decode cL_law 378 = .ok (.i2l, 1) := by decide +kernel
theorem dL_law_379 : decode cL_law 379 = .ok (.lcmp, 1) := by decide +kernel
theorem dL_law_380 : decode cL_law 380 = .ok (.ifCond .eq 5, 3) := by decide +kernel
theorem dL_law_383 : decode cL_law 383 = .ok (.iconst 0, 1) := by decide +kernel
theorem dL_law_384 : decode cL_law 384 = .ok (.ireturn, 1) := by decide +kernel
theorem dL_law_385 : decode cL_law 385 = .ok (.goto 804, 3) := by decide +kernel
theorem dL_law_388 : decode cL_law 388 = .ok (.aload_n 1, 1) := by decide +kernel
theorem dL_law_389 : decode cL_law 389 = .ok (.invokevirtual 89, 3) := by decide +kernel
theorem dL_law_392 : decode cL_law 392 = .ok (.aload_n 2, 1) := by decide +kernel
theorem dL_law_393 : decode cL_law 393 = .ok (.invokevirtual 92, 3) := by decide +kernel
theorem dL_law_396 : decode cL_law 396 = .ok (.if_icmp .eq 793, 3) := by decide +kernel
theorem dL_law_399 : decode cL_law 399 = .ok (.iconst 0, 1) := by decide +kernel
theorem dL_law_400 : decode cL_law 400 = .ok (.ireturn, 1) := by decide +kernel
theorem dL_law_401 : decode cL_law 401 = .ok (.aload_n 1, 1) := by decide +kernel
theorem dL_law_402 : decode cL_law 402 = .ok (.invokevirtual 93, 3) := by decide +kernel
theorem dL_law_405 : decode cL_law 405 = .ok (.aload_n 2, 1) := by decide +kernel
theorem dL_law_406 : decode cL_law 406 = .ok (.invokevirtual 96, 3) := by decide +kernel
theorem dL_law_409 : decode cL_law 409 = .ok (.if_icmp .eq 780, 3) := by decide +kernel
theorem dL_law_412 : decode cL_law 412 = .ok (.iconst 0, 1) := by decide +kernel
theorem dL_law_413 : decode cL_law 413 = .ok (.ireturn, 1) := by decide +kernel
theorem dL_law_414 : decode cL_law 414 = .ok (.aload_n 1, 1) := by decide +kernel
theorem dL_law_415 : decode cL_law 415 = .ok (.aload_n 3, 1) := by decide +kernel
theorem dL_law_416 : decode cL_law 416 = .ok (.invokestatic 97, 3) := by decide +kernel
theorem dL_law_419 : decode cL_law 419 = .ok (.istore 5, 2) := by decide +kernel
theorem dL_law_421 : decode cL_law 421 = .ok (.aload_n 2, 1) := by decide +kernel
theorem dL_law_422 : decode cL_law 422 = .ok (.invokevirtual 100, 3) := by decide +kernel
theorem dL_law_425 : decode cL_law 425 = .ok (.istore 6, 2) := by decide +kernel
theorem dL_law_427 : decode cL_law 427 = .ok (.aload_n 2, 1) := by decide +kernel
theorem dL_law_428 : decode cL_law 428 = .ok (.invokevirtual 76, 3) := by decide +kernel
theorem dL_law_431 : decode cL_law 431 = .ok (.iload 5, 2) := by decide +kernel
theorem dL_law_433 : decode cL_law 433 = .ok (.if_icmp .eq 5, 3) := by decide +kernel
theorem dL_law_436 : decode cL_law 436 = .ok (.iconst 0, 1) := by decide +kernel
theorem dL_law_437 : decode cL_law 437 = .ok (.ireturn, 1) := by decide +kernel
theorem dL_law_438 : decode cL_law 438 = .ok (.iload 5, 2) := by decide +kernel
theorem dL_law_440 : decode cL_law 440 = .ok (.ifCond .ne 15, 3) := by decide +kernel
theorem dL_law_443 : decode cL_law 443 = .ok (.aload_n 3, 1) := by decide +kernel
theorem dL_law_444 : decode cL_law 444 = .ok (.iconst 0, 1) := by decide +kernel
theorem dL_law_445 : decode cL_law 445 = .ok (.laload, 1) := by decide +kernel
theorem dL_law_446 : decode cL_law 446 = .ok (.iload 6, 2) := by decide +kernel
theorem dL_law_448 : decode cL_law 448 = .ok (.i2l, 1) := by decide +kernel
theorem dL_law_449 : decode cL_law 449 = .ok (.lcmp, 1) := by decide +kernel
theorem dL_law_450 : decode cL_law 450 = .ok (.ifCond .eq 5, 3) := by decide +kernel
theorem dL_law_453 : decode cL_law 453 = .ok (.iconst 0, 1) := by decide +kernel
theorem dL_law_454 : decode cL_law 454 = .ok (.ireturn, 1) := by decide +kernel
theorem dL_law_455 : decode cL_law 455 = .ok (.goto 734, 3) := by decide +kernel
theorem dL_law_458 : decode cL_law 458 = .ok (.aload_n 1, 1) := by decide +kernel
theorem dL_law_459 : decode cL_law 459 = .ok (.invokevirtual 101, 3) := by decide +kernel
theorem dL_law_462 : decode cL_law 462 = .ok (.aload_n 2, 1) := by decide +kernel
theorem dL_law_463 : decode cL_law 463 = .ok (.invokevirtual 104, 3) := by decide +kernel
theorem dL_law_466 : decode cL_law 466 = .ok (.if_icmp .eq 723, 3) := by decide +kernel
theorem dL_law_469 : decode cL_law 469 = .ok (.iconst 0, 1) := by decide +kernel
theorem dL_law_470 : decode cL_law 470 = .ok (.ireturn, 1) := by decide +kernel
theorem dL_law_471 : decode cL_law 471 = .ok (.aload_n 1, 1) := by decide +kernel
theorem dL_law_472 : decode cL_law 472 = .ok (.invokevirtual 105, 3) := by decide +kernel
theorem dL_law_475 : decode cL_law 475 = .ok (.aload_n 2, 1) := by decide +kernel
theorem dL_law_476 : decode cL_law 476 = .ok (.invokevirtual 108, 3) := by decide +kernel
end
section
/-! decode rows -/
theorem dL_law_479 : decode cL_law 479 = .ok (.if_icmp .eq 710, 3) := by decide +kernel
theorem dL_law_482 : decode cL_law 482 = .ok (.iconst 0, 1) := by decide +kernel
theorem dL_law_483 : decode cL_law 483 = .ok (.ireturn, 1) := by decide +kernel
theorem dL_law_484 : decode cL_law 484 = .ok (.aload_n 1, 1) := by decide +kernel
theorem dL_law_485 : decode cL_law 485 = .ok (.invokevirtual 109, 3) := by decide +kernel
theorem dL_law_488 : decode cL_law 488 = .ok (.aload_n 2, 1) := by decide +kernel
theorem dL_law_489 : decode cL_law 489 = .ok (.invokevirtual 112, 3) := by decide +kernel
theorem dL_law_492 : decode cL_law 492 = .ok (.if_icmp .eq 697, 3) := by decide +kernel
theorem dL_law_495 : decode cL_law 495 = .ok (.iconst 0, 1) := by decide +kernel
theorem dL_law_496 : decode cL_law 496 = .ok (.ireturn, 1) := by decide +kernel
theorem dL_law_497 : decode cL_law 497 = .ok (.aload_n 1, 1) := by decide +kernel
theorem dL_law_498 : decode cL_law 498 = .ok (.invokevirtual 113, 3) := by decide +kernel
theorem dL_law_501 : decode cL_law 501 = .ok (.aload_n 2, 1) := by decide +kernel
theorem dL_law_502 : decode cL_law 502 = .ok (.invokevirtual 116, 3) := by decide +kernel
theorem dL_law_505 : decode cL_law 505 = .ok (.if_icmp .eq 684, 3) := by decide +kernel
theorem dL_law_508 : decode cL_law 508 = .ok (.iconst 0, 1) := by decide +kernel
theorem dL_law_509 : decode cL_law 509 = .ok (.ireturn, 1) := by decide +kernel
theorem dL_law_510 : decode cL_law 510 = .ok (.aload_n 1, 1) := by decide +kernel
theorem dL_law_511 : decode cL_law 511 = .ok (.invokevirtual 117, 3) := by decide +kernel
theorem dL_law_514 : decode cL_law 514 = .ok (.aload_n 2, 1) := by decide +kernel
theorem dL_law_515 : decode cL_law 515 = .ok (.invokevirtual 120, 3) := by decide +kernel
theorem dL_law_518 : decode cL_law 518 = .ok (.if_icmp .eq 671, 3) := by decide +kernel
theorem dL_law_521 : decode cL_law 521 = .ok (.iconst 0, 1) := by decide +kernel
theorem dL_law_522 : decode cL_law 522 = .ok (.ireturn, 1) := by decide +kernel
theorem dL_law_523 : decode cL_law 523 = .ok (.aload_n 1, 1) := by decide +kernel
theorem dL_law_524 : decode cL_law 524 = .ok (.invokevirtual 121, 3) := by decide +kernel
theorem dL_law_527 : decode cL_law 527 = .ok (.aload_n 2, 1) := by decide +kernel
theorem dL_law_528 : decode cL_law 528 = .ok (.invokevirtual 124, 3) := by decide +kernel
theorem dL_law_531 : decode cL_law 531 = .ok (.if_icmp .eq 658, 3) := by decide +kernel
theorem dL_law_534 : decode cL_law 534 = .ok (.iconst 0, 1) := by decide +kernel
theorem dL_law_535 : decode cL_law 535 = .ok (.ireturn, 1) := by decide +kernel
theorem dL_law_536 : decode cL_law 536 = .ok (.aload_n 1, 1) := by decide +kernel
theorem dL_law_537 : decode cL_law 537 = .ok (.invokevirtual 125, 3) := by decide +kernel
theorem dL_law_540 : decode cL_law 540 = .ok (.aload_n 2, 1) := by decide +kernel
theorem dL_law_541 : decode cL_law 541 = .ok (.invokevirtual 128, 3) := by decide +kernel
theorem dL_law_544 : decode cL_law 544 = .ok (.if_icmp .eq 645, 3) := by decide +kernel
theorem dL_law_547 : decode cL_law 547 = .ok (.iconst 0, 1) := by decide +kernel
theorem dL_law_548 : decode cL_law 548 = .ok (.ireturn, 1) := by decide +kernel
theorem dL_law_549 : decode cL_law 549 = .ok (.aload_n 1, 1) := by decide +kernel
theorem dL_law_550 : decode cL_law 550 = .ok (.aload_n 0, 1) := by decide +kernel
theorem dL_law_551 : decode cL_law 551 = .ok (.iload 4, 2) := by decide +kernel
theorem dL_law_553 : decode cL_law 553 = .ok (.iconst 1, 1) := by decide +kernel
theorem dL_law_554 : decode cL_law 554 = .ok (.iadd, 1) := by decide +kernel
theorem dL_law_555 : decode cL_law 555 = .ok (.iaload, 1) := by decide +kernel
theorem dL_law_556 : decode cL_law 556 = .ok (.aload_n 3, 1) := by decide +kernel
theorem dL_law_557 : decode cL_law 557 = .ok (.invokestatic 129, 3) := by decide +kernel
theorem dL_law_560 : decode cL_law 560 = .ok (.istore 5, 2) := by decide +kernel
theorem dL_law_562 : decode cL_law 562 = .ok (.aload_n 2, 1) := by decide +kernel
theorem dL_law_563 : decode cL_law 563 = .ok (.aload_n 0, 1) := by decide +kernel
theorem dL_law_564 : decode cL_law 564 = .ok (.iload 4, 2) := by decide +kernel
theorem dL_law_566 : decode cL_law 566 = .ok (.iconst 1, 1) := by decide +kernel
theorem dL_law_567 : decode cL_law 567 = .ok (.iadd, 1) := by decide +kernel
theorem dL_law_568 : decode cL_law 568 = .ok (.iaload, 1) := by decide +kernel
theorem dL_law_569 : decode cL_law 569 = .ok (.invokevirtual 131, 3) := by decide +kernel
theorem dL_law_572 : decode cL_law 572 = .ok (.istore 6, 2) := by decide +kernel
theorem dL_law_574 : decode cL_law 574 = .ok (.aload_n 2, 1) := by decide +kernel
theorem dL_law_575 : decode cL_law 575 = .ok (.invokevirtual 76, 3) := by decide +kernel
theorem dL_law_578 : decode cL_law 578 = .ok (.iload 5, 2) := by decide +kernel
theorem dL_law_580 : decode cL_law 580 = .ok (.if_icmp .eq 5, 3) := by decide +kernel
theorem dL_law_583 : decode cL_law 583 = .ok (.iconst 0, 1) := by decide +kernel
theorem dL_law_584 : decode cL_law 584 = .ok (.ireturn, 1) := by decide +kernel
theorem dL_law_585 : decode cL_law 585 = .ok (.iload 5, 2) := by decide +kernel
theorem dL_law_587 : decode cL_law 587 = .ok (.ifCond .ne 15, 3) := by decide +kernel
theorem dL_law_590 : decode cL_law 590 = .ok (.aload_n 3, 1) := by decide +kernel
theorem dL_law_591 : decode cL_law 591 = .ok (.iconst 0, 1) := by decide +kernel
theorem dL_law_592 : decode cL_law 592 = .ok (.laload, 1) := by decide +kernel
theorem dL_law_593 : decode cL_law 593 = .ok (.iload 6, 2) := by decide +kernel
theorem dL_law_595 : decode cL_law 595 = .ok (.i2l, 1) := by decide +kernel
theorem dL_law_596 : decode cL_law 596 = .ok (.lcmp, 1) := by decide +kernel
theorem dL_law_597 : decode cL_law 597 = .ok (.ifCond .eq 5, 3) := by decide +kernel
theorem dL_law_600 : decode cL_law 600 = .ok (.iconst 0, 1) := by decide +kernel
theorem dL_law_601 : decode cL_law 601 = .ok (.ireturn, 1) := by decide +kernel
theorem dL_law_602 : decode cL_law 602 = .ok (.goto 587, 3) := by decide +kernel
theorem dL_law_605 : decode cL_law 605 = .ok (.aload_n 1, 1) := by decide +kernel
theorem dL_law_606 : decode cL_law 606 = .ok (.aload_n 0, 1) := by decide +kernel
theorem dL_law_607 : decode cL_law 607 = .ok (.iload 4, 2) := by decide +kernel
theorem dL_law_609 : decode cL_law 609 = .ok (.iconst 1, 1) := by decide +kernel
theorem dL_law_610 : decode cL_law 610 = .ok (.iadd, 1) := by decide +kernel
theorem dL_law_611 : decode cL_law 611 = .ok (.iaload, 1) := by decide +kernel
theorem dL_law_612 : decode cL_law 612 = .ok (.aload_n 3, 1) := by decide +kernel
theorem dL_law_613 : decode cL_law 613 = .ok (.invokestatic 132, 3) := by decide +kernel
theorem dL_law_616 : decode cL_law 616 = .ok (.istore 5, 2) := by decide +kernel
theorem dL_law_618 : decode cL_law 618 = .ok (.aload_n 2, 1) := by decide +kernel
theorem dL_law_619 : decode cL_law 619 = .ok (.aload_n 0, 1) := by decide +kernel
theorem dL_law_620 : decode cL_law 620 = .ok (.iload 4, 2) := by decide +kernel
theorem dL_law_622 : decode cL_law 622 = .ok (.iconst 1, 1) := by decide +kernel
theorem dL_law_623 : decode cL_law 623 = .ok (.iadd, 1) := by decide +kernel
theorem dL_law_624 : decode cL_law 624 = .ok (.iaload, 1) := by decide +kernel
theorem dL_law_625 : decode cL_law 625 = .ok (.invokevirtual 134, 3) := by decide +kernel
theorem dL_law_628 : decode cL_law 628 = .ok (.istore 6, 2) := by decide +kernel
theorem dL_law_630 : decode cL_law 630 = .ok (.aload_n 2, 1) := by decide +kernel
theorem dL_law_631 : decode cL_law 631 = .ok (.invokevirtual 76, 3) := by decide +kernel
theorem dL_law_634 : decode cL_law 634 = .ok (.iload 5, 2) := by decide +kernel
theorem dL_law_636 : decode cL_law 636 = .ok (.if_icmp .eq 5, 3) := by decide +kernel
theorem dL_law_639 : decode cL_law 639 = .ok (.iconst 0, 1) := by decide +kernel
theorem dL_law_640 : decode cL_law 640 = .ok (.ireturn, 1) := by decide +kernel
theorem dL_law_641 : decode cL_law 641 = .ok (.iload 5, 2) := by decide +kernel
theorem dL_law_643 : decode cL_law 643 = .ok (.ifCond .ne 15, 3) := by decide +kernel
theorem dL_law_646 : decode cL_law 646 = .ok (.aload_n 3, 1) := by decide +kernel
theorem dL_law_647 : decode cL_law 647 = .ok (.iconst 0, 1) := by decide +kernel
theorem dL_law_648 : decode cL_law 648 = .ok (.laload, 1) := by decide +kernel
theorem dL_law_649 : decode cL_law 649 = .ok (.iload 6, 2) := by decide +kernel
theorem dL_law_651 : decode cL_law 651 = .ok (.i2l, 1) := by decide +kernel
theorem dL_law_652 : decode cL_law 652 = .ok (.lcmp, 1) := by decide +kernel
theorem dL_law_653 : decode cL_law 653 = .ok (.ifCond .eq 5, 3) := by decide +kernel
theorem dL_law_656 : decode cL_law 656 = .ok (.iconst 0, 1) := by decide +kernel
theorem dL_law_657 : decode cL_law 657 = .ok (.ireturn, 1) := by decide +kernel
theorem dL_law_658 : decode cL_law 658 = .ok (.goto 531, 3) := by decide +kernel
theorem dL_law_661 : decode cL_law 661 = .ok (.aload_n 1, 1) := by decide +kernel
theorem dL_law_662 : decode cL_law 662 = .ok (.aload_n 0, 1) := by decide +kernel
theorem dL_law_663 : decode cL_law 663 = .ok (.iload 4, 2) := by decide +kernel
theorem dL_law_665 : decode cL_law 665 = .ok (.iconst 1, 1) := by decide +kernel
theorem dL_law_666 : decode cL_law 666 = .ok (.iadd, 1) := by decide +kernel
theorem dL_law_667 : decode cL_law 667 = .ok (.iaload, 1) := by decide +kernel
theorem dL_law_668 : decode cL_law 668 = .ok (.aload_n 0, 1) := by decide +kernel
theorem dL_law_669 : decode cL_law 669 = .ok (.iload 4, 2) := by decide +kernel
theorem dL_law_671 : decode cL_law 671 = .ok (.iconst 2, 1) := by decide +kernel
theorem dL_law_672 : decode cL_law 672 = .ok (.iadd, 1) := by decide +kernel
theorem dL_law_673 : decode cL_law 673 = .ok (.iaload, 1) := by decide +kernel
theorem dL_law_674 : decode cL_law 674 = .ok (.aload_n 3, 1) := by decide +kernel
theorem dL_law_675 : decode cL_law 675 = .ok (.invokestatic 135, 3) := by decide +kernel
theorem dL_law_678 : decode cL_law 678 = .ok (.istore 5, 2) := by decide +kernel
theorem dL_law_680 : decode cL_law 680 = .ok (.aload_n 2, 1) := by decide +kernel
theorem dL_law_681 : decode cL_law 681 = .ok (.aload_n 0, 1) := by decide +kernel
theorem dL_law_682 : decode cL_law 682 = .ok (.iload 4, 2) := by decide +kernel
theorem dL_law_684 : decode cL_law 684 = .ok (.iconst 1, 1) := by decide +kernel
theorem dL_law_685 : decode cL_law 685 = .ok (.iadd, 1) := by decide +kernel
theorem dL_law_686 : decode cL_law 686 = .ok (.iaload, 1) := by decide +kernel
theorem dL_law_687 : decode cL_law 687 = .ok (.aload_n 0, 1) := by decide +kernel
theorem dL_law_688 : decode cL_law 688 = .ok (.iload 4, 2) := by decide +kernel
theorem dL_law_690 : decode cL_law 690 = .ok (.iconst 2, 1) := by decide +kernel
theorem dL_law_691 : decode cL_law 691 = .ok (.iadd, 1) := by decide +kernel
theorem dL_law_692 : decode cL_law 692 = .ok (.iaload, 1) := by decide +kernel
theorem dL_law_693 : decode cL_law 693 = .ok (.invokevirtual 137, 3) := by decide +kernel
theorem dL_law_696 : decode cL_law 696 = .ok (.istore 6, 2) := by decide +kernel
theorem dL_law_698 : decode cL_law 698 = .ok (.aload_n 2, 1) := by decide +kernel
theorem dL_law_699 : decode cL_law 699 = .ok (.invokevirtual 76, 3) := by decide +kernel
theorem dL_law_702 : decode cL_law 702 = .ok (.iload 5, 2) := by decide +kernel
theorem dL_law_704 : decode cL_law 704 = .ok (.if_icmp .eq 5, 3) := by decide +kernel
theorem dL_law_707 : decode cL_law 707 = .ok (.iconst 0, 1) := by decide +kernel
theorem dL_law_708 : decode cL_law 708 = .ok (.ireturn, 1) := by decide +kernel
theorem dL_law_709 : decode cL_law 709 = .ok (.iload 5, 2) := by decide +kernel
theorem dL_law_711 : decode cL_law 711 = .ok (.ifCond .ne 15, 3) := by decide +kernel
theorem dL_law_714 : decode cL_law 714 = .ok (.aload_n 3, 1) := by decide +kernel
theorem dL_law_715 : decode cL_law 715 = .ok (.iconst 0, 1) := by decide +kernel
theorem dL_law_716 : decode cL_law 716 = .ok (.laload, 1) := by decide +kernel
theorem dL_law_717 : decode cL_law 717 = .ok (.iload 6, 2) := by decide +kernel
theorem dL_law_719 : decode cL_law 719 = .ok (.i2l, 1) := by decide +kernel
theorem dL_law_720 : decode cL_law 720 = .ok (.lcmp, 1) := by decide +kernel
theorem dL_law_721 : decode cL_law 721 = .ok (.ifCond .eq 5, 3) := by decide +kernel
theorem dL_law_724 : decode cL_law 724 = .ok (.iconst 0, 1) := by decide +kernel
theorem dL_law_725 : decode cL_law 725 = .ok (.ireturn, 1) := by decide +kernel
theorem dL_law_726 : decode cL_law 726 = .ok (.goto 463, 3) := by decide +kernel
theorem dL_law_729 : decode cL_law 729 = .ok (.aload_n 1, 1) := by decide +kernel
theorem dL_law_730 : decode cL_law 730 = .ok (.aload_n 0, 1) := by decide +kernel
theorem dL_law_731 : decode cL_law 731 = .ok (.iload 4, 2) := by decide +kernel
theorem dL_law_733 : decode cL_law 733 = .ok (.iconst 1, 1) := by decide +kernel
theorem dL_law_734 : decode cL_law 734 = .ok (.iadd, 1) := by decide +kernel
theorem dL_law_735 : decode cL_law 735 = .ok (.iaload, 1) := by decide +kernel
theorem dL_law_736 : decode cL_law 736 = .ok (.aload_n 0, 1) := by decide +kernel
theorem dL_law_737 : decode cL_law 737 = .ok (.iload 4, 2) := by decide +kernel
theorem dL_law_739 : decode cL_law 739 = .ok (.iconst 2, 1) := by decide +kernel
theorem dL_law_740 : decode cL_law 740 = .ok (.iadd, 1) := by decide +kernel
theorem dL_law_741 : decode cL_law 741 = .ok (.iaload, 1) := by decide +kernel
theorem dL_law_742 : decode cL_law 742 = .ok (.aload_n 3, 1) := by decide +kernel
theorem dL_law_743 : decode cL_law 743 = .ok (.invokestatic 138, 3) := by decide +kernel
theorem dL_law_746 : decode cL_law 746 = .ok (.istore 5, 2) := by decide +kernel
theorem dL_law_748 : decode cL_law 748 = .ok (.aload_n 2, 1) := by decide +kernel
theorem dL_law_749 : decode cL_law 749 = .ok (.aload_n 0, 1) := by decide +kernel
theorem dL_law_750 : decode cL_law 750 = .ok (.iload 4, 2) := by decide +kernel
theorem dL_law_752 : decode cL_law 752 = .ok (.iconst 1, 1) := by decide +kernel
theorem dL_law_753 : decode cL_law 753 = .ok (.iadd, 1) := by decide +kernel
theorem dL_law_754 : decode cL_law 754 = .ok (.iaload, 1) := by decide +kernel
theorem dL_law_755 : decode cL_law 755 = .ok (.aload_n 0, 1) := by decide +kernel
theorem dL_law_756 : decode cL_law 756 = .ok (.iload 4, 2) := by decide +kernel
theorem dL_law_758 : decode cL_law 758 = .ok (.iconst 2, 1) := by decide +kernel
theorem dL_law_759 : decode cL_law 759 = .ok (.iadd, 1) := by decide +kernel
theorem dL_law_760 : decode cL_law 760 = .ok (.iaload, 1) := by decide +kernel
theorem dL_law_761 : decode cL_law 761 = .ok (.invokevirtual 140, 3) := by decide +kernel
theorem dL_law_764 : decode cL_law 764 = .ok (.istore 6, 2) := by decide +kernel
theorem dL_law_766 : decode cL_law 766 = .ok (.aload_n 2, 1) := by decide +kernel
theorem dL_law_767 : decode cL_law 767 = .ok (.invokevirtual 76, 3) := by decide +kernel
theorem dL_law_770 : decode cL_law 770 = .ok (.iload 5, 2) := by decide +kernel
theorem dL_law_772 : decode cL_law 772 = .ok (.if_icmp .eq 5, 3) := by decide +kernel
theorem dL_law_775 : decode cL_law 775 = .ok (.iconst 0, 1) := by decide +kernel
theorem dL_law_776 : decode cL_law 776 = .ok (.ireturn, 1) := by decide +kernel
theorem dL_law_777 : decode cL_law 777 = .ok (.iload 5, 2) := by decide +kernel
theorem dL_law_779 : decode cL_law 779 = .ok (.ifCond .ne 15, 3) := by decide +kernel
theorem dL_law_782 : decode cL_law 782 = .ok (.aload_n 3, 1) := by decide +kernel
theorem dL_law_783 : decode cL_law 783 = .ok (.iconst 0, 1) := by decide +kernel
theorem dL_law_784 : decode cL_law 784 = .ok (.laload, 1) := by decide +kernel
theorem dL_law_785 : decode cL_law 785 = .ok (.iload 6, 2) := by decide +kernel
theorem dL_law_787 : decode cL_law 787 = .ok (.i2l, 1) := by decide +kernel
theorem dL_law_788 : decode cL_law 788 = .ok (.lcmp, 1) := by decide +kernel
theorem dL_law_789 : decode cL_law 789 = .ok (.ifCond .eq 5, 3) := by decide +kernel
theorem dL_law_792 : decode cL_law 792 = .ok (.iconst 0, 1) := by decide +kernel
theorem dL_law_793 : decode cL_law 793 = .ok (.ireturn, 1) := by decide +kernel
theorem dL_law_794 : decode cL_law 794 = .ok (.goto 395, 3) := by decide +kernel
theorem dL_law_797 : decode cL_law 797 = .ok (.aload_n 1, 1) := by decide +kernel
theorem dL_law_798 : decode cL_law 798 = .ok (.aload_n 0, 1) := by decide +kernel
theorem dL_law_799 : decode cL_law 799 = .ok (.iload 4, 2) := by decide +kernel
theorem dL_law_801 : decode cL_law 801 = .ok (.iconst 1, 1) := by decide +kernel
theorem dL_law_802 : decode cL_law 802 = .ok (.iadd, 1) := by decide +kernel
theorem dL_law_803 : decode cL_law 803 = .ok (.iaload, 1) := by decide +kernel
theorem dL_law_804 : decode cL_law 804 = .ok (.aload_n 3, 1) := by decide +kernel
theorem dL_law_805 : decode cL_law 805 = .ok (.invokestatic 141, 3) := by decide +kernel
theorem dL_law_808 : decode cL_law 808 = .ok (.istore 5, 2) := by decide +kernel
theorem dL_law_810 : decode cL_law 810 = .ok (.aload_n 2, 1) := by decide +kernel
theorem dL_law_811 : decode cL_law 811 = .ok (.aload_n 0, 1) := by decide +kernel
theorem dL_law_812 : decode cL_law 812 = .ok (.iload 4, 2) := by decide +kernel
theorem dL_law_814 : decode cL_law 814 = .ok (.iconst 1, 1) := by decide +kernel
theorem dL_law_815 : decode cL_law 815 = .ok (.iadd, 1) := by decide +kernel
theorem dL_law_816 : decode cL_law 816 = .ok (.iaload, 1) := by decide +kernel
theorem dL_law_817 : decode cL_law 817 = .ok (.invokevirtual 143, 3) := by decide +kernel
theorem dL_law_820 : decode cL_law 820 = .ok (.istore 6, 2) := by decide +kernel
theorem dL_law_822 : decode cL_law 822 = .ok (.aload_n 2, 1) := by decide +kernel
theorem dL_law_823 : decode cL_law 823 = .ok (.invokevirtual 76, 3) := by decide +kernel
theorem dL_law_826 : decode cL_law 826 = .ok (.iload 5, 2) := by decide +kernel
theorem dL_law_828 : decode cL_law 828 = .ok (.if_icmp .eq 5, 3) := by decide +kernel
theorem dL_law_831 : decode cL_law 831 = .ok (.iconst 0, 1) := by decide +kernel
theorem dL_law_832 : decode cL_law 832 = .ok (.ireturn, 1) := by decide +kernel
theorem dL_law_833 : decode cL_law 833 = .ok (.iload 5, 2) := by decide +kernel
theorem dL_law_835 : decode cL_law 835 = .ok (.ifCond .ne 15, 3) := by decide +kernel
theorem dL_law_838 : decode cL_law 838 = .ok (.aload_n 3, 1) := by decide +kernel
theorem dL_law_839 : decode cL_law 839 = .ok (.iconst 0, 1) := by decide +kernel
end
section
/-! decode rows -/
theorem dL_law_840 : decode cL_law 840 = .ok (.laload, 1) := by decide +kernel
theorem dL_law_841 : decode cL_law 841 = .ok (.iload 6, 2) := by decide +kernel
theorem dL_law_843 : decode cL_law 843 = .ok (.i2l, 1) := by decide +kernel
theorem dL_law_844 : decode cL_law 844 = .ok (.lcmp, 1) := by decide +kernel
theorem dL_law_845 : decode cL_law 845 = .ok (.ifCond .eq 5, 3) := by decide +kernel
theorem dL_law_848 : decode cL_law 848 = .ok (.iconst 0, 1) := by decide +kernel
theorem dL_law_849 : decode cL_law 849 = .ok (.ireturn, 1) := by decide +kernel
theorem dL_law_850 : decode cL_law 850 = .ok (.goto 339, 3) := by decide +kernel
theorem dL_law_853 : decode cL_law 853 = .ok (.aload_n 1, 1) := by decide +kernel
theorem dL_law_854 : decode cL_law 854 = .ok (.aload_n 0, 1) := by decide +kernel
theorem dL_law_855 : decode cL_law 855 = .ok (.iload 4, 2) := by decide +kernel
theorem dL_law_857 : decode cL_law 857 = .ok (.iconst 1, 1) := by decide +kernel
theorem dL_law_858 : decode cL_law 858 = .ok (.iadd, 1) := by decide +kernel
theorem dL_law_859 : decode cL_law 859 = .ok (.iaload, 1) := by decide +kernel
theorem dL_law_860 : decode cL_law 860 = .ok (.aload_n 3, 1) := by decide +kernel
theorem dL_law_861 : decode cL_law 861 = .ok (.invokestatic 144, 3) := by decide +kernel
theorem dL_law_864 : decode cL_law 864 = .ok (.istore 5, 2) := by decide +kernel
theorem dL_law_866 : decode cL_law 866 = .ok (.aload_n 2, 1) := by decide +kernel
theorem dL_law_867 : decode cL_law 867 = .ok (.aload_n 0, 1) := by decide +kernel
theorem dL_law_868 : decode cL_law 868 = .ok (.iload 4, 2) := by decide +kernel
theorem dL_law_870 : decode cL_law 870 = .ok (.iconst 1, 1) := by decide +kernel
theorem dL_law_871 : decode cL_law 871 = .ok (.iadd, 1) := by decide +kernel
theorem dL_law_872 : decode cL_law 872 = .ok (.iaload, 1) := by decide +kernel
theorem dL_law_873 : decode cL_law 873 = .ok (.invokevirtual 146, 3) := by decide +kernel
theorem dL_law_876 : decode cL_law 876 = .ok (.istore 6, 2) := by decide +kernel
theorem dL_law_878 : decode cL_law 878 = .ok (.aload_n 2, 1) := by decide +kernel
theorem dL_law_879 : decode cL_law 879 = .ok (.invokevirtual 76, 3) := by decide +kernel
theorem dL_law_882 : decode cL_law 882 = .ok (.iload 5, 2) := by decide +kernel
theorem dL_law_884 : decode cL_law 884 = .ok (.if_icmp .eq 5, 3) := by decide +kernel
theorem dL_law_887 : decode cL_law 887 = .ok (.iconst 0, 1) := by decide +kernel
theorem dL_law_888 : decode cL_law 888 = .ok (.ireturn, 1) := by decide +kernel
theorem dL_law_889 : decode cL_law 889 = .ok (.iload 5, 2) := by decide +kernel
theorem dL_law_891 : decode cL_law 891 = .ok (.ifCond .ne 15, 3) := by decide +kernel
theorem dL_law_894 : decode cL_law 894 = .ok (.aload_n 3, 1) := by decide +kernel
theorem dL_law_895 : decode cL_law 895 = .ok (.iconst 0, 1) := by decide +kernel
theorem dL_law_896 : decode cL_law 896 = .ok (.laload, 1) := by decide +kernel
theorem dL_law_897 : decode cL_law 897 = .ok (.iload 6, 2) := by decide +kernel
theorem dL_law_899 : decode cL_law 899 = .ok (.i2l, 1) := by decide +kernel
theorem dL_law_900 : decode cL_law 900 = .ok (.lcmp, 1) := by decide +kernel
theorem dL_law_901 : decode cL_law 901 = .ok (.ifCond .eq 5, 3) := by decide +kernel
theorem dL_law_904 : decode cL_law 904 = .ok (.iconst 0, 1) := by decide +kernel
theorem dL_law_905 : decode cL_law 905 = .ok (.ireturn, 1) := by decide +kernel
theorem dL_law_906 : decode cL_law 906 = .ok (.goto 283, 3) := by decide +kernel
theorem dL_law_909 : decode cL_law 909 = .ok (.aload_n 1, 1) := by decide +kernel
theorem dL_law_910 : decode cL_law 910 = .ok (.aload_n 0, 1) := by decide +kernel
theorem dL_law_911 : decode cL_law 911 = .ok (.iload 4, 2) := by decide +kernel
theorem dL_law_913 : decode cL_law 913 = .ok (.iconst 1, 1) := by decide +kernel
theorem dL_law_914 : decode cL_law 914 = .ok (.iadd, 1) := by decide +kernel
theorem dL_law_915 : decode cL_law 915 = .ok (.iaload, 1) := by decide +kernel
theorem dL_law_916 : decode cL_law 916 = .ok (.aload_n 3, 1) := by decide +kernel
theorem dL_law_917 : decode cL_law 917 = .ok (.invokestatic 147, 3) := by decide +kernel
theorem dL_law_920 : decode cL_law 920 = .ok (.istore 5, 2) := by decide +kernel
theorem dL_law_922 : decode cL_law 922 = .ok (.aload_n 2, 1) := by decide +kernel
theorem dL_law_923 : decode cL_law 923 = .ok (.aload_n 0, 1) := by decide +kernel
theorem dL_law_924 : decode cL_law 924 = .ok (.iload 4, 2) := by decide +kernel
theorem dL_law_926 : decode cL_law 926 = .ok (.iconst 1, 1) := by decide +kernel
theorem dL_law_927 : decode cL_law 927 = .ok (.iadd, 1) := by decide +kernel
theorem dL_law_928 : decode cL_law 928 = .ok (.iaload, 1) := by decide +kernel
theorem dL_law_929 : decode cL_law 929 = .ok (.invokevirtual 149, 3) := by decide +kernel
theorem dL_law_932 : decode cL_law 932 = .ok (.istore 6, 2) := by decide +kernel
theorem dL_law_934 : decode cL_law 934 = .ok (.aload_n 2, 1) := by decide +kernel
theorem dL_law_935 : decode cL_law 935 = .ok (.invokevirtual 76, 3) := by decide +kernel
theorem dL_law_938 : decode cL_law 938 = .ok (.iload 5, 2) := by decide +kernel
theorem dL_law_940 : decode cL_law 940 = .ok (.if_icmp .eq 5, 3) := by decide +kernel
theorem dL_law_943 : decode cL_law 943 = .ok (.iconst 0, 1) := by decide +kernel
theorem dL_law_944 : decode cL_law 944 = .ok (.ireturn, 1) := by decide +kernel
theorem dL_law_945 : decode cL_law 945 = .ok (.iload 5, 2) := by decide +kernel
theorem dL_law_947 : decode cL_law 947 = .ok (.ifCond .ne 15, 3) := by decide +kernel
theorem dL_law_950 : decode cL_law 950 = .ok (.aload_n 3, 1) := by decide +kernel
theorem dL_law_951 : decode cL_law 951 = .ok (.iconst 0, 1) := by decide +kernel
theorem dL_law_952 : decode cL_law 952 = .ok (.laload, 1) := by decide +kernel
theorem dL_law_953 : decode cL_law 953 = .ok (.iload 6, 2) := by decide +kernel
theorem dL_law_955 : decode cL_law 955 = .ok (.i2l, 1) := by decide +kernel
theorem dL_law_956 : decode cL_law 956 = .ok (.lcmp, 1) := by decide +kernel
theorem dL_law_957 : decode cL_law 957 = .ok (.ifCond .eq 5, 3) := by decide +kernel
theorem dL_law_960 : decode cL_law 960 = .ok (.iconst 0, 1) := by decide +kernel
theorem dL_law_961 : decode cL_law 961 = .ok (.ireturn, 1) := by decide +kernel
theorem dL_law_962 : decode cL_law 962 = .ok (.goto 227, 3) := by decide +kernel
theorem dL_law_965 : decode cL_law 965 = .ok (.aload_n 1, 1) := by decide +kernel
theorem dL_law_966 : decode cL_law 966 = .ok (.aload_n 0, 1) := by decide +kernel
theorem dL_law_967 : decode cL_law 967 = .ok (.iload 4, 2) := by decide +kernel
theorem dL_law_969 : decode cL_law 969 = .ok (.iconst 1, 1) := by decide +kernel
theorem dL_law_970 : decode cL_law 970 = .ok (.iadd, 1) := by decide +kernel
theorem dL_law_971 : decode cL_law 971 = .ok (.iaload, 1) := by decide +kernel
theorem dL_law_972 : decode cL_law 972 = .ok (.aload_n 3, 1) := by decide +kernel
theorem dL_law_973 : decode cL_law 973 = .ok (.invokestatic 150, 3) := by decide +kernel
theorem dL_law_976 : decode cL_law 976 = .ok (.istore 5, 2) := by decide +kernel
theorem dL_law_978 : decode cL_law 978 = .ok (.aload_n 2, 1) := by decide +kernel
theorem dL_law_979 : decode cL_law 979 = .ok (.aload_n 0, 1) := by decide +kernel
theorem dL_law_980 : decode cL_law 980 = .ok (.iload 4, 2) := by decide +kernel
theorem dL_law_982 : decode cL_law 982 = .ok (.iconst 1, 1) := by decide +kernel
theorem dL_law_983 : decode cL_law 983 = .ok (.iadd, 1) := by decide +kernel
theorem dL_law_984 : decode cL_law 984 = .ok (.iaload, 1) := by decide +kernel
theorem dL_law_985 : decode cL_law 985 = .ok (.invokevirtual 152, 3) := by decide +kernel
theorem dL_law_988 : decode cL_law 988 = .ok (.istore 6, 2) := by decide +kernel
theorem dL_law_990 : decode cL_law 990 = .ok (.aload_n 2, 1) := by decide +kernel
theorem dL_law_991 : decode cL_law 991 = .ok (.invokevirtual 76, 3) := by decide +kernel
theorem dL_law_994 : decode cL_law 994 = .ok (.iload 5, 2) := by decide +kernel
theorem dL_law_996 : decode cL_law 996 = .ok (.if_icmp .eq 5, 3) := by decide +kernel
theorem dL_law_999 : decode cL_law 999 = .ok (.iconst 0, 1) := by decide +kernel
theorem dL_law_1000 : decode cL_law 1000 = .ok (.ireturn, 1) := by decide +kernel
theorem dL_law_1001 : decode cL_law 1001 = .ok (.iload 5, 2) := by decide +kernel
theorem dL_law_1003 : decode cL_law 1003 = .ok (.ifCond .ne 15, 3) := by decide +kernel
theorem dL_law_1006 : decode cL_law 1006 = .ok (.aload_n 3, 1) := by decide +kernel
theorem dL_law_1007 : decode cL_law 1007 = .ok (.iconst 0, 1) := by decide +kernel
theorem dL_law_1008 : decode cL_law 1008 = .ok (.laload, 1) := by decide +kernel
theorem dL_law_1009 : decode cL_law 1009 = .ok (.iload 6, 2) := by decide +kernel
theorem dL_law_1011 : decode cL_law 1011 = .ok (.i2l, 1) := by decide +kernel
theorem dL_law_1012 : decode cL_law 1012 = .ok (.lcmp, 1) := by decide +kernel
theorem dL_law_1013 : decode cL_law 1013 = .ok (.ifCond .eq 5, 3) := by decide +kernel
theorem dL_law_1016 : decode cL_law 1016 = .ok (.iconst 0, 1) := by decide +kernel
theorem dL_law_1017 : decode cL_law 1017 = .ok (.ireturn, 1) := by decide +kernel
theorem dL_law_1018 : decode cL_law 1018 = .ok (.goto 171, 3) := by decide +kernel
theorem dL_law_1021 : decode cL_law 1021 = .ok (.aload_n 1, 1) := by decide +kernel
theorem dL_law_1022 : decode cL_law 1022 = .ok (.aload_n 0, 1) := by decide +kernel
theorem dL_law_1023 : decode cL_law 1023 = .ok (.iload 4, 2) := by decide +kernel
theorem dL_law_1025 : decode cL_law 1025 = .ok (.iconst 1, 1) := by decide +kernel
theorem dL_law_1026 : decode cL_law 1026 = .ok (.iadd, 1) := by decide +kernel
theorem dL_law_1027 : decode cL_law 1027 = .ok (.iaload, 1) := by decide +kernel
theorem dL_law_1028 : decode cL_law 1028 = .ok (.aload_n 3, 1) := by decide +kernel
theorem dL_law_1029 : decode cL_law 1029 = .ok (.invokestatic 153, 3) := by decide +kernel
theorem dL_law_1032 : decode cL_law 1032 = .ok (.istore 5, 2) := by decide +kernel
theorem dL_law_1034 : decode cL_law 1034 = .ok (.aload_n 2, 1) := by decide +kernel
theorem dL_law_1035 : decode cL_law 1035 = .ok (.aload_n 0, 1) := by decide +kernel
theorem dL_law_1036 : decode cL_law 1036 = .ok (.iload 4, 2) := by decide +kernel
theorem dL_law_1038 : decode cL_law 1038 = .ok (.iconst 1, 1) := by decide +kernel
theorem dL_law_1039 : decode cL_law 1039 = .ok (.iadd, 1) := by decide +kernel
theorem dL_law_1040 : decode cL_law 1040 = .ok (.iaload, 1) := by decide +kernel
theorem dL_law_1041 : decode cL_law 1041 = .ok (.invokevirtual 155, 3) := by decide +kernel
theorem dL_law_1044 : decode cL_law 1044 = .ok (.istore 6, 2) := by decide +kernel
theorem dL_law_1046 : decode cL_law 1046 = .ok (.aload_n 2, 1) := by decide +kernel
theorem dL_law_1047 : decode cL_law 1047 = .ok (.invokevirtual 76, 3) := by decide +kernel
theorem dL_law_1050 : decode cL_law 1050 = .ok (.iload 5, 2) := by decide +kernel
theorem dL_law_1052 : decode cL_law 1052 = .ok (.if_icmp .eq 5, 3) := by decide +kernel
theorem dL_law_1055 : decode cL_law 1055 = .ok (.iconst 0, 1) := by decide +kernel
theorem dL_law_1056 : decode cL_law 1056 = .ok (.ireturn, 1) := by decide +kernel
theorem dL_law_1057 : decode cL_law 1057 = .ok (.iload 5, 2) := by decide +kernel
theorem dL_law_1059 : decode cL_law 1059 = .ok (.ifCond .ne 15, 3) := by decide +kernel
theorem dL_law_1062 : decode cL_law 1062 = .ok (.aload_n 3, 1) := by decide +kernel
theorem dL_law_1063 : decode cL_law 1063 = .ok (.iconst 0, 1) := by decide +kernel
theorem dL_law_1064 : decode cL_law 1064 = .ok (.laload, 1) := by decide +kernel
theorem dL_law_1065 : decode cL_law 1065 = .ok (.iload 6, 2) := by decide +kernel
theorem dL_law_1067 : decode cL_law 1067 = .ok (.i2l, 1) := by decide +kernel
theorem dL_law_1068 : decode cL_law 1068 = .ok (.lcmp, 1) := by decide +kernel
theorem dL_law_1069 : decode cL_law 1069 = .ok (.ifCond .eq 5, 3) := by decide +kernel
theorem dL_law_1072 : decode cL_law 1072 = .ok (.iconst 0, 1) := by decide +kernel
theorem dL_law_1073 : decode cL_law 1073 = .ok (.ireturn, 1) := by decide +kernel
theorem dL_law_1074 : decode cL_law 1074 = .ok (.goto 115, 3) := by decide +kernel
theorem dL_law_1077 : decode cL_law 1077 = .ok (.aload_n 1, 1) := by decide +kernel
theorem dL_law_1078 : decode cL_law 1078 = .ok (.aload_n 0, 1) := by decide +kernel
theorem dL_law_1079 : decode cL_law 1079 = .ok (.iload 4, 2) := by decide +kernel
theorem dL_law_1081 : decode cL_law 1081 = .ok (.iconst 1, 1) := by decide +kernel
theorem dL_law_1082 : decode cL_law 1082 = .ok (.iadd, 1) := by decide +kernel
theorem dL_law_1083 : decode cL_law 1083 = .ok (.iaload, 1) := by decide +kernel
theorem dL_law_1084 : decode cL_law 1084 = .ok (.aload_n 3, 1) := by decide +kernel
theorem dL_law_1085 : decode cL_law 1085 = .ok (.invokestatic 156, 3) := by decide +kernel
theorem dL_law_1088 : decode cL_law 1088 = .ok (.istore 5, 2) := by decide +kernel
theorem dL_law_1090 : decode cL_law 1090 = .ok (.aload_n 2, 1) := by decide +kernel
theorem dL_law_1091 : decode cL_law 1091 = .ok (.aload_n 0, 1) := by decide +kernel
theorem dL_law_1092 : decode cL_law 1092 = .ok (.iload 4, 2) := by decide +kernel
theorem dL_law_1094 : decode cL_law 1094 = .ok (.iconst 1, 1) := by decide +kernel
theorem dL_law_1095 : decode cL_law 1095 = .ok (.iadd, 1) := by decide +kernel
theorem dL_law_1096 : decode cL_law 1096 = .ok (.iaload, 1) := by decide +kernel
theorem dL_law_1097 : decode cL_law 1097 = .ok (.invokevirtual 158, 3) := by decide +kernel
theorem dL_law_1100 : decode cL_law 1100 = .ok (.istore 6, 2) := by decide +kernel
theorem dL_law_1102 : decode cL_law 1102 = .ok (.aload_n 2, 1) := by decide +kernel
theorem dL_law_1103 : decode cL_law 1103 = .ok (.invokevirtual 76, 3) := by decide +kernel
theorem dL_law_1106 : decode cL_law 1106 = .ok (.iload 5, 2) := by decide +kernel
theorem dL_law_1108 : decode cL_law 1108 = .ok (.if_icmp .eq 5, 3) := by decide +kernel
theorem dL_law_1111 : decode cL_law 1111 = .ok (.iconst 0, 1) := by decide +kernel
theorem dL_law_1112 : decode cL_law 1112 = .ok (.ireturn, 1) := by decide +kernel
theorem dL_law_1113 : decode cL_law 1113 = .ok (.iload 5, 2) := by decide +kernel
theorem dL_law_1115 : decode cL_law 1115 = .ok (.ifCond .ne 15, 3) := by decide +kernel
theorem dL_law_1118 : decode cL_law 1118 = .ok (.aload_n 3, 1) := by decide +kernel
theorem dL_law_1119 : decode cL_law 1119 = .ok (.iconst 0, 1) := by decide +kernel
theorem dL_law_1120 : decode cL_law 1120 = .ok (.laload, 1) := by decide +kernel
theorem dL_law_1121 : decode cL_law 1121 = .ok (.iload 6, 2) := by decide +kernel
theorem dL_law_1123 : decode cL_law 1123 = .ok (.i2l, 1) := by decide +kernel
theorem dL_law_1124 : decode cL_law 1124 = .ok (.lcmp, 1) := by decide +kernel
theorem dL_law_1125 : decode cL_law 1125 = .ok (.ifCond .eq 5, 3) := by decide +kernel
theorem dL_law_1128 : decode cL_law 1128 = .ok (.iconst 0, 1) := by decide +kernel
theorem dL_law_1129 : decode cL_law 1129 = .ok (.ireturn, 1) := by decide +kernel
theorem dL_law_1130 : decode cL_law 1130 = .ok (.goto 59, 3) := by decide +kernel
theorem dL_law_1133 : decode cL_law 1133 = .ok (.aload_n 1, 1) := by decide +kernel
theorem dL_law_1134 : decode cL_law 1134 = .ok (.aload_n 0, 1) := by decide +kernel
theorem dL_law_1135 : decode cL_law 1135 = .ok (.iload 4, 2) := by decide +kernel
theorem dL_law_1137 : decode cL_law 1137 = .ok (.iconst 1, 1) := by decide +kernel
theorem dL_law_1138 : decode cL_law 1138 = .ok (.iadd, 1) := by decide +kernel
theorem dL_law_1139 : decode cL_law 1139 = .ok (.iaload, 1) := by decide +kernel
theorem dL_law_1140 : decode cL_law 1140 = .ok (.aload_n 3, 1) := by decide +kernel
theorem dL_law_1141 : decode cL_law 1141 = .ok (.invokestatic 159, 3) := by decide +kernel
theorem dL_law_1144 : decode cL_law 1144 = .ok (.istore 5, 2) := by decide +kernel
theorem dL_law_1146 : decode cL_law 1146 = .ok (.aload_n 2, 1) := by decide +kernel
theorem dL_law_1147 : decode cL_law 1147 = .ok (.aload_n 0, 1) := by decide +kernel
theorem dL_law_1148 : decode cL_law 1148 = .ok (.iload 4, 2) := by decide +kernel
theorem dL_law_1150 : decode cL_law 1150 = .ok (.iconst 1, 1) := by decide +kernel
theorem dL_law_1151 : decode cL_law 1151 = .ok (.iadd, 1) := by decide +kernel
theorem dL_law_1152 : decode cL_law 1152 = .ok (.iaload, 1) := by decide +kernel
theorem dL_law_1153 : decode cL_law 1153 = .ok (.invokevirtual 161, 3) := by decide +kernel
theorem dL_law_1156 : decode cL_law 1156 = .ok (.istore 6, 2) := by decide +kernel
theorem dL_law_1158 : decode cL_law 1158 = .ok (.aload_n 2, 1) := by decide +kernel
theorem dL_law_1159 : decode cL_law 1159 = .ok (.invokevirtual 76, 3) := by decide +kernel
theorem dL_law_1162 : decode cL_law 1162 = .ok (.iload 5, 2) := by decide +kernel
theorem dL_law_1164 : decode cL_law 1164 = .ok (.if_icmp .eq 5, 3) := by decide +kernel
theorem dL_law_1167 : decode cL_law 1167 = .ok (.iconst 0, 1) := by decide +kernel
theorem dL_law_1168 : decode cL_law 1168 = .ok (.ireturn, 1) := by decide +kernel
theorem dL_law_1169 : decode cL_law 1169 = .ok (.iload 5, 2) := by decide +kernel
theorem dL_law_1171 : decode cL_law 1171 = .ok (.ifCond .ne 15, 3) := by decide +kernel
theorem dL_law_1174 : decode cL_law 1174 = .ok (.aload_n 3, 1) := by decide +kernel
theorem dL_law_1175 : decode cL_law 1175 = .ok (.iconst 0, 1) := by decide +kernel
theorem dL_law_1176 : decode cL_law 1176 = .ok (.laload, 1) := by decide +kernel
theorem dL_law_1177 : decode cL_law 1177 = .ok (.iload 6, 2) := by decide +kernel
theorem dL_law_1179 : decode cL_law 1179 = .ok (.i2l, 1) := by decide +kernel
theorem dL_law_1180 : decode cL_law 1180 = .ok (.lcmp, 1) := by decide +kernel
theorem dL_law_1181 : decode cL_law 1181 = .ok (.ifCond .eq 5, 3) := by decide +kernel
theorem dL_law_1184 : decode cL_law 1184 = .ok (.iconst 0, 1) := by decide +kernel
theorem dL_law_1185 : decode cL_law 1185 = .ok (.ireturn, 1) := by decide +kernel
theorem dL_law_1186 : decode cL_law 1186 = .ok (.goto 3, 3) := by decide +kernel
theorem dL_law_1189 : decode cL_law 1189 = .ok (.iinc 4 3, 3) := by decide +kernel
theorem dL_law_1192 : decode cL_law 1192 = .ok (.goto (-1169), 3) := by decide +kernel
theorem dL_law_1195 : decode cL_law 1195 = .ok (.iconst 1, 1) := by decide +kernel
theorem dL_law_1196 : decode cL_law 1196 = .ok (.ireturn, 1) := by decide +kernel
end
section
/-! The world: cells by labels; one form of contract for every method; rows over it. -/
abbrev Lb : Type := Nat × Nat
/-- where each label's cell lies, which labels there are, what each cell holds -/
abbrev WS : Type := (Lb → Nat) × (Lb → Prop) × (Lb → va_E)
/-- the classes' numbers and slots; the array classes (int, boolean, Page, Cursor, Object, long); the list's shared empty array and the mirror of its class -/
abbrev GG : Type := va_G × (Nat → ClassId) × Nat × Nat
def tyG (G : GG) : List (ClassId × FieldType) := [(G.2.1 0, .int), (G.2.1 1, .boolean), (G.2.1 2, .object "Highkey$Page"), (G.2.1 3, .object "Highkey$Cursor"), (G.2.1 4, .object "java/lang/Object"), (G.2.1 5, .long)]
def wd (G : GG) (A : Nat → Prop) (w : WS) (H : Heap) : Prop :=
  (∀ x, w.2.1 x → va_at G.1 vwCl (w.1 x, w.2.2 x) H) ∧ (∀ x y, w.2.1 x → w.2.1 y → w.1 x = w.1 y → x = y) ∧ ∀ x, w.2.1 x → A (w.1 x)
/-- what the tables and the statics give, wherever the machine stands -/
def EN (e0 : Nat × Nat) (A : Nat → Prop) (U : State) : Prop :=
  (∀ x, Cond.declares x ∈ lw_tbl → va_Nw (.declares x) U) ∧
  (∀ C T, Cond.castable C T ∈ lw_tbl → va_Nw (.castable C T) U) ∧
  (∀ C, Cond.arrayOver (.object C) ∈ lw_tbl → va_AO C U) ∧
  (∀ o k tx, Cond.stringRef o k tx ∈ lw_tbl → ∃ a, vk_R o k tx a U) ∧
  va_Mi "[Ljava/lang/Object;" e0.2 U ∧
  va_Nc "java/lang/IllegalStateException" "java/lang/IllegalArgumentException" U ∧
  vx_Zq Bundle.tN "UNASSIGNED_STACK" Bundle.steD A U U.heap ∧ vx_Zq Bundle.tN "SUPPRESSED_SENTINEL" Bundle.listD A U U.heap ∧
  va_Z "java/util/ArrayList" "DEFAULTCAPACITY_EMPTY_ELEMENTDATA" "[Ljava/lang/Object;" (.ref e0.1) A U U.heap ∧
  va_T (.object "java/lang/Object") e0.1 0 (fun _ => .null) A U U.heap
def VE (G : GG) (A : Nat → Prop) (U : State) : Prop := va_K G.1 vwCl (tyG G) U ∧ EN G.2.2 A U ∧ ∀ q, U.heap.size ≤ q → A q
def WR (G : GG) (A : Nat → Prop) (w : WS) (U : State) : Prop := VE G A U ∧ wd G A w U.heap
theorem EN.at {e0 : Nat × Nat} {A : Nat → Prop} {s U : State} {H : Heap} {locs : List Loc} (h : EN e0 A s) (hS : va_S A s.heap H locs) (hU : U.heap = H) (hW : s.WarmedH U.vm) : EN e0 A U := by
  obtain ⟨h1, h2, h3, h4, h5, h6, h7, h8, h9, h10⟩ := h
  refine ⟨fun x hx => (h1 x hx).warmD hW, fun C T hx => (h2 C T hx).warmC hW, fun C hx => (h3 C hx).moved hW.alike, fun o k tx hx => ?_, h5.moved hW.alike, h6.moved hW.alike, ?_, ?_, ?_, ?_⟩
  · obtain ⟨a, ha⟩ := h4 o k tx hx
    exact ⟨a, ha.warm hW⟩
  · rw [hU]; exact (h7.kept hS.2.1).moved hW.alike
  · rw [hU]; exact (h8.kept hS.2.1).moved hW.alike
  · rw [hU]; exact (h9.kept hS.2.1).moved hW.alike
  · rw [hU]; exact (h10.kept hS.2.1).moved hW.alike
theorem VE.at {G : GG} {A : Nat → Prop} {s U : State} {H : Heap} {locs : List Loc} (h : VE G A s) (hS : va_S A s.heap H locs) (hU : U.heap = H) (hW : s.WarmedH U.vm) : VE G A U :=
  ⟨va_K.moved hW.alike h.1, h.2.1.at hS hU hW, fun q hq => h.2.2 q (Nat.le_trans hS.1 (by rw [hU] at hq; exact hq))⟩
theorem WR.at {G : GG} {A : Nat → Prop} {w : WS} {s U : State} {H : Heap} {locs : List Loc} (h : VE G A s) (hS : va_S A s.heap H locs) (hW : wd G A w H) (hU : U.heap = H) (hw : s.WarmedH U.vm) : WR G A w U :=
  ⟨h.at hS hU hw, by rw [hU]; exact hW⟩
theorem WR.blind {G : GG} {A : Nat → Prop} {w : WS} {U : State} {g : JFrame} {mk : MethodId} {a : Array Value} (h : WR G A w U) : WR G A w (U.calling g mk a) :=
  WR.at (H := U.heap) (locs := []) h.1 va_S.rf h.2 rfl (State.WarmedH.refl U)
/-- a contract's end: an answer and a world, nothing outside A touched; or an exception, the world as it was -/
def QK (G : GG) (A : Nat → Prop) (post : Option Value → WS → Prop) : Array Value → State → Outcome → State → Prop := fun _ st oc t =>
  (∃ (v : Option Value) (w : WS), oc = .returned v ∧ post v w ∧ WR G A w t) ∧ va_F A st t
def XK (G : GG) (A : Nat → Prop) (w : WS) (px : String → Prop) : String → State → State → Prop := fun E st t => (px E ∧ WR G A w t) ∧ va_F A st t
def CT (l : Launch) (y : MethodName) (b : ByteArray) (n : Nat) (ret : Option FieldType) (rm : Room) (av : List Value) (G : GG) (A : Nat → Prop) (w : WS) (post : Option Value → WS → Prop) (px : String → Prop) (mc ms : Nat) : Prop :=
  vx_Met l y (.code y b n ret :: AL) rm (va_Pc av (WR G A w)) (QK G A post) (XK G A w px) mc ms A
abbrev Fx (p : Program) (m : MethodId) (c : Code) (cc : ByteArray) (nL : Nat) (s : State) (args : Array Value) (own : String) : Prop := CallFix p m c cc nL s args AL own
theorem ct_of {l : Launch} {y : MethodName} {b : ByteArray} {n : Nat} {ret : Option FieldType} {rm : Room} {av : List Value} {G : GG} {A : Nat → Prop} {w : WS} {post : Option Value → WS → Prop} {px : String → Prop} {mc ms : Nat}
    (hy : plainName y.cls = true) (hn : (lg_sl av).length ≤ n)
    (body : ∀ (p : Program) (e : Env) (s : State) (m : MethodId) (below : List Frame) (meth : Method) (c : Code) (ls : Array Slot), Fx p m c b n s av.toArray y.cls → meth.sig.returnType = ret → meth.locks = false → meth.name = y.name → (∀ x ∈ c.exceptionTable.toList, False) → VE G A s → wd G A w s.heap → lv_has ls n (lv_args 0 av) →
      W p l e rm s m av.toArray below meth c s.heap [] 0 0 (vx_MQ below (QK G A post) (XK G A w px) av.toArray s mc ms A) (F0 m 0 ls [])) : CT l y b n ret rm av G A w post px mc ms := by
  refine vx_ofW (cc := b) (maxL := n) (ret := ret) hy rfl ?_
  intro p e s m args below meth c s₁ B hml hex hv
  obtain ⟨rfl, hV⟩ := hv
  rw [lg_entry_eq]
  exact body p e s m below meth c _ ⟨B.exec, B.bytes, hml, findClass_of_methodNamed B.named, fun w hw => atoms_spec B.pre w (List.mem_cons_of_mem _ hw)⟩ B.returns B.notSynchronized (name_of_methodNamed B.named B.method).1 hex hV.1 hV.2 (lv_entry av hn)
section KC
variable {p : Program} {l : Launch} {e : Env} {R : Room} {s : State} {m : MethodId} {args : Array Value} {below : List Frame} {meth : Method} {c : Code} {H : Heap} {locs : List Loc} {cells slots : Nat} {Q : State → Prop}
variable {cc b : ByteArray} {pc nL n mc ms index : Nat} {ls : Array Slot} {rest st As av : List Value} {own C : String} {y : MethodName} {ret : Option FieldType} {rm : Room} {G : GG} {A : Nat → Prop} {w w' : WS} {post : Option Value → WS → Prop} {px : String → Prop} {XC : String → State → State → Prop}
theorem kr_i {v : Int32} (F : Fx p m c cc nL s args own) (hr : meth.sig.returnType = some .int) (hlk : meth.locks = false) (hE : VE G A s) (hW : wd G A w' H) (hS : va_S A s.heap H locs) (h1 : cells ≤ mc) (h2 : slots ≤ ms) (hdg : decode cc pc = .ok (.ireturn, 1)) (hp : post (some (.int v)) w') :
    W p l e R s m args below meth c H locs cells slots (vx_MQ below (QK G A post) XC args s mc ms A) (F0 m pc ls [.int v]) :=
  W.widen h1 h2 (vx_ret (W.iret F.1 F.2.1 hr (fun t ht hv => ⟨⟨_, _, rfl, hp, WR.at hE hS hW ht hv⟩, hS.F ht⟩) hS.2.2 hdg hlk))
theorem kr_z {v : Int32} {ty : FieldType} (F : Fx p m c cc nL s args own) (hr : meth.sig.returnType = some ty) (hlk : meth.locks = false) (hE : VE G A s) (hW : wd G A w' H) (hS : va_S A s.heap H locs) (h1 : cells ≤ mc) (h2 : slots ≤ ms) (hn : narrow ty (.int v) = .int v) (hdg : decode cc pc = .ok (.ireturn, 1)) (hp : post (some (.int v)) w') :
    W p l e R s m args below meth c H locs cells slots (vx_MQ below (QK G A post) XC args s mc ms A) (F0 m pc ls [.int v]) :=
  W.widen h1 h2 (vx_ret (W.zret F.1 F.2.1 hr hn (fun t ht hv => ⟨⟨_, _, rfl, hp, WR.at hE hS hW ht hv⟩, hS.F ht⟩) hS.2.2 hdg hlk))
theorem kr_v (F : Fx p m c cc nL s args own) (hr : meth.sig.returnType = none) (hlk : meth.locks = false) (hE : VE G A s) (hW : wd G A w' H) (hS : va_S A s.heap H locs) (h1 : cells ≤ mc) (h2 : slots ≤ ms) (hdg : decode cc pc = .ok (.return_, 1)) (hp : post none w') :
    W p l e R s m args below meth c H locs cells slots (vx_MQ below (QK G A post) XC args s mc ms A) (F0 m pc ls []) :=
  W.widen h1 h2 (vx_ret (W.vret F.1 F.2.1 hr (fun t ht hv => ⟨⟨_, _, rfl, hp, WR.at hE hS hW ht hv⟩, hS.F ht⟩) hS.2.2 hdg hlk))
theorem kr_a {v : Value} {rt : FieldType} (F : Fx p m c cc nL s args own) (hr : meth.sig.returnType = some rt) (hlk : meth.locks = false) (hE : VE G A s) (hW : wd G A w' H) (hS : va_S A s.heap H locs) (h1 : cells ≤ mc) (h2 : slots ≤ ms) (hrt : (∃ n, rt = .object n) ∨ ∃ t, rt = .array t) (hv0 : v = .null ∨ ∃ a, v = .ref a) (hdg : decode cc pc = .ok (.areturn, 1)) (hp : post (some v) w') :
    W p l e R s m args below meth c H locs cells slots (vx_MQ below (QK G A post) XC args s mc ms A) (F0 m pc ls [v]) :=
  W.widen h1 h2 (vx_ret (W.aret F.1 F.2.1 hr hrt hv0 (fun t ht hv => ⟨⟨_, _, rfl, hp, WR.at hE hS hW ht hv⟩, hS.F ht⟩) hS.2.2 hdg hlk))
/-- behind a call -/
theorem kc_run {a : Array Value} (hr : vx_Run p l e R s m args below meth c H locs cells slots mc ms (F0 m pc ls st) rest (QK G A post a) (XK G A w px) A) (hS : va_S A s.heap H locs)
    (kx : ∀ (E : String) (q9 : Addr) (ce : Cell) (H1 : Heap) (locs1 : List Loc), px E → wd G A w H1 → va_S A s.heap H1 locs1 → H1[q9]? = some ce → ce.vm = .none → s.vm.findClass E = some ce.cls → vx_W p l e R s m args below meth c H1 locs1 (cells + mc) (slots + ms) Q (F0 m pc ls rest) q9)
    (kk : ∀ (v : Option Value) (w' : WS) (H1 : Heap) (locs1 : List Loc), post v w' → wd G A w' H1 → va_S A s.heap H1 locs1 → W p l e R s m args below meth c H1 locs1 (cells + mc) (slots + ms) Q (F0 m (pc + 3) ls (v.toList ++ rest))) :
    W p l e R s m args below meth c H locs cells slots Q (F0 m pc ls st) := by
  intro T hT X
  rcases hr T hT X with ⟨v, st₀, t, T', L, h0, X', hL, e1, e2, ⟨⟨v', w', hv, hp, hb⟩, hF⟩, st⟩ | ⟨q, st₀, t, T', L, E, ce, h0, X', hL, e1, e2, ⟨⟨hp, hb⟩, hF⟩, hce, hcv, hcl, st⟩
  · cases hv
    obtain ⟨k1, k2, k3⟩ := vx_keep (A1 := A) h0 e1 hS (fun _ _ h => h) (fun _ h => h) hL hF
    obtain ⟨t2, a1, b1⟩ := kk v w' T'.heap (locs ++ L) hp (by rw [e1]; exact hb.2) k3 T' rfl X'
    exact ⟨t2, st t2 a1, b1⟩
  · obtain ⟨k1, k2, k3⟩ := vx_keep (A1 := A) h0 e1 hS (fun _ _ h => h) (fun _ h => h) hL hF
    obtain ⟨t2, a1, b1⟩ := kx E q ce T'.heap (locs ++ L) hp (by rw [e1]; exact hb.2) k3 (by rw [e1]; exact hce) hcv hcl T' rfl X'
    exact ⟨t2, st.trans a1, b1⟩
theorem wd_recv {x : Lb} {ci : Nat} {fs : List Value} {q : vw_C} (hK : va_K G.1 vwCl (tyG G) s) (hW : wd G A w H) (hd : w.2.1 x) (he : w.2.2 x = .inr (ci, fs)) (hc : vwCl[ci]? = some q) : ∃ cell : Cell, H[w.1 x]? = some cell ∧ cell.vm.isStatics = false ∧ s.vm.findClass q.1 = some cell.cls := by
  have h := hW.1 x hd
  rw [he] at h
  obtain ⟨q', h1, cell, g1, g2, g3, -⟩ := h
  exact ⟨cell, g1, by rw [g3]; rfl, by rw [g2]; exact (hK.1 ci q hc).2.1⟩
theorem kc_V (np : Nat) (hM : CT l y b n ret rm av G A w post px mc ms) (F : Fx p m c cc nL s args own) (hE : VE G A s) (hW : wd G A w H) (hS : va_S A s.heap H locs)
    (x : Lb) (hd : w.2.1 x) {ci : Nat} {fs : List Value} (he : w.2.2 x = .inr (ci, fs)) {T : u_T} {N : Nat} (hc : vwCl[ci]? = some (C, T, N)) (As : List Value) (hav : av = .ref (w.1 x) :: As)
    (k1 : Cond.methodLink own index y ∈ AL) (k2 : Cond.instanceMethod y ∈ AL) (k3 : Cond.selects C y y ∈ AL) (k4 : Cond.initialized C ∈ AL) (k5 : Cond.code y b n ret ∈ AL)
    (hd2 : y.cls = C ∧ y.cls ≠ "java/lang/invoke/MethodHandle" ∧ y.cls ≠ "java/lang/invoke/VarHandle" ∧ (parseMethodDescriptor y.desc).map (fun d => d.parameters.length) = some np) (hnp : As.length = np)
    (hrm : rm.cells = mc ∧ rm.slots = ms) (hR : rm.frames + 1 ≤ R.frames ∧ 8 + (n + 11) + rm.locals ≤ R.locals) (hls : ls.size = nL) (hst : st = As.reverse ++ .ref (w.1 x) :: rest) (hcat : (rest.map fun v => v.category).sum ≤ 8) (hdg : decode cc pc = .ok (.invokevirtual index, 3)) (hf : cells + mc ≤ R.cells ∧ slots + ms ≤ R.slots)
    (kx : ∀ (E : String) (q9 : Addr) (ce : Cell) (H1 : Heap) (locs1 : List Loc), px E → wd G A w H1 → va_S A s.heap H1 locs1 → H1[q9]? = some ce → ce.vm = .none → s.vm.findClass E = some ce.cls → vx_W p l e R s m args below meth c H1 locs1 (cells + mc) (slots + ms) Q (F0 m pc ls rest) q9)
    (kk : ∀ (v : Option Value) (w' : WS) (H1 : Heap) (locs1 : List Loc), post v w' → wd G A w' H1 → va_S A s.heap H1 locs1 → W p l e R s m args below meth c H1 locs1 (cells + mc) (slots + ms) Q (F0 m (pc + 3) ls (v.toList ++ rest))) :
    W p l e R s m args below meth c H locs cells slots Q (F0 m pc ls st) := by
  subst hav
  have hG : GoodIn AL (wsV own index C y (.code y b n ret :: AL)) := by
    intro w hw
    unfold wsV at hw
    rcases List.mem_append.mp hw with h | h
    · simp only [List.mem_cons, List.not_mem_nil, or_false] at h
      rcases h with rfl | rfl | rfl | rfl <;> exact gAL _ (by assumption)
    · rcases List.mem_cons.mp h with rfl | h
      · exact gAL _ k5
      · exact gAL _ h
  exact kc_run (vx_runV (As := As) (rest := rest) F hM (cwV np F.2.2.2.2 hG rfl hrm.1 hrm.2 hd2 hR)
    ⟨fun a U g mk h => ⟨h.1, h.2.blind⟩, wd_recv hE.1 hW hd he hc, fun U hU hw => ⟨rfl, WR.at hE hS hW hU hw⟩⟩ rfl hnp hls hst (by simpa [JFrame.monitorRoom] using hcat) hdg hf) hS kx kk
theorem kc_S (np : Nat) (hM : CT l y b n ret rm As G A w post px mc ms) (F : Fx p m c cc nL s args own) (hE : VE G A s) (hW : wd G A w H) (hS : va_S A s.heap H locs)
    (k1 : Cond.methodLink own index y ∈ AL) (k2 : Cond.static y ∈ AL) (k4 : Cond.initialized y.cls ∈ AL) (k5 : Cond.code y b n ret ∈ AL)
    (hd2 : y.cls ≠ "java/lang/invoke/MethodHandle" ∧ y.cls ≠ "java/lang/invoke/VarHandle" ∧ (parseMethodDescriptor y.desc).map (fun d => d.parameters.length) = some np) (hnp : As.length = np)
    (hrm : rm.cells = mc ∧ rm.slots = ms) (hR : rm.frames + 1 ≤ R.frames ∧ 8 + (n + 11) + rm.locals ≤ R.locals) (hls : ls.size = nL) (hst : st = As.reverse ++ rest) (hcat : (rest.map fun v => v.category).sum ≤ 8) (hdg : decode cc pc = .ok (.invokestatic index, 3)) (hf : cells + mc ≤ R.cells ∧ slots + ms ≤ R.slots)
    (kx : ∀ (E : String) (q9 : Addr) (ce : Cell) (H1 : Heap) (locs1 : List Loc), px E → wd G A w H1 → va_S A s.heap H1 locs1 → H1[q9]? = some ce → ce.vm = .none → s.vm.findClass E = some ce.cls → vx_W p l e R s m args below meth c H1 locs1 (cells + mc) (slots + ms) Q (F0 m pc ls rest) q9)
    (kk : ∀ (v : Option Value) (w' : WS) (H1 : Heap) (locs1 : List Loc), post v w' → wd G A w' H1 → va_S A s.heap H1 locs1 → W p l e R s m args below meth c H1 locs1 (cells + mc) (slots + ms) Q (F0 m (pc + 3) ls (v.toList ++ rest))) :
    W p l e R s m args below meth c H locs cells slots Q (F0 m pc ls st) := by
  have hG : GoodIn AL (va_wsS own index y (.code y b n ret :: AL)) := by
    intro w hw
    unfold va_wsS at hw
    rcases List.mem_append.mp hw with h | h
    · simp only [List.mem_cons, List.not_mem_nil, or_false] at h
      rcases h with rfl | rfl | rfl <;> exact gAL _ (by assumption)
    · rcases List.mem_cons.mp h with rfl | h
      · exact gAL _ k5
      · exact gAL _ h
  exact kc_run (vx_runS (As := As) (rest := rest) F hM (va_cwS np F.2.2.2.2 hG rfl hrm.1 hrm.2 hd2 hR)
    ⟨fun a U g mk h => ⟨h.1, h.2.blind⟩, fun U hU hw => ⟨rfl, WR.at hE hS hW hU hw⟩⟩ rfl hnp hls hst (by simpa [JFrame.monitorRoom] using hcat) hdg hf) hS kx kk
end KC
end
section
/-! Rows over the world of labels: fields, arrays, new cells. -/
/-- one label's content changed -/
def lu (f : Lb → va_E) (x : Lb) (e : va_E) : Lb → va_E := fun z => if z = x then e else f z
theorem lu_s {f : Lb → va_E} {x : Lb} {e : va_E} : lu f x e x = e := by simp [lu]
theorem lu_n {f : Lb → va_E} {x z : Lb} {e : va_E} (h : z ≠ x) : lu f x e z = f z := by simp [lu, h]
theorem wd_one {G : GG} {A : Nat → Prop} {w : WS} {H : Heap} {x : Lb} {a : Nat} {e : va_E} (hW : wd G A w H) (hd : w.2.1 x) (ha : w.1 x = a) (he : w.2.2 x = e) : va_P G.1 vwCl [(a, e)] H := by
  intro k q hq
  cases k with
  | zero => cases hq; subst ha; subst he; exact hW.1 x hd
  | succ k => simp at hq
theorem wd_set {G : GG} {A : Nat → Prop} {w : WS} {H H1 : Heap} {x : Lb} {a : Nat} {e : va_E} (hW : wd G A w H) (hd : w.2.1 x) (ha : w.1 x = a) (he : va_at G.1 vwCl (a, e) H1) (oq : ∀ q : Nat, q ≠ a → H1[q]? = H[q]?) : wd G A (w.1, w.2.1, lu w.2.2 x e) H1 := by
  subst ha
  refine ⟨fun z hz => ?_, hW.2.1, hW.2.2⟩
  by_cases h : z = x
  · subst h
    show va_at G.1 vwCl (w.1 z, lu w.2.2 z e z) H1
    rw [lu_s]; exact he
  · show va_at G.1 vwCl (w.1 z, lu w.2.2 x e z) H1
    rw [lu_n h]
    exact (hW.1 z hz).kept (oq _ (fun q => h (hW.2.1 z x hz hd q)))
theorem wd_new {G : GG} {A : Nat → Prop} {w : WS} {H H1 : Heap} (x : Lb) {q : Nat} {e : va_E} (hW : wd G A w H) (hx : ¬ w.2.1 x) (hq : H.size ≤ q) (hA : A q) (he : va_at G.1 vwCl (q, e) H1) (oq : ∀ q : Nat, q < H.size → H1[q]? = H[q]?) :
    wd G A (fun z => if z = x then q else w.1 z, fun z => z = x ∨ w.2.1 z, lu w.2.2 x e) H1 := by
  have hlt : ∀ z, w.2.1 z → w.1 z < H.size := fun z hz => (hW.1 z hz).lt
  refine ⟨fun z hz => ?_, fun y z hy hz hyz => ?_, fun z hz => ?_⟩
  · by_cases h : z = x
    · subst h
      show va_at G.1 vwCl (if z = z then q else w.1 z, lu w.2.2 z e z) H1
      rw [lu_s, if_pos rfl]; exact he
    · show va_at G.1 vwCl (if z = x then q else w.1 z, lu w.2.2 x e z) H1
      rw [lu_n h, if_neg h]
      have hz' : w.2.1 z := hz.resolve_left h
      exact (hW.1 z hz').kept (oq _ (hlt z hz'))
  · dsimp only at hyz
    by_cases h1 : y = x <;> by_cases h2 : z = x
    · rw [h1, h2]
    · rw [if_pos h1, if_neg h2] at hyz
      have := hlt z (hz.resolve_left h2)
      omega
    · rw [if_neg h1, if_pos h2] at hyz
      have := hlt y (hy.resolve_left h1)
      omega
    · rw [if_neg h1, if_neg h2] at hyz
      exact hW.2.1 y z (hy.resolve_left h1) (hz.resolve_left h2) hyz
  · dsimp only
    by_cases h : z = x
    · rw [if_pos h]; exact hA
    · rw [if_neg h]; exact hW.2.2 z (hz.resolve_left h)
theorem nI_vp {i : Int32} {j n : Nat} (hi : i = nI j) (hj : j < n) (hn : n < 2 ^ 31) : vp_in i n := by rw [hi]; exact vp_in_nI hj hn
theorem nI_c {i : Int32} {j n : Nat} (hi : i = nI j) (hj : j < n) (hn : n < 2 ^ 31) : i.toNatClampNeg = j := by rw [hi]; exact nI_clamp (Nat.lt_trans hj hn)
section KR
variable {p : Program} {l : Launch} {e : Env} {R : Room} {s : State} {m : MethodId} {args : Array Value} {below : List Frame} {meth : Method} {c : Code} {H : Heap} {locs : List Loc} {cells slots : Nat} {Q : State → Prop}
variable {cc : ByteArray} {pc nL index : Nat} {ls : Array Slot} {rest : List Value} {own : String} {G : GG} {A : Nat → Prop} {w : WS} {a : Nat}
theorem kgS (F : Fx p m c cc nL s args own) (hE : VE G A s) (hW : wd G A w H) (x : Lb) (hd : w.2.1 x) (ha : w.1 x = a) {ci : Nat} {fs : List Value} (he : w.2.2 x = .inr (ci, fs)) {C : String} {T : u_T} {N : Nat} (hc : vwCl[ci]? = some (C, T, N)) (hin : ∀ u ∈ u_ws C T N, u ∈ AL) (k : Nat) (hk : k < N) {ref : String} (hlink : Cond.fieldLink own index ref (T k).2.1 (T k).2.2.1 ∈ AL)
    (hsame : ∀ x, s.fieldFound? (T k).1 (T k).2.1 (T k).2.2.1 = some x → s.fieldFound? ref (T k).2.1 (T k).2.2.1 = some x) {v : Value} (hv : fs[k]? = some v) (hdg : decode cc pc = .ok (.getfield index, 3))
    (kk : W p l e R s m args below meth c H locs cells slots Q (F0 m (pc + 3) ls (v :: rest))) : W p l e R s m args below meth c H locs cells slots Q (F0 m pc ls (.ref a :: rest)) :=
  va_get F.1 F.2.1 F.2.2.2.2 hin F.2.2.2.1 hE.1 (wd_one hW hd ha he) 0 rfl hc k hk (F.2.2.2.2 _ hlink) hsame hv hdg kk
theorem kg (F : Fx p m c cc nL s args own) (hE : VE G A s) (hW : wd G A w H) (x : Lb) (hd : w.2.1 x) (ha : w.1 x = a) {ci : Nat} {fs : List Value} (he : w.2.2 x = .inr (ci, fs)) {C : String} {T : u_T} {N : Nat} (hc : vwCl[ci]? = some (C, T, N)) (hin : ∀ u ∈ u_ws C T N, u ∈ AL) (k : Nat) (hk : k < N) (hlink : Cond.fieldLink own index (T k).1 (T k).2.1 (T k).2.2.1 ∈ AL)
    {v : Value} (hv : fs[k]? = some v) (hdg : decode cc pc = .ok (.getfield index, 3))
    (kk : W p l e R s m args below meth c H locs cells slots Q (F0 m (pc + 3) ls (v :: rest))) : W p l e R s m args below meth c H locs cells slots Q (F0 m pc ls (.ref a :: rest)) :=
  kgS F hE hW x hd ha he hc hin k hk hlink (fun _ h => h) hv hdg kk
theorem kpS (F : Fx p m c cc nL s args own) (hE : VE G A s) (hW : wd G A w H) (hS : va_S A s.heap H locs) (x : Lb) (hd : w.2.1 x) (ha : w.1 x = a) {ci : Nat} {fs : List Value} (he : w.2.2 x = .inr (ci, fs)) {C : String} {T : u_T} {N : Nat} (hc : vwCl[ci]? = some (C, T, N)) (hin : ∀ u ∈ u_ws C T N, u ∈ AL)
    (ty0 : Nat → FieldType) (hty : ∀ k, k < N → parseFieldDescriptor (T k).2.2.1 = some (ty0 k)) (hnm : ∀ a, a < N → ∀ b, b < N → a ≠ b → (T a).2.1 ≠ (T b).2.1) (k : Nat) (hk : k < N) {ref : String} (hlink : Cond.fieldLink own index ref (T k).2.1 (T k).2.2.1 ∈ AL)
    (hsame : ∀ x, s.fieldFound? (T k).1 (T k).2.1 (T k).2.2.1 = some x → s.fieldFound? ref (T k).2.1 (T k).2.2.1 = some x) (hfin : (T k).2.2.2 = false) {v : Value} (hn : narrow (ty0 k) v = v) (hfit : fits (ty0 k) v = true) (hl : k < fs.length) (hdg : decode cc pc = .ok (.putfield index, 3))
    (kk : ∀ (ct : Lb → va_E) (H1 : Heap) (locs1 : List Loc), wd G A (w.1, w.2.1, ct) H1 → ct x = .inr (ci, fs.set k v) → (∀ z, z ≠ x → ct z = w.2.2 z) → va_S A s.heap H1 locs1 → W p l e R s m args below meth c H1 locs1 cells slots Q (F0 m (pc + 3) ls rest)) :
    W p l e R s m args below meth c H locs cells slots Q (F0 m pc ls (v :: .ref a :: rest)) := by
  have hts := F.2.2.2.2
  have hK := hE.1
  have hap := va_apart (own := own) hts hin ty0 hty hnm hK hc
  have he1 : va_at G.1 vwCl (a, .inr (ci, fs)) H := by rw [← he, ← ha]; exact hW.1 x hd
  obtain ⟨r, h1, cell, q1, q2, q3, q4⟩ := he1
  have hr : r = (C, T, N) := Option.some.inj (h1.symm.trans hc)
  subst hr
  obtain ⟨hS0, hfc, kC, hkC, hkind⟩ := hK.1 ci _ hc
  obtain ⟨cf, kf, fi, f, hi, hsl⟩ := hS0 k hk
  have hlay := hts _ (hin _ (u_in_lay hk))
  unfold u_lay at hlay
  rw [if_neg (by rw [hfin]; decide)] at hlay
  have hst := (u_facts hfc hkC (u_lays hts hin hk) hi).1
  have h6 := u_store hfc hkC hkind hlay hi (hty k hk) hn hfit
  refine W.putK F.1 F.2.1 (f := f) ⟨F.2.2.2.1, hts _ hlink, ⟨_, _, _, hsame _ hi⟩, hst⟩ (by rw [q2]; exact h6) q1 q3 (by rw [hsl]; exact k2_hasslot (q4 k hk)) rfl rfl hdg fun H' e1 e2 e3 => ?_
  rw [hsl] at e1 ⊢
  exact kk _ H' _ (wd_set hW hd ha (e := .inr (ci, fs.set k v)) ⟨_, hc, t_OB.to (V := updV (vp_V fs) k v) ⟨_, e1, q2, q3, t_set q4 hap hk v⟩ (fun j _ => vp_updV_set hl v j)⟩ e3) lu_s (fun z hz => lu_n hz) (hS.put e2 e3 (by rw [← ha]; exact hW.2.2 x hd))
theorem kp (F : Fx p m c cc nL s args own) (hE : VE G A s) (hW : wd G A w H) (hS : va_S A s.heap H locs) (x : Lb) (hd : w.2.1 x) (ha : w.1 x = a) {ci : Nat} {fs : List Value} (he : w.2.2 x = .inr (ci, fs)) {C : String} {T : u_T} {N : Nat} (hc : vwCl[ci]? = some (C, T, N)) (hin : ∀ u ∈ u_ws C T N, u ∈ AL)
    (ty0 : Nat → FieldType) (hty : ∀ k, k < N → parseFieldDescriptor (T k).2.2.1 = some (ty0 k)) (hnm : ∀ a, a < N → ∀ b, b < N → a ≠ b → (T a).2.1 ≠ (T b).2.1) (k : Nat) (hk : k < N) (hlink : Cond.fieldLink own index (T k).1 (T k).2.1 (T k).2.2.1 ∈ AL)
    (hfin : (T k).2.2.2 = false) {v : Value} (hn : narrow (ty0 k) v = v) (hfit : fits (ty0 k) v = true) (hl : k < fs.length) (hdg : decode cc pc = .ok (.putfield index, 3))
    (kk : ∀ (ct : Lb → va_E) (H1 : Heap) (locs1 : List Loc), wd G A (w.1, w.2.1, ct) H1 → ct x = .inr (ci, fs.set k v) → (∀ z, z ≠ x → ct z = w.2.2 z) → va_S A s.heap H1 locs1 → W p l e R s m args below meth c H1 locs1 cells slots Q (F0 m (pc + 3) ls rest)) :
    W p l e R s m args below meth c H locs cells slots Q (F0 m pc ls (v :: .ref a :: rest)) :=
  kpS F hE hW hS x hd ha he hc hin ty0 hty hnm k hk hlink (fun _ h => h) hfin hn hfit hl hdg kk
theorem kpF (F : Fx p m c cc nL s args own) (hE : VE G A s) (hW : wd G A w H) (hS : va_S A s.heap H locs) (hin2 : meth.name = "<init>") (x : Lb) (hd : w.2.1 x) (ha : w.1 x = a) {ci : Nat} {fs : List Value} (he : w.2.2 x = .inr (ci, fs)) {C : String} {T : u_T} {N : Nat} (hc : vwCl[ci]? = some (C, T, N)) (hin : ∀ u ∈ u_ws C T N, u ∈ AL)
    (ty0 : Nat → FieldType) (hty : ∀ k, k < N → parseFieldDescriptor (T k).2.2.1 = some (ty0 k)) (hnm : ∀ a, a < N → ∀ b, b < N → a ≠ b → (T a).2.1 ≠ (T b).2.1) (k : Nat) (hk : k < N) (hlink : Cond.fieldLink own index (T k).1 (T k).2.1 (T k).2.2.1 ∈ AL)
    (hfin : (T k).2.2.2 = true) (hdecl : (T k).1 = own) {v : Value} (hn : narrow (ty0 k) v = v) (hfit : fits (ty0 k) v = true) (hl : k < fs.length) (hdg : decode cc pc = .ok (.putfield index, 3))
    (kk : ∀ (ct : Lb → va_E) (H1 : Heap) (locs1 : List Loc), wd G A (w.1, w.2.1, ct) H1 → ct x = .inr (ci, fs.set k v) → (∀ z, z ≠ x → ct z = w.2.2 z) → va_S A s.heap H1 locs1 → W p l e R s m args below meth c H1 locs1 cells slots Q (F0 m (pc + 3) ls rest)) :
    W p l e R s m args below meth c H locs cells slots Q (F0 m pc ls (v :: .ref a :: rest)) := by
  have hts := F.2.2.2.2
  have hK := hE.1
  have hap := va_apart (own := own) hts hin ty0 hty hnm hK hc
  have he1 : va_at G.1 vwCl (a, .inr (ci, fs)) H := by rw [← he, ← ha]; exact hW.1 x hd
  obtain ⟨r, h1, cell, q1, q2, q3, q4⟩ := he1
  have hr : r = (C, T, N) := Option.some.inj (h1.symm.trans hc)
  subst hr
  obtain ⟨hS0, hfc, kC, hkC, hkind⟩ := hK.1 ci _ hc
  obtain ⟨cf, kf, fi, f, hi, hsl⟩ := hS0 k hk
  have hlay := hts _ (hin _ (u_in_lay hk))
  unfold u_lay at hlay
  rw [if_pos hfin] at hlay
  have hst := (u_facts hfc hkC (u_lays hts hin hk) hi).1
  have hcf : m.cls = cf := by
    obtain ⟨_, _, c', _, _, _, -, -, hf', -, -, -, hown2, -⟩ := Cond.laysFinal_spec hlay
    have e1 : c' = cf := by have := hi.symm.trans hf'; simp at this; exact this.1.symm
    rw [hdecl] at hown2
    rw [← e1]; exact Option.some.inj (F.2.2.2.1.symm.trans hown2)
  have h6 := u_fits hfc hkC hkind (Or.inr hlay) hi (hty k hk) hn hfit
  refine W.putFinK F.1 F.2.1 F.2.2.2.1 (hts _ hlink) hi hst hcf hin2 (by rw [q2]; exact h6) q1 q3 (by rw [hsl]; exact k2_hasslot (q4 k hk)) rfl rfl hdg fun H' e1 e2 e3 => ?_
  rw [hsl] at e1 ⊢
  exact kk _ H' _ (wd_set hW hd ha (e := .inr (ci, fs.set k v)) ⟨_, hc, t_OB.to (V := updV (vp_V fs) k v) ⟨_, e1, q2, q3, t_set q4 hap hk v⟩ (fun j _ => vp_updV_set hl v j)⟩ e3) lu_s (fun z hz => lu_n hz) (hS.put e2 e3 (by rw [← ha]; exact hW.2.2 x hd))
-- arrays
theorem kl_i (F : Fx p m c cc nL s args own) (hE : VE G A s) (hW : wd G A w H) (x : Lb) (hd : w.2.1 x) (ha : w.1 x = a) {n : Nat} {f : Nat → Int32} (he : w.2.2 x = .inl (G.2.1 0, n, .inl f)) {i : Int32} (j : Nat) (hi : i = nI j) (hj : j < n) (hn : n < 2 ^ 31) (hdg : decode cc pc = .ok (.iaload, 1))
    (kk : W p l e R s m args below meth c H locs cells slots Q (F0 m (pc + 1) ls (.int (f j) :: rest))) : W p l e R s m args below meth c H locs cells slots Q (F0 m pc ls (.int i :: .ref a :: rest)) :=
  va_iald F.1 F.2.1 hE.1 (wd_one hW hd ha he) 0 0 rfl rfl (nI_vp hi hj hn) hdg (by rw [nI_c hi hj hn]; exact kk)
theorem kl_z (F : Fx p m c cc nL s args own) (hE : VE G A s) (hW : wd G A w H) (x : Lb) (hd : w.2.1 x) (ha : w.1 x = a) {n : Nat} {f : Nat → Int32} (he : w.2.2 x = .inl (G.2.1 1, n, .inl f)) {i : Int32} (j : Nat) (hi : i = nI j) (hj : j < n) (hn : n < 2 ^ 31) (hdg : decode cc pc = .ok (.baload, 1))
    (kk : W p l e R s m args below meth c H locs cells slots Q (F0 m (pc + 1) ls (.int (f j) :: rest))) : W p l e R s m args below meth c H locs cells slots Q (F0 m pc ls (.int i :: .ref a :: rest)) :=
  va_zald F.1 F.2.1 hE.1 (wd_one hW hd ha he) 0 1 rfl rfl (nI_vp hi hj hn) hdg (by rw [nI_c hi hj hn]; exact kk)
theorem kl_l (F : Fx p m c cc nL s args own) (hE : VE G A s) (hW : wd G A w H) (x : Lb) (hd : w.2.1 x) (ha : w.1 x = a) {n : Nat} {f : Nat → Int64} (he : w.2.2 x = .inl (G.2.1 5, n, .inr (.inl f))) {i : Int32} (j : Nat) (hi : i = nI j) (hj : j < n) (hn : n < 2 ^ 31) (hdg : decode cc pc = .ok (.laload, 1))
    (kk : W p l e R s m args below meth c H locs cells slots Q (F0 m (pc + 1) ls (.long (f j) :: rest))) : W p l e R s m args below meth c H locs cells slots Q (F0 m pc ls (.int i :: .ref a :: rest)) :=
  va_lald F.1 F.2.1 hE.1 (wd_one hW hd ha he) 0 5 rfl rfl (nI_vp hi hj hn) hdg (by rw [nI_c hi hj hn]; exact kk)
theorem kl_a (t0 : Nat) {C : String} (F : Fx p m c cc nL s args own) (hE : VE G A s) (hW : wd G A w H) (x : Lb) (hd : w.2.1 x) (ha : w.1 x = a) {cA : ClassId} (ht : (tyG G)[t0]? = some (cA, .object C)) {n : Nat} {f : Nat → Option Nat} (he : w.2.2 x = .inl (cA, n, .inr (.inr (.inr (.inr f))))) {i : Int32} (j : Nat) (hi : i = nI j) (hj : j < n) (hn : n < 2 ^ 31) {v : Value} (hv : va_rf (f j) = v) (hdg : decode cc pc = .ok (.aaload, 1))
    (kk : W p l e R s m args below meth c H locs cells slots Q (F0 m (pc + 1) ls (v :: rest))) : W p l e R s m args below meth c H locs cells slots Q (F0 m pc ls (.int i :: .ref a :: rest)) :=
  va_aldq F.1 F.2.1 hE.1 (wd_one hW hd ha he) 0 t0 rfl ht (nI_vp hi hj hn) hdg (by rw [nI_c hi hj hn, hv]; exact kk)
theorem kal (t0 : Nat) {ty : FieldType} (F : Fx p m c cc nL s args own) (hE : VE G A s) (hW : wd G A w H) (x : Lb) (hd : w.2.1 x) (ha : w.1 x = a) {cA : ClassId} (ht : (tyG G)[t0]? = some (cA, ty)) {z : vp_A} (he : w.2.2 x = .inl (cA, z)) (hdg : decode cc pc = .ok (.arraylength, 1))
    (kk : W p l e R s m args below meth c H locs cells slots Q (F0 m (pc + 1) ls (.int (nI z.1) :: rest))) : W p l e R s m args below meth c H locs cells slots Q (F0 m pc ls (.ref a :: rest)) :=
  va_alen F.1 F.2.1 hE.1 (wd_one hW hd ha he) 0 t0 rfl ht rfl hdg kk
theorem ks_i (F : Fx p m c cc nL s args own) (hE : VE G A s) (hW : wd G A w H) (hS : va_S A s.heap H locs) (x : Lb) (hd : w.2.1 x) (ha : w.1 x = a) {n : Nat} {f : Nat → Int32} (he : w.2.2 x = .inl (G.2.1 0, n, .inl f)) {i v : Int32} (j : Nat) (hi : i = nI j) (hj : j < n) (hn : n < 2 ^ 31) (hdg : decode cc pc = .ok (.iastore, 1))
    (kk : ∀ (ct : Lb → va_E) (H1 : Heap) (locs1 : List Loc), wd G A (w.1, w.2.1, ct) H1 → ct x = .inl (G.2.1 0, n, .inl (va_up f j v)) → (∀ z, z ≠ x → ct z = w.2.2 z) → va_S A s.heap H1 locs1 → W p l e R s m args below meth c H1 locs1 cells slots Q (F0 m (pc + 1) ls rest)) :
    W p l e R s m args below meth c H locs cells slots Q (F0 m pc ls (.int v :: .int i :: .ref a :: rest)) := by
  have he1 : H[a]? = some (vp_cell (G.2.1 0) (n, .inl f)) := by have h := hW.1 x hd; rw [he, ha] at h; exact h
  refine W.iast F.1 F.2.1 he1 ((hE.1.2 0 _ rfl).1 n (fun j => .int (f j))) (fun q => by cases q) (by show ¬ (i < 0 ∨ (arrV _ _ _).slots.size ≤ _); rw [arrV_size]; exact nI_vp hi hj hn) rfl rfl hdg fun H1 e z oq => ?_
  refine kk _ H1 _ (wd_set hW hd ha ?_ oq) lu_s (fun z hz => lu_n hz) (hS.put z oq (by rw [← ha]; exact hW.2.2 x hd))
  show H1[a]? = some (vp_cell _ _)
  rw [e, nI_c hi hj hn]
  rw [vp_cell_i, vp_cell_i, arrV_store]
  congr 2
  funext q
  by_cases hq : q = j
  · subst hq; simp [updV, va_up]
  · simp [updV, va_up, hq]
theorem ks_z (F : Fx p m c cc nL s args own) (hE : VE G A s) (hW : wd G A w H) (hS : va_S A s.heap H locs) (x : Lb) (hd : w.2.1 x) (ha : w.1 x = a) {n : Nat} {f : Nat → Int32} (he : w.2.2 x = .inl (G.2.1 1, n, .inl f)) {i v v' : Int32} (j : Nat) (hi : i = nI j) (hj : j < n) (hn : n < 2 ^ 31) (hv : vp_nar .boolean v = v') (hdg : decode cc pc = .ok (.bastore, 1))
    (kk : ∀ (ct : Lb → va_E) (H1 : Heap) (locs1 : List Loc), wd G A (w.1, w.2.1, ct) H1 → ct x = .inl (G.2.1 1, n, .inl (va_up f j v')) → (∀ z, z ≠ x → ct z = w.2.2 z) → va_S A s.heap H1 locs1 → W p l e R s m args below meth c H1 locs1 cells slots Q (F0 m (pc + 1) ls rest)) :
    W p l e R s m args below meth c H locs cells slots Q (F0 m pc ls (.int v :: .int i :: .ref a :: rest)) := by
  subst hv
  have he1 : H[a]? = some (vp_cell (G.2.1 1) (n, .inl f)) := by have h := hW.1 x hd; rw [he, ha] at h; exact h
  refine W.zast F.1 F.2.1 he1 ((hE.1.2 1 _ rfl).1 n (fun j => .int (f j))) (fun q => by cases q) (by show ¬ (i < 0 ∨ (arrV _ _ _).slots.size ≤ _); rw [arrV_size]; exact nI_vp hi hj hn) rfl rfl hdg fun H1 e z oq => ?_
  refine kk _ H1 _ (wd_set hW hd ha ?_ oq) lu_s (fun z hz => lu_n hz) (hS.put z oq (by rw [← ha]; exact hW.2.2 x hd))
  show H1[a]? = some (vp_cell _ _)
  rw [e, nI_c hi hj hn]
  rw [vp_cell_i, vp_cell_i, arrV_store]
  congr 2
  funext q
  by_cases hq : q = j
  · subst hq
    simp [updV, va_up, vp_nar]
    try rfl
  · simp [updV, va_up, hq]
theorem ks_l (F : Fx p m c cc nL s args own) (hE : VE G A s) (hW : wd G A w H) (hS : va_S A s.heap H locs) (x : Lb) (hd : w.2.1 x) (ha : w.1 x = a) {n : Nat} {f : Nat → Int64} (he : w.2.2 x = .inl (G.2.1 5, n, .inr (.inl f))) {i : Int32} {v : Int64} (j : Nat) (hi : i = nI j) (hj : j < n) (hn : n < 2 ^ 31) (hdg : decode cc pc = .ok (.lastore, 1))
    (kk : ∀ (ct : Lb → va_E) (H1 : Heap) (locs1 : List Loc), wd G A (w.1, w.2.1, ct) H1 → ct x = .inl (G.2.1 5, n, .inr (.inl (va_up f j v))) → (∀ z, z ≠ x → ct z = w.2.2 z) → va_S A s.heap H1 locs1 → W p l e R s m args below meth c H1 locs1 cells slots Q (F0 m (pc + 1) ls rest)) :
    W p l e R s m args below meth c H locs cells slots Q (F0 m pc ls (.long v :: .int i :: .ref a :: rest)) := by
  have he1 : H[a]? = some (vp_cell (G.2.1 5) (n, .inr (.inl f))) := by have h := hW.1 x hd; rw [he, ha] at h; exact h
  refine W.last F.1 F.2.1 he1 ((hE.1.2 5 _ rfl).1 n (fun j => .long (f j))) (fun q => by cases q) (by show ¬ (i < 0 ∨ (arrV _ _ _).slots.size ≤ _); rw [arrV_size]; exact nI_vp hi hj hn) rfl rfl hdg fun H1 e z oq => ?_
  refine kk _ H1 _ (wd_set hW hd ha ?_ oq) lu_s (fun z hz => lu_n hz) (hS.put z oq (by rw [← ha]; exact hW.2.2 x hd))
  show H1[a]? = some (vp_cell _ _)
  rw [e, nI_c hi hj hn]
  rw [vp_cell_l, vp_cell_l, arrV_store]
  congr 2
  funext q
  by_cases hq : q = j
  · subst hq; simp [updV, va_up]
  · simp [updV, va_up, hq]
/-- a reference into an array of its own class -/
theorem ks_a (t0 : Nat) {r : vw_C} (F : Fx p m c cc nL s args own) (hE : VE G A s) (hW : wd G A w H) (hS : va_S A s.heap H locs) (x : Lb) (hd : w.2.1 x) (ha : w.1 x = a) {cA : ClassId} (ht : (tyG G)[t0]? = some (cA, .object r.1)) {n : Nat} {f : Nat → Option Nat} (he : w.2.2 x = .inl (cA, n, .inr (.inr (.inr (.inr f)))))
    (y : Lb) (hdy : w.2.1 y) {v : Nat} (hay : w.1 y = v) {ci : Nat} {vs : List Value} (hey : w.2.2 y = .inr (ci, vs)) (hc : vwCl[ci]? = some r) {i : Int32} (j : Nat) (hi : i = nI j) (hj : j < n) (hn : n < 2 ^ 31) (hdg : decode cc pc = .ok (.aastore, 1))
    (kk : ∀ (ct : Lb → va_E) (H1 : Heap) (locs1 : List Loc), wd G A (w.1, w.2.1, ct) H1 → ct x = .inl (cA, n, .inr (.inr (.inr (.inr (va_up f j (some v)))))) → (∀ z, z ≠ x → ct z = w.2.2 z) → va_S A s.heap H1 locs1 → W p l e R s m args below meth c H1 locs1 cells slots Q (F0 m (pc + 1) ls rest)) :
    W p l e R s m args below meth c H locs cells slots Q (F0 m pc ls (.ref v :: .int i :: .ref a :: rest)) := by
  have he1 : H[a]? = some (vp_cell cA (n, .inr (.inr (.inr (.inr f))))) := by have h := hW.1 x hd; rw [he, ha] at h; exact h
  have he2 : va_at G.1 vwCl (v, .inr (ci, vs)) H := by have h := hW.1 y hdy; rw [hey, hay] at h; exact h
  obtain ⟨r', hr', cellV, g1, g2, g3, -⟩ := he2
  have hcls := (hE.1.1 ci r hc).2
  obtain ⟨kA, comp, k1, k2, k3, -⟩ := (hE.1.2 t0 _ ht).2
  have hcomp : comp = G.1.1 ci := Option.some.inj (k3.symm.trans hcls.1)
  subst hcomp
  obtain ⟨kC, hkC, -⟩ := hcls.2
  have hin := nI_vp hi hj hn
  refine W.aast F.1 F.2.1 he1 (fun q h => by cases h) (fun h => by cases h) k1 k2 rfl hkC ⟨fun q => hin (Or.inl q), by show _ < (arrV _ _ _).slots.size; rw [arrV_size, nI_c hi hj hn]; exact hj⟩ g1 (fun q h => by rw [g3] at h; cases h) (by rw [g2]; exact hkC) (by rw [g2]; exact va_assign hcls) rfl rfl hdg fun H1 e z oq => ?_
  refine kk _ H1 _ (wd_set hW hd ha ?_ oq) lu_s (fun z hz => lu_n hz) (hS.put z oq (by rw [← ha]; exact hW.2.2 x hd))
  show H1[a]? = some (vp_cell _ _)
  rw [e, nI_c hi hj hn]
  rw [vp_cell_q, vp_cell_q, arrV_store]
  congr 2
  funext q
  by_cases hq : q = j
  · subst hq; simp [updV, va_up, va_rf]
  · simp [updV, va_up, hq]
theorem ks_n (t0 : Nat) {C : String} (F : Fx p m c cc nL s args own) (hE : VE G A s) (hW : wd G A w H) (hS : va_S A s.heap H locs) (x : Lb) (hd : w.2.1 x) (ha : w.1 x = a) {cA : ClassId} (ht : (tyG G)[t0]? = some (cA, .object C)) {n : Nat} {f : Nat → Option Nat} (he : w.2.2 x = .inl (cA, n, .inr (.inr (.inr (.inr f)))))
    {i : Int32} (j : Nat) (hi : i = nI j) (hj : j < n) (hn : n < 2 ^ 31) (hdg : decode cc pc = .ok (.aastore, 1))
    (kk : ∀ (ct : Lb → va_E) (H1 : Heap) (locs1 : List Loc), wd G A (w.1, w.2.1, ct) H1 → ct x = .inl (cA, n, .inr (.inr (.inr (.inr (va_up f j none))))) → (∀ z, z ≠ x → ct z = w.2.2 z) → va_S A s.heap H1 locs1 → W p l e R s m args below meth c H1 locs1 cells slots Q (F0 m (pc + 1) ls rest)) :
    W p l e R s m args below meth c H locs cells slots Q (F0 m pc ls (.null :: .int i :: .ref a :: rest)) := by
  have he1 : H[a]? = some (vp_cell cA (n, .inr (.inr (.inr (.inr f))))) := by have h := hW.1 x hd; rw [he, ha] at h; exact h
  refine va_WaastN (C := C) F.1 F.2.1 he1 ((hE.1.2 t0 _ ht).1 n (fun j => va_rf (f j))) (fun h => by cases h) (by show ¬ (i < 0 ∨ (arrV _ _ _).slots.size ≤ _); rw [arrV_size]; exact nI_vp hi hj hn) rfl rfl hdg fun H1 e z oq => ?_
  refine kk _ H1 _ (wd_set hW hd ha ?_ oq) lu_s (fun z hz => lu_n hz) (hS.put z oq (by rw [← ha]; exact hW.2.2 x hd))
  show H1[a]? = some (vp_cell _ _)
  rw [e, nI_c hi hj hn]
  rw [vp_cell_q, vp_cell_q, arrV_store]
  congr 2
  funext q
  by_cases hq : q = j
  · subst hq; simp [updV, va_up, va_rf]
  · simp [updV, va_up, hq]
/-- new cells, with labels that none had -/
abbrev wnew (w : WS) (x : Lb) (q : Nat) (e : va_E) : WS := (fun z => if z = x then q else w.1 z, fun z => z = x ∨ w.2.1 z, lu w.2.2 x e)
theorem kn_o (F : Fx p m c cc nL s args own) (hE : VE G A s) (hW : wd G A w H) (hS : va_S A s.heap H locs) (x : Lb) (hx : ¬ w.2.1 x) {ci : Nat} {C : String} {T : u_T} {N : Nat} (hc : vwCl[ci]? = some (C, T, N)) (hin : ∀ u ∈ u_ws C T N, u ∈ AL) (ty0 : Nat → FieldType) (hty : ∀ k, k < N → parseFieldDescriptor (T k).2.2.1 = some (ty0 k))
    (hcl : Cond.classLink own index C ∈ AL) (hinst : Cond.instantiable C N ∈ AL) (hini : Cond.initialized C ∈ AL) {fs : List Value} (hfs : ∀ j, j < N → defaultValue (ty0 j) = vp_V fs j) (hcells : cells + 1 ≤ R.cells) (hslots : slots + N ≤ R.slots) (hdg : decode cc pc = .ok (.new index, 3))
    (kk : ∀ (q : Nat) (H1 : Heap), wd G A (wnew w x q (.inr (ci, fs))) H1 → va_S A s.heap H1 locs → H.size ≤ q → W p l e R s m args below meth c H1 locs (cells + 1) (slots + N) Q (F0 m (pc + 3) ls (.ref q :: rest))) :
    W p l e R s m args below meth c H locs cells slots Q (F0 m pc ls rest) := by
  have hts := F.2.2.2.2
  have hKn := hE.1.1 ci _ hc
  refine W.newcK F.1 F.2.1 F.2.2.2.1 (hts _ hcl) (hts _ hinst) (hts _ hini) rfl hdg hcells hslots hKn.2.1 rfl fun H1 kC hkC e1 z1 o1 => ?_
  refine kk H.size H1 (wd_new x hW hx (Nat.le_refl _) (hE.2.2 _ hS.1) ⟨_, hc, (u_born ty0 hts hin hKn hkC e1 hty).to hfs⟩ o1) ⟨Nat.le_trans hS.1 (by omega), fun x h1 h2 => (o1 x (Nat.lt_of_lt_of_le h1 hS.1)).trans (hS.2.1 x h1 h2), hS.2.2⟩ (Nat.le_refl _)
/-- the array class of a new array is the one that the tables name -/
theorem ra_eq {cA cB : ClassId} {ty : FieldType} (h1 : va_RA s cA ty) (h2 : va_RA s cB ty) : cA = cB := by
  cases ty with
  | object C =>
    obtain ⟨_, _, -, -, -, e1⟩ := h1
    obtain ⟨_, _, -, -, -, e2⟩ := h2
    exact Option.some.inj (e1.symm.trans e2)
  | _ => exact Option.some.inj (Eq.trans (Eq.symm h1) h2)
theorem kn_a (t0 : Nat) {atype : ArrayType} (F : Fx p m c cc nL s args own) (hE : VE G A s) (hW : wd G A w H) (hS : va_S A s.heap H locs) (x : Lb) (hx : ¬ w.2.1 x) (harr : Cond.arrayClass (newarray.typeOf atype) ∈ AL) {ty : FieldType} (hty : newarray.typeOf atype = ty) {cA : ClassId} (ht : (tyG G)[t0]? = some (cA, ty))
    {i : Int32} {N : Nat} {a0 : vp_A} (ha : ∀ cA : ClassId, vp_cell cA a0 = arrV cA N (fun _ => defaultValue ty)) (hi : i = nI N) (hN : N < 2 ^ 31) (hbytes : N * componentBytes ty ≤ 536870912) (hcells : cells + 1 ≤ R.cells) (hslots : slots + N ≤ R.slots) (hdg : decode cc pc = .ok (.newarray atype, 2))
    (kk : ∀ (q : Nat) (H1 : Heap), wd G A (wnew w x q (.inl (cA, a0))) H1 → va_S A s.heap H1 locs → H.size ≤ q → W p l e R s m args below meth c H1 locs (cells + 1) (slots + N) Q (F0 m (pc + 2) ls (.ref q :: rest))) :
    W p l e R s m args below meth c H locs cells slots Q (F0 m pc ls (.int i :: rest)) := by
  subst hty
  subst hi
  refine va_newaK F.1 F.2.1 (F.2.2.2.2 _ harr) rfl hdg rfl (nI_pos hN) (nI_clamp hN) hbytes hcells hslots rfl fun H1 cB e1 z1 o1 hAr hNm => ?_
  have hc : cB = cA := by
    refine ra_eq (s := s) (ty := newarray.typeOf atype) ?_ (hE.1.2 t0 _ ht).2
    cases atype <;> exact hNm
  subst hc
  refine kk H.size H1 (wd_new x hW hx (Nat.le_refl _) (hE.2.2 _ hS.1) (by show H1[H.size]? = some (vp_cell _ _); rw [ha]; exact e1) o1) ⟨Nat.le_trans hS.1 (by omega), fun x h1 h2 => (o1 x (Nat.lt_of_lt_of_le h1 hS.1)).trans (hS.2.1 x h1 h2), hS.2.2⟩ (Nat.le_refl _)
theorem kn_q (t0 : Nat) {C : String} (F : Fx p m c cc nL s args own) (hE : VE G A s) (hW : wd G A w H) (hS : va_S A s.heap H locs) (x : Lb) (hx : ¬ w.2.1 x) (hcl : Cond.classLink own index C ∈ AL) (hov : Cond.arrayOver (.object C) ∈ lw_tbl) {cA : ClassId} (ht : (tyG G)[t0]? = some (cA, .object C))
    {i : Int32} {N : Nat} (hi : i = nI N) (hN : N < 2 ^ 31) (hbytes : N * 4 ≤ 536870912) (hcells : cells + 1 ≤ R.cells) (hslots : slots + N ≤ R.slots) (hdg : decode cc pc = .ok (.anewarray index, 3))
    (kk : ∀ (q : Nat) (H1 : Heap), wd G A (wnew w x q (.inl (cA, N, .inr (.inr (.inr (.inr (fun _ => none))))))) H1 → va_S A s.heap H1 locs → H.size ≤ q → W p l e R s m args below meth c H1 locs (cells + 1) (slots + N) Q (F0 m (pc + 3) ls (.ref q :: rest))) :
    W p l e R s m args below meth c H locs cells slots Q (F0 m pc ls (.int i :: rest)) := by
  subst hi
  have hNN := nI_clamp hN
  refine W.anew F.1 F.2.1 F.2.2.2.1 (F.2.2.2.2 _ hcl) (va_AO.use (hE.2.1.2.2.1 C hov)) rfl hdg rfl (nI_pos hN) (by rw [hNN]; exact hbytes) hcells (by rw [hNN]; exact hslots) fun cB kA comp f1 f2 f3 f4 => ?_
  rw [hNN]
  generalize hH1 : H.push ({ cls := cB, slots := Array.replicate N .null, vm := .none } : Cell) = H1
  have z1 : H1.size = H.size + 1 := by rw [← hH1, Array.size_push]
  have e1 : H1[H.size]? = some (arrV cB N (fun _ => .null)) := by rw [← hH1, Array.getElem?_push_size, ← arrV_new]
  have o1 : ∀ q : Nat, q < H.size → H1[q]? = H[q]? := fun q hq => by rw [← hH1, Array.getElem?_push, if_neg (Nat.ne_of_lt hq)]
  have hc : cB = cA := ra_eq (s := s) (ty := .object C) ⟨kA, comp, f2, f3, f4, f1⟩ (hE.1.2 t0 _ ht).2
  subst hc
  refine kk H.size H1 (wd_new x hW hx (Nat.le_refl _) (hE.2.2 _ hS.1) ?_ o1) ⟨Nat.le_trans hS.1 (by omega), fun x h1 h2 => (o1 x (Nat.lt_of_lt_of_le h1 hS.1)).trans (hS.2.1 x h1 h2), hS.2.2⟩ (Nat.le_refl _)
  show H1[H.size]? = some (vp_cell _ _)
  rw [vp_cell_q]
  exact e1
end KR
end
section
/-! Small rows: numbers named as natural ones, branches over them. -/
theorem ki1 (a : Nat) : nI a + Int32.ofInt 1 = nI (a + 1) := nI_1 a
theorem ki3 (a : Nat) : nI a + Int32.ofInt 3 = nI (a + 3) := nI_add a 3
theorem kim1 (a : Nat) : nI (a + 1) + Int32.ofInt (-1) = nI a := pk_m1 a
theorem nb0 : narrow .boolean (.int (nI 0)) = .int (nI 0) := rfl
theorem nb1 : narrow .boolean (.int (nI 1)) = .int (nI 1) := rfl
theorem vn0 : vp_nar .boolean (nI 0) = nI 0 := rfl
theorem vn1 : vp_nar .boolean (nI 1) = nI 1 := rfl
theorem nI_neg {a : Nat} (h : a < 2 ^ 31) : ¬ nI a = -1 := by
  intro e
  have h1 := nI_toInt h
  rw [e] at h1
  have h2 : (-1 : Int32).toInt = -1 := by decide
  omega
theorem nI_inj {a b : Nat} (ha : a < 2 ^ 31) (hb : b < 2 ^ 31) (h : nI a = nI b) : a = b := (nI_eq ha hb).mp h
section ST
variable {p : Program} {l : Launch} {e : Env} {R : Room} {s : State} {m : MethodId} {args : Array Value} {below : List Frame} {meth : Method} {c : Code} {H : Heap} {locs : List Loc} {cells slots : Nat} {Q : State → Prop}
variable {cc : ByteArray} {pc : Nat} {ls : Array Slot} {rest : List Value}
theorem ktop {x y : Int32} (h : x = y) (k : W p l e R s m args below meth c H locs cells slots Q (F0 m pc ls (.int y :: rest))) : W p l e R s m args below meth c H locs cells slots Q (F0 m pc ls (.int x :: rest)) := by rw [h]; exact k
theorem ktopv {x y : Value} (h : x = y) (k : W p l e R s m args below meth c H locs cells slots Q (F0 m pc ls (y :: rest))) : W p l e R s m args below meth c H locs cells slots Q (F0 m pc ls (x :: rest)) := by rw [h]; exact k
theorem nc_lt (hx : p.tables.exec = Jvm.exec) (hb : c.code = cc) {a b : Nat} {off : Int} {tgt : Nat} (hdg : decode cc pc = .ok (.if_icmp .lt off, 3)) (ht : (pc : Int) + off = (tgt : Int)) (ha : a < 2 ^ 31) (hb2 : b < 2 ^ 31) (kt : a < b → W p l e R s m args below meth c H locs cells slots Q (F0 m tgt ls rest)) (kf : b ≤ a → W p l e R s m args below meth c H locs cells slots Q (F0 m (pc + 3) ls rest)) : W p l e R s m args below meth c H locs cells slots Q (F0 m pc ls (.int (nI b) :: .int (nI a) :: rest)) :=
  lv_icmp_lt hx hb hdg ht (fun h => kt ((nI_ltI ha hb2).mp h)) (fun h => kf (Nat.not_lt.mp fun q => h ((nI_ltI ha hb2).mpr q)))
theorem nc_ge (hx : p.tables.exec = Jvm.exec) (hb : c.code = cc) {a b : Nat} {off : Int} {tgt : Nat} (hdg : decode cc pc = .ok (.if_icmp .ge off, 3)) (ht : (pc : Int) + off = (tgt : Int)) (ha : a < 2 ^ 31) (hb2 : b < 2 ^ 31) (kt : b ≤ a → W p l e R s m args below meth c H locs cells slots Q (F0 m tgt ls rest)) (kf : a < b → W p l e R s m args below meth c H locs cells slots Q (F0 m (pc + 3) ls rest)) : W p l e R s m args below meth c H locs cells slots Q (F0 m pc ls (.int (nI b) :: .int (nI a) :: rest)) :=
  lv_icmp_ge hx hb hdg ht (fun h => kt ((nI_leI hb2 ha).mp h)) (fun h => kf (Nat.not_le.mp fun q => h ((nI_leI hb2 ha).mpr q)))
theorem nc_gt (hx : p.tables.exec = Jvm.exec) (hb : c.code = cc) {a b : Nat} {off : Int} {tgt : Nat} (hdg : decode cc pc = .ok (.if_icmp .gt off, 3)) (ht : (pc : Int) + off = (tgt : Int)) (ha : a < 2 ^ 31) (hb2 : b < 2 ^ 31) (kt : b < a → W p l e R s m args below meth c H locs cells slots Q (F0 m tgt ls rest)) (kf : a ≤ b → W p l e R s m args below meth c H locs cells slots Q (F0 m (pc + 3) ls rest)) : W p l e R s m args below meth c H locs cells slots Q (F0 m pc ls (.int (nI b) :: .int (nI a) :: rest)) :=
  lv_icmp_gt hx hb hdg ht (fun h => kt ((nI_ltI hb2 ha).mp h)) (fun h => kf (Nat.not_lt.mp fun q => h ((nI_ltI hb2 ha).mpr q)))
theorem nc_le (hx : p.tables.exec = Jvm.exec) (hb : c.code = cc) {a b : Nat} {off : Int} {tgt : Nat} (hdg : decode cc pc = .ok (.if_icmp .le off, 3)) (ht : (pc : Int) + off = (tgt : Int)) (ha : a < 2 ^ 31) (hb2 : b < 2 ^ 31) (kt : a ≤ b → W p l e R s m args below meth c H locs cells slots Q (F0 m tgt ls rest)) (kf : b < a → W p l e R s m args below meth c H locs cells slots Q (F0 m (pc + 3) ls rest)) : W p l e R s m args below meth c H locs cells slots Q (F0 m pc ls (.int (nI b) :: .int (nI a) :: rest)) :=
  lv_icmp_le hx hb hdg ht (fun h => kt ((nI_leI ha hb2).mp h)) (fun h => kf (Nat.not_le.mp fun q => h ((nI_leI ha hb2).mpr q)))
theorem nc_eq (hx : p.tables.exec = Jvm.exec) (hb : c.code = cc) {a b : Nat} {off : Int} {tgt : Nat} (hdg : decode cc pc = .ok (.if_icmp .eq off, 3)) (ht : (pc : Int) + off = (tgt : Int)) (ha : a < 2 ^ 31) (hb2 : b < 2 ^ 31) (kt : a = b → W p l e R s m args below meth c H locs cells slots Q (F0 m tgt ls rest)) (kf : a ≠ b → W p l e R s m args below meth c H locs cells slots Q (F0 m (pc + 3) ls rest)) : W p l e R s m args below meth c H locs cells slots Q (F0 m pc ls (.int (nI b) :: .int (nI a) :: rest)) :=
  lv_icmp_eq hx hb hdg ht (fun h => kt ((nI_eq ha hb2).mp h)) (fun h => kf fun q => h ((nI_eq ha hb2).mpr q))
theorem nc_ne (hx : p.tables.exec = Jvm.exec) (hb : c.code = cc) {a b : Nat} {off : Int} {tgt : Nat} (hdg : decode cc pc = .ok (.if_icmp .ne off, 3)) (ht : (pc : Int) + off = (tgt : Int)) (ha : a < 2 ^ 31) (hb2 : b < 2 ^ 31) (kt : a ≠ b → W p l e R s m args below meth c H locs cells slots Q (F0 m tgt ls rest)) (kf : a = b → W p l e R s m args below meth c H locs cells slots Q (F0 m (pc + 3) ls rest)) : W p l e R s m args below meth c H locs cells slots Q (F0 m pc ls (.int (nI b) :: .int (nI a) :: rest)) :=
  lv_icmp_ne hx hb hdg ht (fun h => kt fun q => h ((nI_eq ha hb2).mpr q)) (fun h => kf ((nI_eq ha hb2).mp h))
theorem nz_eq (hx : p.tables.exec = Jvm.exec) (hb : c.code = cc) {a : Nat} {off : Int} {tgt : Nat} (hdg : decode cc pc = .ok (.ifCond .eq off, 3)) (ht : (pc : Int) + off = (tgt : Int)) (ha : a < 2 ^ 31) (kt : a = 0 → W p l e R s m args below meth c H locs cells slots Q (F0 m tgt ls rest)) (kf : a ≠ 0 → W p l e R s m args below meth c H locs cells slots Q (F0 m (pc + 3) ls rest)) : W p l e R s m args below meth c H locs cells slots Q (F0 m pc ls (.int (nI a) :: rest)) :=
  lv_if_eq hx hb hdg ht (fun h => kt ((nI_eq (b := 0) ha (by decide)).mp h)) (fun h => kf fun q => h ((nI_eq (b := 0) ha (by decide)).mpr q))
theorem nz_ne (hx : p.tables.exec = Jvm.exec) (hb : c.code = cc) {a : Nat} {off : Int} {tgt : Nat} (hdg : decode cc pc = .ok (.ifCond .ne off, 3)) (ht : (pc : Int) + off = (tgt : Int)) (ha : a < 2 ^ 31) (kt : a ≠ 0 → W p l e R s m args below meth c H locs cells slots Q (F0 m tgt ls rest)) (kf : a = 0 → W p l e R s m args below meth c H locs cells slots Q (F0 m (pc + 3) ls rest)) : W p l e R s m args below meth c H locs cells slots Q (F0 m pc ls (.int (nI a) :: rest)) :=
  lv_if_ne hx hb hdg ht (fun h => kt fun q => h ((nI_eq (b := 0) ha (by decide)).mpr q)) (fun h => kf ((nI_eq (b := 0) ha (by decide)).mp h))
theorem nz_lt (hx : p.tables.exec = Jvm.exec) (hb : c.code = cc) {a : Nat} {off : Int} (hdg : decode cc pc = .ok (.ifCond .lt off, 3)) {tgt : Nat} (ht : (pc : Int) + off = (tgt : Int)) (ha : a < 2 ^ 31) (kf : W p l e R s m args below meth c H locs cells slots Q (F0 m (pc + 3) ls rest)) : W p l e R s m args below meth c H locs cells slots Q (F0 m pc ls (.int (nI a) :: rest)) :=
  lv_if_lt hx hb hdg ht (fun h => absurd h (nI_pos ha)) (fun _ => kf)
theorem nz_le (hx : p.tables.exec = Jvm.exec) (hb : c.code = cc) {a : Nat} {off : Int} {tgt : Nat} (hdg : decode cc pc = .ok (.ifCond .le off, 3)) (ht : (pc : Int) + off = (tgt : Int)) (ha : a < 2 ^ 31) (kt : a = 0 → W p l e R s m args below meth c H locs cells slots Q (F0 m tgt ls rest)) (kf : 0 < a → W p l e R s m args below meth c H locs cells slots Q (F0 m (pc + 3) ls rest)) : W p l e R s m args below meth c H locs cells slots Q (F0 m pc ls (.int (nI a) :: rest)) :=
  lv_if_le hx hb hdg ht (fun h => kt (by have := (nI_leI (a := a) (b := 0) ha (by decide)).mp h; omega)) (fun h => kf (Nat.pos_of_ne_zero fun q => h (by subst q; exact Int32.le_refl _)))
theorem nz_gt (hx : p.tables.exec = Jvm.exec) (hb : c.code = cc) {a : Nat} {off : Int} {tgt : Nat} (hdg : decode cc pc = .ok (.ifCond .gt off, 3)) (ht : (pc : Int) + off = (tgt : Int)) (ha : a < 2 ^ 31) (kt : 0 < a → W p l e R s m args below meth c H locs cells slots Q (F0 m tgt ls rest)) (kf : a = 0 → W p l e R s m args below meth c H locs cells slots Q (F0 m (pc + 3) ls rest)) : W p l e R s m args below meth c H locs cells slots Q (F0 m pc ls (.int (nI a) :: rest)) :=
  lv_if_gt hx hb hdg ht (fun h => kt ((nI_ltI (a := 0) (b := a) (by decide) ha).mp h)) (fun h => kf (by
    rcases Nat.eq_zero_or_pos a with q | q
    · exact q
    · exact absurd ((nI_ltI (a := 0) (b := a) (by decide) ha).mpr q) h))
theorem nz_ge (hx : p.tables.exec = Jvm.exec) (hb : c.code = cc) {a : Nat} {off : Int} {tgt : Nat} (hdg : decode cc pc = .ok (.ifCond .ge off, 3)) (ht : (pc : Int) + off = (tgt : Int)) (ha : a < 2 ^ 31) (kt : W p l e R s m args below meth c H locs cells slots Q (F0 m tgt ls rest)) : W p l e R s m args below meth c H locs cells slots Q (F0 m pc ls (.int (nI a) :: rest)) :=
  lv_if_ge hx hb hdg ht (fun _ => kt) (fun h => absurd (nI_pos' ha) h)
end ST
end
section
/-! A page: its object and its three arrays, by the labels (1..4, n); rows that write it. -/
theorem inA_X0 : ∀ w ∈ u_ws RX0 TX0 4, w ∈ AL := fun w h => al_of ((by decide +kernel : ∀ w ∈ u_ws RX0 TX0 4, w ∈ lw_tbl) w h) ((by decide +kernel : ∀ w ∈ u_ws RX0 TX0 4, goodWord w = true) w h)
theorem inA_X1 : ∀ w ∈ u_ws RX1 TX1 11, w ∈ AL := fun w h => al_of ((by decide +kernel : ∀ w ∈ u_ws RX1 TX1 11, w ∈ lw_tbl) w h) ((by decide +kernel : ∀ w ∈ u_ws RX1 TX1 11, goodWord w = true) w h)
theorem inA_X2 : ∀ w ∈ u_ws RX2 TX2 8, w ∈ AL := fun w h => al_of ((by decide +kernel : ∀ w ∈ u_ws RX2 TX2 8, w ∈ lw_tbl) w h) ((by decide +kernel : ∀ w ∈ u_ws RX2 TX2 8, goodWord w = true) w h)
theorem inA_X3 : ∀ w ∈ u_ws RX3 TX3 20, w ∈ AL := fun w h => al_of ((by decide +kernel : ∀ w ∈ u_ws RX3 TX3 20, w ∈ lw_tbl) w h) ((by decide +kernel : ∀ w ∈ u_ws RX3 TX3 20, goodWord w = true) w h)
theorem inA_JL : ∀ w ∈ u_ws RJx4a65c TJx4a65c 3, w ∈ AL := fun w h => al_of ((by decide +kernel : ∀ w ∈ u_ws RJx4a65c TJx4a65c 3, w ∈ lw_tbl) w h) ((by decide +kernel : ∀ w ∈ u_ws RJx4a65c TJx4a65c 3, goodWord w = true) w h)
def pgF (ad : Lb → Nat) (n le lo sz hi : Nat) (ri : Option Nat) (de ta : Nat) : List Value := [.int (nI n), .int (nI le), .int (nI lo), .ref (ad (2, n)), .ref (ad (3, n)), .ref (ad (4, n)), .int (nI sz), .int (nI hi), va_rf ri, .int (nI de), .int (nI ta)]
def PG (G : GG) (ad : Lb → Nat) (dm : Lb → Prop) (ct : Lb → va_E) (n le lo sz hi : Nat) (ri : Option Nat) (de ta : Nat) (kf vf : Nat → Int32) (cf : Nat → Option Nat) : Prop :=
  (dm (1, n) ∧ dm (2, n) ∧ dm (3, n) ∧ dm (4, n)) ∧ ct (1, n) = .inr (2, pgF ad n le lo sz hi ri de ta) ∧ ct (2, n) = .inl (G.2.1 0, 5, .inl kf) ∧ ct (3, n) = .inl (G.2.1 0, 5, .inl vf) ∧ ct (4, n) = .inl (G.2.1 2, 5, .inr (.inr (.inr (.inr cf))))
/-- nothing changed but the page n -/
def XP (n : Nat) (ct ct1 : Lb → va_E) : Prop := ∀ x : Lb, (x.1 = 0 ∨ 4 < x.1 ∨ x.2 ≠ n) → ct1 x = ct x
theorem XP.rf {n : Nat} {ct : Lb → va_E} : XP n ct ct := fun _ _ => rfl
theorem XP.tr {n : Nat} {ct ct1 ct2 : Lb → va_E} (h1 : XP n ct ct1) (h2 : XP n ct1 ct2) : XP n ct ct2 := fun x hx => (h2 x hx).trans (h1 x hx)
theorem XP.of {n k : Nat} {ct ct1 : Lb → va_E} (hk : 1 ≤ k) (hk4 : k ≤ 4) (h : ∀ z : Lb, z ≠ (k, n) → ct1 z = ct z) : XP n ct ct1 := fun x hx => h x (by rintro rfl; simp at hx; omega)
theorem lb_ne {j k n i : Nat} (h : j ≠ k) : ((j, n) : Lb) ≠ (k, i) := fun e => h (congrArg Prod.fst e)
theorem PG.other {G : GG} {ad : Lb → Nat} {dm : Lb → Prop} {ct ct1 : Lb → va_E} {n k le lo sz hi : Nat} {ri : Option Nat} {de ta : Nat} {kf vf : Nat → Int32} {cf : Nat → Option Nat} (h : PG G ad dm ct k le lo sz hi ri de ta kf vf cf) (hX : XP n ct ct1) (hk : k ≠ n) : PG G ad dm ct1 k le lo sz hi ri de ta kf vf cf :=
  ⟨h.1, (hX _ (Or.inr (Or.inr hk))).trans h.2.1, (hX _ (Or.inr (Or.inr hk))).trans h.2.2.1, (hX _ (Or.inr (Or.inr hk))).trans h.2.2.2.1, (hX _ (Or.inr (Or.inr hk))).trans h.2.2.2.2⟩
section PR
variable {p : Program} {l : Launch} {e : Env} {R : Room} {s : State} {m : MethodId} {args : Array Value} {below : List Frame} {meth : Method} {c : Code} {H : Heap} {locs : List Loc} {cells slots : Nat} {Q : State → Prop}
variable {cc : ByteArray} {pc nL index : Nat} {ls : Array Slot} {rest : List Value} {own : String} {G : GG} {A : Nat → Prop} {ad : Lb → Nat} {dm : Lb → Prop} {ct : Lb → va_E}
variable {n le lo sz hi : Nat} {ri : Option Nat} {de ta : Nat} {kf vf : Nat → Int32} {cf : Nat → Option Nat}
theorem pg_o {ct1 : Lb → va_E} {sz' hi' : Nat} {ri' : Option Nat} {de' ta' : Nat} (hP : PG G ad dm ct n le lo sz hi ri de ta kf vf cf) (h1 : ct1 (1, n) = .inr (2, pgF ad n le lo sz' hi' ri' de' ta')) (hf : ∀ z : Lb, z ≠ (1, n) → ct1 z = ct z) : PG G ad dm ct1 n le lo sz' hi' ri' de' ta' kf vf cf ∧ XP n ct ct1 :=
  ⟨⟨hP.1, h1, (hf _ (lb_ne (by decide))).trans hP.2.2.1, (hf _ (lb_ne (by decide))).trans hP.2.2.2.1, (hf _ (lb_ne (by decide))).trans hP.2.2.2.2⟩, XP.of (by decide) (by decide) hf⟩
theorem pg_size {v : Nat} (F : Fx p m c cc nL s args own) (hE : VE G A s) (hW : wd G A (ad, dm, ct) H) (hS : va_S A s.heap H locs) (hP : PG G ad dm ct n le lo sz hi ri de ta kf vf cf) (hlink : Cond.fieldLink own index "Highkey$Page" "size" "I" ∈ AL) (hdg : decode cc pc = .ok (.putfield index, 3))
    (kk : ∀ (ct1 : Lb → va_E) (H1 : Heap) (locs1 : List Loc), wd G A (ad, dm, ct1) H1 → PG G ad dm ct1 n le lo v hi ri de ta kf vf cf → XP n ct ct1 → va_S A s.heap H1 locs1 → W p l e R s m args below meth c H1 locs1 cells slots Q (F0 m (pc + 3) ls rest)) :
    W p l e R s m args below meth c H locs cells slots Q (F0 m pc ls (.int (nI v) :: .ref (ad (1, n)) :: rest)) :=
  kp F hE hW hS (1, n) hP.1.1 rfl hP.2.1 rfl inA_X1 tyX1 tyX1_ok nmX1 6 (by decide) hlink rfl rfl rfl (Nat.le_of_ble_eq_true rfl) hdg fun ct1 H1 locs1 hW1 hc hf hS1 => kk ct1 H1 locs1 hW1 (pg_o hP hc hf).1 (pg_o (sz' := v) hP hc hf).2 hS1
theorem pg_high {v : Nat} (F : Fx p m c cc nL s args own) (hE : VE G A s) (hW : wd G A (ad, dm, ct) H) (hS : va_S A s.heap H locs) (hP : PG G ad dm ct n le lo sz hi ri de ta kf vf cf) (hlink : Cond.fieldLink own index "Highkey$Page" "high" "I" ∈ AL) (hdg : decode cc pc = .ok (.putfield index, 3))
    (kk : ∀ (ct1 : Lb → va_E) (H1 : Heap) (locs1 : List Loc), wd G A (ad, dm, ct1) H1 → PG G ad dm ct1 n le lo sz v ri de ta kf vf cf → XP n ct ct1 → va_S A s.heap H1 locs1 → W p l e R s m args below meth c H1 locs1 cells slots Q (F0 m (pc + 3) ls rest)) :
    W p l e R s m args below meth c H locs cells slots Q (F0 m pc ls (.int (nI v) :: .ref (ad (1, n)) :: rest)) :=
  kp F hE hW hS (1, n) hP.1.1 rfl hP.2.1 rfl inA_X1 tyX1 tyX1_ok nmX1 7 (by decide) hlink rfl rfl rfl (Nat.le_of_ble_eq_true rfl) hdg fun ct1 H1 locs1 hW1 hc hf hS1 => kk ct1 H1 locs1 hW1 (pg_o hP hc hf).1 (pg_o (hi' := v) hP hc hf).2 hS1
theorem pg_right {v : Option Nat} {vv : Value} (hv : va_rf v = vv) (F : Fx p m c cc nL s args own) (hE : VE G A s) (hW : wd G A (ad, dm, ct) H) (hS : va_S A s.heap H locs) (hP : PG G ad dm ct n le lo sz hi ri de ta kf vf cf) (hlink : Cond.fieldLink own index "Highkey$Page" "right" "LHighkey$Page;" ∈ AL) (hdg : decode cc pc = .ok (.putfield index, 3))
    (kk : ∀ (ct1 : Lb → va_E) (H1 : Heap) (locs1 : List Loc), wd G A (ad, dm, ct1) H1 → PG G ad dm ct1 n le lo sz hi v de ta kf vf cf → XP n ct ct1 → va_S A s.heap H1 locs1 → W p l e R s m args below meth c H1 locs1 cells slots Q (F0 m (pc + 3) ls rest)) :
    W p l e R s m args below meth c H locs cells slots Q (F0 m pc ls (vv :: .ref (ad (1, n)) :: rest)) := by
  subst hv
  exact kp F hE hW hS (1, n) hP.1.1 rfl hP.2.1 rfl inA_X1 tyX1 tyX1_ok nmX1 8 (by decide) hlink rfl (by cases v <;> rfl) (by cases v <;> rfl) (Nat.le_of_ble_eq_true rfl) hdg fun ct1 H1 locs1 hW1 hc hf hS1 => kk ct1 H1 locs1 hW1 (pg_o hP hc hf).1 (pg_o (ri' := v) hP hc hf).2 hS1
theorem pg_dead (F : Fx p m c cc nL s args own) (hE : VE G A s) (hW : wd G A (ad, dm, ct) H) (hS : va_S A s.heap H locs) (hP : PG G ad dm ct n le lo sz hi ri de ta kf vf cf) (hlink : Cond.fieldLink own index "Highkey$Page" "dead" "Z" ∈ AL) (hdg : decode cc pc = .ok (.putfield index, 3))
    (kk : ∀ (ct1 : Lb → va_E) (H1 : Heap) (locs1 : List Loc), wd G A (ad, dm, ct1) H1 → PG G ad dm ct1 n le lo sz hi ri 1 ta kf vf cf → XP n ct ct1 → va_S A s.heap H1 locs1 → W p l e R s m args below meth c H1 locs1 cells slots Q (F0 m (pc + 3) ls rest)) :
    W p l e R s m args below meth c H locs cells slots Q (F0 m pc ls (.int (nI 1) :: .ref (ad (1, n)) :: rest)) :=
  kp F hE hW hS (1, n) hP.1.1 rfl hP.2.1 rfl inA_X1 tyX1 tyX1_ok nmX1 9 (by decide) hlink rfl rfl rfl (Nat.le_of_ble_eq_true rfl) hdg fun ct1 H1 locs1 hW1 hc hf hS1 => kk ct1 H1 locs1 hW1 (pg_o hP hc hf).1 (pg_o (de' := 1) hP hc hf).2 hS1
theorem pg_tak {v : Nat} (F : Fx p m c cc nL s args own) (hE : VE G A s) (hW : wd G A (ad, dm, ct) H) (hS : va_S A s.heap H locs) (hP : PG G ad dm ct n le lo sz hi ri de ta kf vf cf) (hlink : Cond.fieldLink own index "Highkey$Page" "takenOutIn" "I" ∈ AL) (hdg : decode cc pc = .ok (.putfield index, 3))
    (kk : ∀ (ct1 : Lb → va_E) (H1 : Heap) (locs1 : List Loc), wd G A (ad, dm, ct1) H1 → PG G ad dm ct1 n le lo sz hi ri de v kf vf cf → XP n ct ct1 → va_S A s.heap H1 locs1 → W p l e R s m args below meth c H1 locs1 cells slots Q (F0 m (pc + 3) ls rest)) :
    W p l e R s m args below meth c H locs cells slots Q (F0 m pc ls (.int (nI v) :: .ref (ad (1, n)) :: rest)) :=
  kp F hE hW hS (1, n) hP.1.1 rfl hP.2.1 rfl inA_X1 tyX1 tyX1_ok nmX1 10 (by decide) hlink rfl rfl rfl (Nat.le_of_ble_eq_true rfl) hdg fun ct1 H1 locs1 hW1 hc hf hS1 => kk ct1 H1 locs1 hW1 (pg_o hP hc hf).1 (pg_o (ta' := v) hP hc hf).2 hS1
theorem pg_key {i v : Int32} (F : Fx p m c cc nL s args own) (hE : VE G A s) (hW : wd G A (ad, dm, ct) H) (hS : va_S A s.heap H locs) (hP : PG G ad dm ct n le lo sz hi ri de ta kf vf cf) (j : Nat) (hi0 : i = nI j) (hj : j < 5) (hdg : decode cc pc = .ok (.iastore, 1))
    (kk : ∀ (ct1 : Lb → va_E) (H1 : Heap) (locs1 : List Loc), wd G A (ad, dm, ct1) H1 → PG G ad dm ct1 n le lo sz hi ri de ta (va_up kf j v) vf cf → XP n ct ct1 → va_S A s.heap H1 locs1 → W p l e R s m args below meth c H1 locs1 cells slots Q (F0 m (pc + 1) ls rest)) :
    W p l e R s m args below meth c H locs cells slots Q (F0 m pc ls (.int v :: .int i :: .ref (ad (2, n)) :: rest)) :=
  ks_i F hE hW hS (2, n) hP.1.2.1 rfl hP.2.2.1 j hi0 hj (by decide) hdg fun ct1 H1 locs1 hW1 hc hf hS1 => kk ct1 H1 locs1 hW1 ⟨hP.1, (hf _ (lb_ne (by decide))).trans hP.2.1, hc, (hf _ (lb_ne (by decide))).trans hP.2.2.2.1, (hf _ (lb_ne (by decide))).trans hP.2.2.2.2⟩ (XP.of (by decide) (by decide) hf) hS1
theorem pg_val {i v : Int32} (F : Fx p m c cc nL s args own) (hE : VE G A s) (hW : wd G A (ad, dm, ct) H) (hS : va_S A s.heap H locs) (hP : PG G ad dm ct n le lo sz hi ri de ta kf vf cf) (j : Nat) (hi0 : i = nI j) (hj : j < 5) (hdg : decode cc pc = .ok (.iastore, 1))
    (kk : ∀ (ct1 : Lb → va_E) (H1 : Heap) (locs1 : List Loc), wd G A (ad, dm, ct1) H1 → PG G ad dm ct1 n le lo sz hi ri de ta kf (va_up vf j v) cf → XP n ct ct1 → va_S A s.heap H1 locs1 → W p l e R s m args below meth c H1 locs1 cells slots Q (F0 m (pc + 1) ls rest)) :
    W p l e R s m args below meth c H locs cells slots Q (F0 m pc ls (.int v :: .int i :: .ref (ad (3, n)) :: rest)) :=
  ks_i F hE hW hS (3, n) hP.1.2.2.1 rfl hP.2.2.2.1 j hi0 hj (by decide) hdg fun ct1 H1 locs1 hW1 hc hf hS1 => kk ct1 H1 locs1 hW1 ⟨hP.1, (hf _ (lb_ne (by decide))).trans hP.2.1, (hf _ (lb_ne (by decide))).trans hP.2.2.1, hc, (hf _ (lb_ne (by decide))).trans hP.2.2.2.2⟩ (XP.of (by decide) (by decide) hf) hS1
/-- a child: none, or any object of the world that is a page -/
def isPg (ad : Lb → Nat) (dm : Lb → Prop) (ct : Lb → va_E) (r : Option Nat) : Prop := ∀ v, r = some v → ∃ (k : Nat) (vs : List Value), dm (1, k) ∧ ad (1, k) = v ∧ ct (1, k) = .inr (2, vs)
theorem pg_child {i : Int32} {r : Option Nat} {vv : Value} (hv : va_rf r = vv) (hr : isPg ad dm ct r) (F : Fx p m c cc nL s args own) (hE : VE G A s) (hW : wd G A (ad, dm, ct) H) (hS : va_S A s.heap H locs) (hP : PG G ad dm ct n le lo sz hi ri de ta kf vf cf) (j : Nat) (hi0 : i = nI j) (hj : j < 5) (hdg : decode cc pc = .ok (.aastore, 1))
    (kk : ∀ (ct1 : Lb → va_E) (H1 : Heap) (locs1 : List Loc), wd G A (ad, dm, ct1) H1 → PG G ad dm ct1 n le lo sz hi ri de ta kf vf (va_up cf j r) → XP n ct ct1 → va_S A s.heap H1 locs1 → W p l e R s m args below meth c H1 locs1 cells slots Q (F0 m (pc + 1) ls rest)) :
    W p l e R s m args below meth c H locs cells slots Q (F0 m pc ls (vv :: .int i :: .ref (ad (4, n)) :: rest)) := by
  subst hv
  cases r with
  | none =>
    exact ks_n 2 F hE hW hS (4, n) hP.1.2.2.2 rfl rfl hP.2.2.2.2 j hi0 hj (by decide) hdg fun ct1 H1 locs1 hW1 hc hf hS1 => kk ct1 H1 locs1 hW1 ⟨hP.1, (hf _ (lb_ne (by decide))).trans hP.2.1, (hf _ (lb_ne (by decide))).trans hP.2.2.1, (hf _ (lb_ne (by decide))).trans hP.2.2.2.1, hc⟩ (XP.of (by decide) (by decide) hf) hS1
  | some v =>
    obtain ⟨y, vs, hy1, hy2, hy3⟩ := hr v rfl
    exact ks_a (r := (RX1, TX1, 11)) 2 F hE hW hS (4, n) hP.1.2.2.2 rfl rfl hP.2.2.2.2 (1, y) hy1 hy2 hy3 rfl j hi0 hj (by decide) hdg fun ct1 H1 locs1 hW1 hc hf hS1 => kk ct1 H1 locs1 hW1 ⟨hP.1, (hf _ (lb_ne (by decide))).trans hP.2.1, (hf _ (lb_ne (by decide))).trans hP.2.2.1, (hf _ (lb_ne (by decide))).trans hP.2.2.2.1, hc⟩ (XP.of (by decide) (by decide) hf) hS1
theorem isPg.keep {ct1 : Lb → va_E} {r : Option Nat} (h : isPg ad dm ct r) (hP : PG G ad dm ct1 n le lo sz hi ri de ta kf vf cf) (hX : XP n ct ct1) : isPg ad dm ct1 r := by
  intro v hv
  obtain ⟨k, vs, h1, h2, h3⟩ := h v hv
  by_cases q : k = n
  · subst q
    exact ⟨k, _, h1, h2, hP.2.1⟩
  · exact ⟨k, vs, h1, h2, (hX (1, k) (Or.inr (Or.inr q))).trans h3⟩
theorem isPg.no : isPg ad dm ct none := fun v h => by cases h
theorem PG.isPg (hP : PG G ad dm ct n le lo sz hi ri de ta kf vf cf) : isPg ad dm ct (some (ad (1, n))) := fun v h => ⟨n, _, hP.1.1, Option.some.inj h, hP.2.1⟩
end PR
end
section
/-! A page's methods that only read. -/
set_option maxRecDepth 100000 in
set_option maxHeartbeats 4000000 in
theorem c_X1_has (l : Launch) (G : GG) (A : Nat → Prop) (ad : Lb → Nat) (dm : Lb → Prop) (ct : Lb → va_E) (n le lo sz hi : Nat) (ri : Option Nat) (de ta : Nat) (kf vf : Nat → Int32) (cf : Nat → Option Nat) (hP : PG G ad dm ct n le lo sz hi ri de ta kf vf cf) (hsz : sz ≤ 5) (x : Int32) :
    CT l yX1_has cX1_has 2 (some FieldType.boolean) { frames := 0, cells := 0, slots := 0, locals := 0 } [.ref (ad (1, n)), .int x] G A (ad, dm, ct) (fun v w' => (ad, dm, ct) = w' ∧ ((v = some (.int (nI 1)) ∧ ∃ j, j < sz ∧ x = nI j) ∨ (v = some (.int (nI 0)) ∧ ∀ j, j < sz → x ≠ nI j))) (fun _ => False) (0) (0) := by
  refine ct_of (by decide) (Nat.le_of_ble_eq_true rfl) ?_
  intro p e s m below meth c ls F hr hlk hnm hex hE hW hl
  have hx := F.1
  have hb := F.2.1
  have hS : va_S A s.heap s.heap [] := va_S.rf
  have hl : lv_has ls 2 [(0, .ref (ad (1, n))), (1, .int x)] := hl
  refine lv_iload_n hx hb dX1_has_0 rfl (lv_at hl 1 rfl) ?_
  refine lv_if_lt (tgt := 21) hx hb dX1_has_1 (by decide) (fun c => ?_) (fun c => ?_)
  · refine lv_iconst (v := nI 0) hx hb dX1_has_21 (by decide) ?_
    exact kr_z F hr hlk hE hW hS (Nat.le_of_ble_eq_true rfl) (Nat.le_of_ble_eq_true rfl) rfl dX1_has_22 (⟨rfl, Or.inr ⟨rfl, fun j hj e => nI_pos (n := j) (by omega) (by rw [← e]; exact c)⟩⟩)
  · obtain ⟨j, hj, rfl⟩ := nI_of c
    refine lv_iload_n hx hb dX1_has_4 rfl (lv_at hl 1 rfl) ?_
    refine lv_aload_n hx hb dX1_has_5 rfl (lv_at hl 0 rfl) ?_
    refine kg F hE hW (1, n) hP.1.1 rfl hP.2.1 rfl inA_X1 6 (by decide) kw_73 (v := .int (nI sz)) rfl dX1_has_6 ?_
    refine nc_ge (tgt := 21) hx hb dX1_has_9 (by decide) (by omega) (by omega) (fun c1 => ?_) (fun c1 => ?_)
    · refine lv_iconst (v := nI 0) hx hb dX1_has_21 (by decide) ?_
      exact kr_z F hr hlk hE hW hS (Nat.le_of_ble_eq_true rfl) (Nat.le_of_ble_eq_true rfl) rfl dX1_has_22 (⟨rfl, Or.inr ⟨rfl, fun i hi e => by have := nI_inj hj (by omega) e; omega⟩⟩)
    · refine lv_iload_n hx hb dX1_has_12 rfl (lv_at hl 1 rfl) ?_
      refine lv_iconst (v := nI 5) hx hb dX1_has_13 (by decide) ?_
      refine nc_ge (tgt := 21) hx hb dX1_has_14 (by decide) (by omega) (by omega) (fun c2 => ?_) (fun c2 => ?_)
      · exact absurd c2 (by omega)
      · refine lv_iconst (v := nI 1) hx hb dX1_has_17 (by decide) ?_
        refine lv_goto (tgt := 22) hx hb dX1_has_18 (by decide) ?_
        exact kr_z F hr hlk hE hW hS (Nat.le_of_ble_eq_true rfl) (Nat.le_of_ble_eq_true rfl) rfl dX1_has_22 (⟨rfl, Or.inl ⟨rfl, j, c1, rfl⟩⟩)
set_option maxRecDepth 100000 in
set_option maxHeartbeats 4000000 in
theorem c_X1_keyIn (l : Launch) (G : GG) (A : Nat → Prop) (ad : Lb → Nat) (dm : Lb → Prop) (ct : Lb → va_E) (n le lo sz hi : Nat) (ri : Option Nat) (de ta : Nat) (kf vf : Nat → Int32) (cf : Nat → Option Nat) (hP : PG G ad dm ct n le lo sz hi ri de ta kf vf cf) (hsz : sz ≤ 5) (x : Int32) :
    CT l yX1_keyIn cX1_keyIn 2 (some FieldType.int) { frames := 1, cells := 0, slots := 0, locals := 21 } [.ref (ad (1, n)), .int x] G A (ad, dm, ct) (fun v w' => (ad, dm, ct) = w' ∧ ((∃ j, j < sz ∧ x = nI j ∧ v = some (.int (kf j))) ∨ (v = some (.int (-1)) ∧ ∀ j, j < sz → x ≠ nI j))) (fun _ => False) (0) (0) := by
  refine ct_of (by decide) (Nat.le_of_ble_eq_true rfl) ?_
  intro p e s m below meth c ls F hr hlk hnm hex hE hW hl
  have hx := F.1
  have hb := F.2.1
  have hS : va_S A s.heap s.heap [] := va_S.rf
  have hl : lv_has ls 2 [(0, .ref (ad (1, n))), (1, .int x)] := hl
  refine lv_aload_n hx hb dX1_keyIn_0 rfl (lv_at hl 0 rfl) ?_
  refine lv_iload_n hx hb dX1_keyIn_1 rfl (lv_at hl 1 rfl) ?_
  refine kc_V 1 (c_X1_has l G A ad dm ct n le lo sz hi ri de ta kf vf cf hP hsz x) F hE hW hS (1, n) hP.1.1 hP.2.1 rfl [.int x] rfl kw_204 kw_205 kw_206 kw_5 kw_207 (by decide +kernel) rfl ⟨rfl, rfl⟩ ⟨Nat.le_of_ble_eq_true rfl, Nat.le_of_ble_eq_true rfl⟩ hl.1 rfl (Nat.le_of_ble_eq_true rfl) dX1_keyIn_2 ⟨Nat.le_of_ble_eq_true rfl, Nat.le_of_ble_eq_true rfl⟩ (fun _ _ _ _ _ h => h.elim) (fun v w' H locs hp hW hS => ?_)
  obtain ⟨rfl, ⟨rfl, j, hj, rfl⟩ | ⟨rfl, hno⟩⟩ := hp
  · refine nz_eq (tgt := 17) hx hb dX1_keyIn_5 (by decide) (by omega) (fun c => ?_) (fun c => ?_)
    · exact absurd c (by decide)
    · refine lv_aload_n hx hb dX1_keyIn_8 rfl (lv_at hl 0 rfl) ?_
      refine kg F hE hW (1, n) hP.1.1 rfl hP.2.1 rfl inA_X1 3 (by decide) kw_70 (v := .ref (ad (2, n))) rfl dX1_keyIn_9 ?_
      refine lv_iload_n hx hb dX1_keyIn_12 rfl (lv_at hl 1 rfl) ?_
      refine kl_i F hE hW (2, n) hP.1.2.1 rfl hP.2.2.1 j rfl (by omega) (by decide) dX1_keyIn_13 ?_
      refine lv_goto (tgt := 18) hx hb dX1_keyIn_14 (by decide) ?_
      exact kr_i F hr hlk hE hW hS (Nat.le_of_ble_eq_true rfl) (Nat.le_of_ble_eq_true rfl) dX1_keyIn_18 (⟨rfl, Or.inl ⟨j, hj, rfl, rfl⟩⟩)
  · refine nz_eq (tgt := 17) hx hb dX1_keyIn_5 (by decide) (by omega) (fun c => ?_) (fun c => ?_)
    · refine lv_iconst (v := (-1)) hx hb dX1_keyIn_17 (by decide) ?_
      exact kr_i F hr hlk hE hW hS (Nat.le_of_ble_eq_true rfl) (Nat.le_of_ble_eq_true rfl) dX1_keyIn_18 (⟨rfl, Or.inr ⟨rfl, hno⟩⟩)
    · exact absurd rfl c
set_option maxRecDepth 100000 in
set_option maxHeartbeats 4000000 in
theorem c_X1_valueIn (l : Launch) (G : GG) (A : Nat → Prop) (ad : Lb → Nat) (dm : Lb → Prop) (ct : Lb → va_E) (n le lo sz hi : Nat) (ri : Option Nat) (de ta : Nat) (kf vf : Nat → Int32) (cf : Nat → Option Nat) (hP : PG G ad dm ct n le lo sz hi ri de ta kf vf cf) (hsz : sz ≤ 5) (x : Int32) :
    CT l yX1_valueIn cX1_valueIn 2 (some FieldType.int) { frames := 1, cells := 0, slots := 0, locals := 21 } [.ref (ad (1, n)), .int x] G A (ad, dm, ct) (fun v w' => (ad, dm, ct) = w' ∧ ((∃ j, j < sz ∧ x = nI j ∧ v = some (.int (vf j))) ∨ (v = some (.int (-1)) ∧ ∀ j, j < sz → x ≠ nI j))) (fun _ => False) (0) (0) := by
  refine ct_of (by decide) (Nat.le_of_ble_eq_true rfl) ?_
  intro p e s m below meth c ls F hr hlk hnm hex hE hW hl
  have hx := F.1
  have hb := F.2.1
  have hS : va_S A s.heap s.heap [] := va_S.rf
  have hl : lv_has ls 2 [(0, .ref (ad (1, n))), (1, .int x)] := hl
  refine lv_aload_n hx hb dX1_valueIn_0 rfl (lv_at hl 0 rfl) ?_
  refine lv_iload_n hx hb dX1_valueIn_1 rfl (lv_at hl 1 rfl) ?_
  refine kc_V 1 (c_X1_has l G A ad dm ct n le lo sz hi ri de ta kf vf cf hP hsz x) F hE hW hS (1, n) hP.1.1 hP.2.1 rfl [.int x] rfl kw_204 kw_205 kw_206 kw_5 kw_207 (by decide +kernel) rfl ⟨rfl, rfl⟩ ⟨Nat.le_of_ble_eq_true rfl, Nat.le_of_ble_eq_true rfl⟩ hl.1 rfl (Nat.le_of_ble_eq_true rfl) dX1_valueIn_2 ⟨Nat.le_of_ble_eq_true rfl, Nat.le_of_ble_eq_true rfl⟩ (fun _ _ _ _ _ h => h.elim) (fun v w' H locs hp hW hS => ?_)
  obtain ⟨rfl, ⟨rfl, j, hj, rfl⟩ | ⟨rfl, hno⟩⟩ := hp
  · refine nz_eq (tgt := 17) hx hb dX1_valueIn_5 (by decide) (by omega) (fun c => ?_) (fun c => ?_)
    · exact absurd c (by decide)
    · refine lv_aload_n hx hb dX1_valueIn_8 rfl (lv_at hl 0 rfl) ?_
      refine kg F hE hW (1, n) hP.1.1 rfl hP.2.1 rfl inA_X1 4 (by decide) kw_71 (v := .ref (ad (3, n))) rfl dX1_valueIn_9 ?_
      refine lv_iload_n hx hb dX1_valueIn_12 rfl (lv_at hl 1 rfl) ?_
      refine kl_i F hE hW (3, n) hP.1.2.2.1 rfl hP.2.2.2.1 j rfl (by omega) (by decide) dX1_valueIn_13 ?_
      refine lv_goto (tgt := 18) hx hb dX1_valueIn_14 (by decide) ?_
      exact kr_i F hr hlk hE hW hS (Nat.le_of_ble_eq_true rfl) (Nat.le_of_ble_eq_true rfl) dX1_valueIn_18 (⟨rfl, Or.inl ⟨j, hj, rfl, rfl⟩⟩)
  · refine nz_eq (tgt := 17) hx hb dX1_valueIn_5 (by decide) (by omega) (fun c => ?_) (fun c => ?_)
    · refine lv_iconst (v := (-1)) hx hb dX1_valueIn_17 (by decide) ?_
      exact kr_i F hr hlk hE hW hS (Nat.le_of_ble_eq_true rfl) (Nat.le_of_ble_eq_true rfl) dX1_valueIn_18 (⟨rfl, Or.inr ⟨rfl, hno⟩⟩)
    · exact absurd rfl c
set_option maxRecDepth 100000 in
set_option maxHeartbeats 4000000 in
theorem c_X1_pageIn (l : Launch) (G : GG) (A : Nat → Prop) (ad : Lb → Nat) (dm : Lb → Prop) (ct : Lb → va_E) (n le lo sz hi : Nat) (ri : Option Nat) (de ta : Nat) (kf vf : Nat → Int32) (cf : Nat → Option Nat) (hP : PG G ad dm ct n le lo sz hi ri de ta kf vf cf) (hsz : sz ≤ 5) (x : Int32) :
    CT l yX1_pageIn cX1_pageIn 2 (some (FieldType.object "Highkey$Page")) { frames := 1, cells := 0, slots := 0, locals := 21 } [.ref (ad (1, n)), .int x] G A (ad, dm, ct) (fun v w' => (ad, dm, ct) = w' ∧ ((∃ j, j < sz ∧ x = nI j ∧ v = some (va_rf (cf j))) ∨ (v = some .null ∧ ∀ j, j < sz → x ≠ nI j))) (fun _ => False) (0) (0) := by
  refine ct_of (by decide) (Nat.le_of_ble_eq_true rfl) ?_
  intro p e s m below meth c ls F hr hlk hnm hex hE hW hl
  have hx := F.1
  have hb := F.2.1
  have hS : va_S A s.heap s.heap [] := va_S.rf
  have hl : lv_has ls 2 [(0, .ref (ad (1, n))), (1, .int x)] := hl
  refine lv_aload_n hx hb dX1_pageIn_0 rfl (lv_at hl 0 rfl) ?_
  refine lv_iload_n hx hb dX1_pageIn_1 rfl (lv_at hl 1 rfl) ?_
  refine kc_V 1 (c_X1_has l G A ad dm ct n le lo sz hi ri de ta kf vf cf hP hsz x) F hE hW hS (1, n) hP.1.1 hP.2.1 rfl [.int x] rfl kw_204 kw_205 kw_206 kw_5 kw_207 (by decide +kernel) rfl ⟨rfl, rfl⟩ ⟨Nat.le_of_ble_eq_true rfl, Nat.le_of_ble_eq_true rfl⟩ hl.1 rfl (Nat.le_of_ble_eq_true rfl) dX1_pageIn_2 ⟨Nat.le_of_ble_eq_true rfl, Nat.le_of_ble_eq_true rfl⟩ (fun _ _ _ _ _ h => h.elim) (fun v w' H locs hp hW hS => ?_)
  obtain ⟨rfl, ⟨rfl, j, hj, rfl⟩ | ⟨rfl, hno⟩⟩ := hp
  · refine nz_eq (tgt := 17) hx hb dX1_pageIn_5 (by decide) (by omega) (fun c => ?_) (fun c => ?_)
    · exact absurd c (by decide)
    · refine lv_aload_n hx hb dX1_pageIn_8 rfl (lv_at hl 0 rfl) ?_
      refine kg F hE hW (1, n) hP.1.1 rfl hP.2.1 rfl inA_X1 5 (by decide) kw_72 (v := .ref (ad (4, n))) rfl dX1_pageIn_9 ?_
      refine lv_iload_n hx hb dX1_pageIn_12 rfl (lv_at hl 1 rfl) ?_
      refine kl_a 2 F hE hW (4, n) hP.1.2.2.2 rfl rfl hP.2.2.2.2 j rfl (by omega) (by decide) (v := va_rf (cf j)) rfl dX1_pageIn_13 ?_
      refine lv_goto (tgt := 18) hx hb dX1_pageIn_14 (by decide) ?_
      exact kr_a F hr hlk hE hW hS (Nat.le_of_ble_eq_true rfl) (Nat.le_of_ble_eq_true rfl) (Or.inl ⟨_, rfl⟩) (va_rf_or _) dX1_pageIn_18 (⟨rfl, Or.inl ⟨j, hj, rfl, rfl⟩⟩)
  · refine nz_eq (tgt := 17) hx hb dX1_pageIn_5 (by decide) (by omega) (fun c => ?_) (fun c => ?_)
    · refine lv_null hx hb dX1_pageIn_17 ?_
      exact kr_a F hr hlk hE hW hS (Nat.le_of_ble_eq_true rfl) (Nat.le_of_ble_eq_true rfl) (Or.inl ⟨_, rfl⟩) (Or.inl rfl) dX1_pageIn_18 (⟨rfl, Or.inr ⟨rfl, hno⟩⟩)
    · exact absurd rfl c
set_option maxRecDepth 100000 in
set_option maxHeartbeats 4000000 in
theorem c_X1_countLess (l : Launch) (G : GG) (A : Nat → Prop) (ad : Lb → Nat) (dm : Lb → Prop) (ct : Lb → va_E) (n le lo sz hi : Nat) (ri : Option Nat) (de ta : Nat) (kf vf : Nat → Int32) (cf : Nat → Option Nat) (hP : PG G ad dm ct n le lo sz hi ri de ta kf vf cf) (hsz : sz ≤ 5) (x : Int32) :
    CT l yX1_countLess cX1_countLess 3 (some FieldType.int) { frames := 0, cells := 0, slots := 0, locals := 0 } [.ref (ad (1, n)), .int x] G A (ad, dm, ct) (fun v w' => (ad, dm, ct) = w' ∧ ∃ q, q ≤ sz ∧ v = some (.int (nI q)) ∧ (∀ k, k < q → kf k < x) ∧ (q < sz → ¬ kf q < x)) (fun _ => False) (0) (0) := by
  refine ct_of (by decide) (Nat.le_of_ble_eq_true rfl) ?_
  intro p e s m below meth c ls F hr hlk hnm hex hE hW hl
  have hx := F.1
  have hb := F.2.1
  have hS : va_S A s.heap s.heap [] := va_S.rf
  have hl : lv_has ls 3 [(0, .ref (ad (1, n))), (1, .int x)] := hl
  refine lv_iconst (v := nI 0) hx hb dX1_countLess_0 (by decide) ?_
  refine lv_istore_n (lv' := [(2, .int (nI 0)), (0, .ref (ad (1, n))), (1, .int x)]) hx hb dX1_countLess_1 rfl hl (by decide) rfl (fun ls hl => ?_)
  suffices key : ∀ (d i : Nat) (H : Heap) (locs : List Loc) (ls : Array Slot), i ≤ sz → sz < i + d → (∀ k, k < i → kf k < x) → wd G A (ad, dm, ct) H → va_S A s.heap H locs → lv_has ls 3 [(2, .int (nI i)), (0, .ref (ad (1, n))), (1, .int x)] → W p l e _ s m _ below meth c H locs 0 0 _ (F0 m 2 ls []) from
    key (sz + 1) 0 _ _ ls (Nat.zero_le _) (by omega) (fun k hk => absurd hk (Nat.not_lt_zero _)) hW hS hl
  intro d
  induction d with
  | zero => intro i H locs ls hi hd; omega
  | succ d ih =>
    intro i H locs ls hi hd hlow hW hS hl
    refine lv_iload_n hx hb dX1_countLess_2 rfl (lv_at hl 0 rfl) ?_
    refine lv_aload_n hx hb dX1_countLess_3 rfl (lv_at hl 1 rfl) ?_
    refine kg F hE hW (1, n) hP.1.1 rfl hP.2.1 rfl inA_X1 6 (by decide) kw_73 (v := .int (nI sz)) rfl dX1_countLess_4 ?_
    refine nc_ge (tgt := 31) hx hb dX1_countLess_7 (by decide) (by omega) (by omega) (fun c1 => ?_) (fun c1 => ?_)
    · refine lv_iload_n hx hb dX1_countLess_31 rfl (lv_at hl 0 rfl) ?_
      exact kr_i F hr hlk hE hW hS (Nat.le_of_ble_eq_true rfl) (Nat.le_of_ble_eq_true rfl) dX1_countLess_32 (⟨rfl, i, hi, rfl, hlow, fun h => absurd h (by omega)⟩)
    · refine lv_iload_n hx hb dX1_countLess_10 rfl (lv_at hl 0 rfl) ?_
      refine lv_iconst (v := nI 5) hx hb dX1_countLess_11 (by decide) ?_
      refine nc_ge (tgt := 31) hx hb dX1_countLess_12 (by decide) (by omega) (by omega) (fun c2 => ?_) (fun c2 => ?_)
      · exact absurd c2 (by omega)
      · refine lv_aload_n hx hb dX1_countLess_15 rfl (lv_at hl 1 rfl) ?_
        refine kg F hE hW (1, n) hP.1.1 rfl hP.2.1 rfl inA_X1 3 (by decide) kw_70 (v := .ref (ad (2, n))) rfl dX1_countLess_16 ?_
        refine lv_iload_n hx hb dX1_countLess_19 rfl (lv_at hl 0 rfl) ?_
        refine kl_i F hE hW (2, n) hP.1.2.1 rfl hP.2.2.1 i rfl (by omega) (by decide) dX1_countLess_20 ?_
        refine lv_iload_n hx hb dX1_countLess_21 rfl (lv_at hl 2 rfl) ?_
        refine lv_icmp_ge (tgt := 31) hx hb dX1_countLess_22 (by decide) (fun c3 => ?_) (fun c3 => ?_)
        · refine lv_iload_n hx hb dX1_countLess_31 rfl (lv_at hl 0 rfl) ?_
          exact kr_i F hr hlk hE hW hS (Nat.le_of_ble_eq_true rfl) (Nat.le_of_ble_eq_true rfl) dX1_countLess_32 (⟨rfl, i, hi, rfl, hlow, fun h => fun z => absurd c3 (by exact Int32.not_le.mpr z)⟩)
        · refine lv_iinc (v := nI (i + 1)) (lv' := [(2, .int (nI (i + 1))), (0, .ref (ad (1, n))), (1, .int x)]) hx hb dX1_countLess_25 hl (k := 0) rfl (ki1 _) (by decide) rfl (fun ls hl => ?_)
          refine lv_goto (tgt := 2) hx hb dX1_countLess_28 (by decide) ?_
          exact ih (i + 1) _ _ _ (by omega) (by omega) (lt_s hlow (Int32.not_le.mp c3)) hW hS hl
set_option maxRecDepth 100000 in
set_option maxHeartbeats 4000000 in
theorem c_X1_placeOf (l : Launch) (G : GG) (A : Nat → Prop) (ad : Lb → Nat) (dm : Lb → Prop) (ct : Lb → va_E) (n le lo sz hi : Nat) (ri : Option Nat) (de ta : Nat) (kf vf : Nat → Int32) (cf : Nat → Option Nat) (hP : PG G ad dm ct n le lo sz hi ri de ta kf vf cf) (hsz : sz ≤ 5) (x : Int32) :
    CT l yX1_placeOf cX1_placeOf 3 (some FieldType.int) { frames := 1, cells := 0, slots := 0, locals := 22 } [.ref (ad (1, n)), .int x] G A (ad, dm, ct) (fun v w' => (ad, dm, ct) = w' ∧ ∃ q, q ≤ sz ∧ (∀ k, k < q → kf k < x) ∧ (q < sz → ¬ kf q < x) ∧ ((q < sz ∧ kf q = x ∧ v = some (.int (nI q))) ∨ ((q < sz → kf q ≠ x) ∧ v = some (.int (-1))))) (fun _ => False) (0) (0) := by
  refine ct_of (by decide) (Nat.le_of_ble_eq_true rfl) ?_
  intro p e s m below meth c ls F hr hlk hnm hex hE hW hl
  have hx := F.1
  have hb := F.2.1
  have hS : va_S A s.heap s.heap [] := va_S.rf
  have hl : lv_has ls 3 [(0, .ref (ad (1, n))), (1, .int x)] := hl
  refine lv_aload_n hx hb dX1_placeOf_0 rfl (lv_at hl 0 rfl) ?_
  refine lv_iload_n hx hb dX1_placeOf_1 rfl (lv_at hl 1 rfl) ?_
  refine kc_V 1 (c_X1_countLess l G A ad dm ct n le lo sz hi ri de ta kf vf cf hP hsz x) F hE hW hS (1, n) hP.1.1 hP.2.1 rfl [.int x] rfl kw_184 kw_185 kw_186 kw_5 kw_187 (by decide +kernel) rfl ⟨rfl, rfl⟩ ⟨Nat.le_of_ble_eq_true rfl, Nat.le_of_ble_eq_true rfl⟩ hl.1 rfl (Nat.le_of_ble_eq_true rfl) dX1_placeOf_2 ⟨Nat.le_of_ble_eq_true rfl, Nat.le_of_ble_eq_true rfl⟩ (fun _ _ _ _ _ h => h.elim) (fun v w' H locs hp hW hS => ?_)
  obtain ⟨rfl, q, hq, rfl, h1, h2⟩ := hp
  refine lv_istore_n (lv' := [(2, .int (nI q)), (0, .ref (ad (1, n))), (1, .int x)]) hx hb dX1_placeOf_5 rfl hl (by decide) rfl (fun ls hl => ?_)
  refine lv_aload_n hx hb dX1_placeOf_6 rfl (lv_at hl 1 rfl) ?_
  refine lv_iload_n hx hb dX1_placeOf_7 rfl (lv_at hl 0 rfl) ?_
  refine kc_V 1 (c_X1_has l G A ad dm ct n le lo sz hi ri de ta kf vf cf hP hsz (nI q)) F hE hW hS (1, n) hP.1.1 hP.2.1 rfl [.int (nI q)] rfl kw_204 kw_205 kw_206 kw_5 kw_207 (by decide +kernel) rfl ⟨rfl, rfl⟩ ⟨Nat.le_of_ble_eq_true rfl, Nat.le_of_ble_eq_true rfl⟩ hl.1 rfl (Nat.le_of_ble_eq_true rfl) dX1_placeOf_8 ⟨Nat.le_of_ble_eq_true rfl, Nat.le_of_ble_eq_true rfl⟩ (fun _ _ _ _ _ h => h.elim) (fun v w' H locs hp hW hS => ?_)
  obtain ⟨rfl, ⟨rfl, j, hj, hjq⟩ | ⟨rfl, hno⟩⟩ := hp
  · have hqs : q < sz := by have := nI_inj (by omega) (by omega) hjq; omega
    refine nz_eq (tgt := 28) hx hb dX1_placeOf_11 (by decide) (by omega) (fun c => ?_) (fun c => ?_)
    · exact absurd c (by decide)
    · refine lv_aload_n hx hb dX1_placeOf_14 rfl (lv_at hl 1 rfl) ?_
      refine kg F hE hW (1, n) hP.1.1 rfl hP.2.1 rfl inA_X1 3 (by decide) kw_70 (v := .ref (ad (2, n))) rfl dX1_placeOf_15 ?_
      refine lv_iload_n hx hb dX1_placeOf_18 rfl (lv_at hl 0 rfl) ?_
      refine kl_i F hE hW (2, n) hP.1.2.1 rfl hP.2.2.1 q rfl (by omega) (by decide) dX1_placeOf_19 ?_
      refine lv_iload_n hx hb dX1_placeOf_20 rfl (lv_at hl 2 rfl) ?_
      refine lv_icmp_ne (tgt := 28) hx hb dX1_placeOf_21 (by decide) (fun c4 => ?_) (fun c4 => ?_)
      · refine lv_iconst (v := (-1)) hx hb dX1_placeOf_28 (by decide) ?_
        exact kr_i F hr hlk hE hW hS (Nat.le_of_ble_eq_true rfl) (Nat.le_of_ble_eq_true rfl) dX1_placeOf_29 (⟨rfl, q, hq, h1, h2, Or.inr ⟨fun _ => c4, rfl⟩⟩)
      · refine lv_iload_n hx hb dX1_placeOf_24 rfl (lv_at hl 0 rfl) ?_
        refine lv_goto (tgt := 29) hx hb dX1_placeOf_25 (by decide) ?_
        exact kr_i F hr hlk hE hW hS (Nat.le_of_ble_eq_true rfl) (Nat.le_of_ble_eq_true rfl) dX1_placeOf_29 (⟨rfl, q, hq, h1, h2, Or.inl ⟨hqs, c4, rfl⟩⟩)
  · refine nz_eq (tgt := 28) hx hb dX1_placeOf_11 (by decide) (by omega) (fun c => ?_) (fun c => ?_)
    · refine lv_iconst (v := (-1)) hx hb dX1_placeOf_28 (by decide) ?_
      exact kr_i F hr hlk hE hW hS (Nat.le_of_ble_eq_true rfl) (Nat.le_of_ble_eq_true rfl) dX1_placeOf_29 (⟨rfl, q, hq, h1, h2, Or.inr ⟨fun h => absurd rfl (hno q h), rfl⟩⟩)
    · exact absurd rfl c
set_option maxRecDepth 100000 in
set_option maxHeartbeats 4000000 in
theorem c_X1_leastKeyAbove (l : Launch) (G : GG) (A : Nat → Prop) (ad : Lb → Nat) (dm : Lb → Prop) (ct : Lb → va_E) (n le lo sz hi : Nat) (ri : Option Nat) (de ta : Nat) (kf vf : Nat → Int32) (cf : Nat → Option Nat) (hP : PG G ad dm ct n le lo sz hi ri de ta kf vf cf) (hsz : sz ≤ 5) (x y : Int32) (hxy : x + 1 = y) :
    CT l yX1_leastKeyAbove cX1_leastKeyAbove 2 (some FieldType.int) { frames := 2, cells := 0, slots := 0, locals := 42 } [.ref (ad (1, n)), .int x] G A (ad, dm, ct) (fun v w' => (ad, dm, ct) = w' ∧ ∃ q, q ≤ sz ∧ (∀ k, k < q → kf k < y) ∧ (q < sz → ¬ kf q < y) ∧ ((q < sz ∧ v = some (.int (kf q))) ∨ (q = sz ∧ v = some (.int (-1))))) (fun _ => False) (0) (0) := by
  refine ct_of (by decide) (Nat.le_of_ble_eq_true rfl) ?_
  intro p e s m below meth c ls F hr hlk hnm hex hE hW hl
  have hx := F.1
  have hb := F.2.1
  have hS : va_S A s.heap s.heap [] := va_S.rf
  have hl : lv_has ls 2 [(0, .ref (ad (1, n))), (1, .int x)] := hl
  refine lv_aload_n hx hb dX1_leastKeyAbove_0 rfl (lv_at hl 0 rfl) ?_
  refine lv_aload_n hx hb dX1_leastKeyAbove_1 rfl (lv_at hl 0 rfl) ?_
  refine lv_iload_n hx hb dX1_leastKeyAbove_2 rfl (lv_at hl 1 rfl) ?_
  refine lv_iconst (v := nI 1) hx hb dX1_leastKeyAbove_3 (by decide) ?_
  refine lv_iadd hx hb dX1_leastKeyAbove_4 ?_
  refine ktop hxy ?_
  refine kc_V 1 (c_X1_countLess l G A ad dm ct n le lo sz hi ri de ta kf vf cf hP hsz y) F hE hW hS (1, n) hP.1.1 hP.2.1 rfl [.int y] rfl kw_184 kw_185 kw_186 kw_5 kw_187 (by decide +kernel) rfl ⟨rfl, rfl⟩ ⟨Nat.le_of_ble_eq_true rfl, Nat.le_of_ble_eq_true rfl⟩ hl.1 rfl (Nat.le_of_ble_eq_true rfl) dX1_leastKeyAbove_5 ⟨Nat.le_of_ble_eq_true rfl, Nat.le_of_ble_eq_true rfl⟩ (fun _ _ _ _ _ h => h.elim) (fun v w' H locs hp hW hS => ?_)
  obtain ⟨rfl, q, hq, rfl, h1, h2⟩ := hp
  refine kc_V 1 (c_X1_keyIn l G A ad dm ct n le lo sz hi ri de ta kf vf cf hP hsz (nI q)) F hE hW hS (1, n) hP.1.1 hP.2.1 rfl [.int (nI q)] rfl kw_216 kw_217 kw_218 kw_5 kw_219 (by decide +kernel) rfl ⟨rfl, rfl⟩ ⟨Nat.le_of_ble_eq_true rfl, Nat.le_of_ble_eq_true rfl⟩ hl.1 rfl (Nat.le_of_ble_eq_true rfl) dX1_leastKeyAbove_8 ⟨Nat.le_of_ble_eq_true rfl, Nat.le_of_ble_eq_true rfl⟩ (fun _ _ _ _ _ h => h.elim) (fun v w' H locs hp hW hS => ?_)
  obtain ⟨rfl, ⟨j, hj, hjq, rfl⟩ | ⟨rfl, hno⟩⟩ := hp
  · have hjq := nI_inj (by omega) (by omega) hjq
    subst hjq
    exact kr_i F hr hlk hE hW hS (Nat.le_of_ble_eq_true rfl) (Nat.le_of_ble_eq_true rfl) dX1_leastKeyAbove_11 (⟨rfl, q, hq, h1, h2, Or.inl ⟨hj, rfl⟩⟩)
  · exact kr_i F hr hlk hE hW hS (Nat.le_of_ble_eq_true rfl) (Nat.le_of_ble_eq_true rfl) dX1_leastKeyAbove_11 (⟨rfl, q, hq, h1, h2, Or.inr ⟨Nat.le_antisymm hq (Nat.not_lt.mp fun h => hno q h rfl), rfl⟩⟩)
set_option maxRecDepth 100000 in
set_option maxHeartbeats 4000000 in
theorem c_X1_onward (l : Launch) (G : GG) (A : Nat → Prop) (ad : Lb → Nat) (dm : Lb → Prop) (ct : Lb → va_E) (n le lo sz hi : Nat) (ri : Option Nat) (de ta : Nat) (kf vf : Nat → Int32) (cf : Nat → Option Nat) (hP : PG G ad dm ct n le lo sz hi ri de ta kf vf cf) (hsz : sz ≤ 5) (key lv : Nat) (hkey : key < 1000) (hlv : lv < 2 ^ 31) (hhi : hi < 2 ^ 31) (hle : le < 2 ^ 31) :
    CT l yX1_onward cX1_onward 3 (some (FieldType.object "Highkey$Page")) { frames := 2, cells := 0, slots := 0, locals := 42 } [.ref (ad (1, n)), .int (nI key), .int (nI lv)] G A (ad, dm, ct) (fun v w' => (ad, dm, ct) = w' ∧ ((hi ≤ key ∧ v = some (va_rf ri)) ∨ (key < hi ∧ le ≤ lv ∧ v = some .null) ∨ (key < hi ∧ lv < le ∧ ∃ q, q ≤ sz ∧ (∀ k, k < q → kf k < nI (key + 1)) ∧ (q < sz → ¬ kf q < nI (key + 1)) ∧ ((∃ j, q = j + 1 ∧ v = some (va_rf (cf j))) ∨ (q = 0 ∧ v = some .null))))) (fun _ => False) (0) (0) := by
  refine ct_of (by decide) (Nat.le_of_ble_eq_true rfl) ?_
  intro p e s m below meth c ls F hr hlk hnm hex hE hW hl
  have hx := F.1
  have hb := F.2.1
  have hS : va_S A s.heap s.heap [] := va_S.rf
  have hl : lv_has ls 3 [(0, .ref (ad (1, n))), (1, .int (nI key)), (2, .int (nI lv))] := hl
  refine lv_iload_n hx hb dX1_onward_0 rfl (lv_at hl 1 rfl) ?_
  refine lv_aload_n hx hb dX1_onward_1 rfl (lv_at hl 0 rfl) ?_
  refine kg F hE hW (1, n) hP.1.1 rfl hP.2.1 rfl inA_X1 7 (by decide) kw_75 (v := .int (nI hi)) rfl dX1_onward_2 ?_
  refine nc_lt (tgt := 13) hx hb dX1_onward_5 (by decide) (by omega) (by omega) (fun c => ?_) (fun c => ?_)
  · refine lv_aload_n hx hb dX1_onward_13 rfl (lv_at hl 0 rfl) ?_
    refine kg F hE hW (1, n) hP.1.1 rfl hP.2.1 rfl inA_X1 1 (by decide) kw_66 (v := .int (nI le)) rfl dX1_onward_14 ?_
    refine lv_iload_n hx hb dX1_onward_17 rfl (lv_at hl 2 rfl) ?_
    refine nc_le (tgt := 37) hx hb dX1_onward_18 (by decide) (by omega) (by omega) (fun c2 => ?_) (fun c2 => ?_)
    · refine lv_null hx hb dX1_onward_37 ?_
      exact kr_a F hr hlk hE hW hS (Nat.le_of_ble_eq_true rfl) (Nat.le_of_ble_eq_true rfl) (Or.inl ⟨_, rfl⟩) (Or.inl rfl) dX1_onward_38 (⟨rfl, Or.inr (Or.inl ⟨c, c2, rfl⟩)⟩)
    · refine lv_aload_n hx hb dX1_onward_21 rfl (lv_at hl 0 rfl) ?_
      refine lv_aload_n hx hb dX1_onward_22 rfl (lv_at hl 0 rfl) ?_
      refine lv_iload_n hx hb dX1_onward_23 rfl (lv_at hl 1 rfl) ?_
      refine lv_iconst (v := nI 1) hx hb dX1_onward_24 (by decide) ?_
      refine lv_iadd hx hb dX1_onward_25 ?_
      refine ktop (nI_add _ _) ?_
      refine kc_V 1 (c_X1_countLess l G A ad dm ct n le lo sz hi ri de ta kf vf cf hP hsz (nI (key + 1))) F hE hW hS (1, n) hP.1.1 hP.2.1 rfl [.int (nI (key + 1))] rfl kw_184 kw_185 kw_186 kw_5 kw_187 (by decide +kernel) rfl ⟨rfl, rfl⟩ ⟨Nat.le_of_ble_eq_true rfl, Nat.le_of_ble_eq_true rfl⟩ hl.1 rfl (Nat.le_of_ble_eq_true rfl) dX1_onward_26 ⟨Nat.le_of_ble_eq_true rfl, Nat.le_of_ble_eq_true rfl⟩ (fun _ _ _ _ _ h => h.elim) (fun v w' H locs hp hW hS => ?_)
      obtain ⟨rfl, q, hq, rfl, h1, h2⟩ := hp
      rcases q with _ | q
      · refine lv_iconst (v := nI 1) hx hb dX1_onward_29 (by decide) ?_
        refine lv_isub hx hb dX1_onward_30 ?_
        refine ktop (y := (-1)) (by decide) ?_
        refine kc_V 1 (c_X1_pageIn l G A ad dm ct n le lo sz hi ri de ta kf vf cf hP hsz (-1)) F hE hW hS (1, n) hP.1.1 hP.2.1 rfl [.int (-1)] rfl kw_200 kw_201 kw_202 kw_5 kw_203 (by decide +kernel) rfl ⟨rfl, rfl⟩ ⟨Nat.le_of_ble_eq_true rfl, Nat.le_of_ble_eq_true rfl⟩ hl.1 rfl (Nat.le_of_ble_eq_true rfl) dX1_onward_31 ⟨Nat.le_of_ble_eq_true rfl, Nat.le_of_ble_eq_true rfl⟩ (fun _ _ _ _ _ h => h.elim) (fun v w' H locs hp hW hS => ?_)
        obtain ⟨rfl, ⟨j, hj, hjq, rfl⟩ | ⟨rfl, hno⟩⟩ := hp
        · exact absurd hjq.symm (nI_neg (by omega))
        · refine lv_goto (tgt := 38) hx hb dX1_onward_34 (by decide) ?_
          exact kr_a F hr hlk hE hW hS (Nat.le_of_ble_eq_true rfl) (Nat.le_of_ble_eq_true rfl) (Or.inl ⟨_, rfl⟩) (Or.inl rfl) dX1_onward_38 (⟨rfl, Or.inr (Or.inr ⟨c, c2, 0, hq, h1, h2, Or.inr ⟨rfl, rfl⟩⟩)⟩)
      · refine lv_iconst (v := nI 1) hx hb dX1_onward_29 (by decide) ?_
        refine lv_isub hx hb dX1_onward_30 ?_
        refine ktop (nI_pred q) ?_
        refine kc_V 1 (c_X1_pageIn l G A ad dm ct n le lo sz hi ri de ta kf vf cf hP hsz (nI q)) F hE hW hS (1, n) hP.1.1 hP.2.1 rfl [.int (nI q)] rfl kw_200 kw_201 kw_202 kw_5 kw_203 (by decide +kernel) rfl ⟨rfl, rfl⟩ ⟨Nat.le_of_ble_eq_true rfl, Nat.le_of_ble_eq_true rfl⟩ hl.1 rfl (Nat.le_of_ble_eq_true rfl) dX1_onward_31 ⟨Nat.le_of_ble_eq_true rfl, Nat.le_of_ble_eq_true rfl⟩ (fun _ _ _ _ _ h => h.elim) (fun v w' H locs hp hW hS => ?_)
        obtain ⟨rfl, ⟨j, hj, hjq, rfl⟩ | ⟨rfl, hno⟩⟩ := hp
        · have hjq := nI_inj (by omega) (by omega) hjq
          subst hjq
          refine lv_goto (tgt := 38) hx hb dX1_onward_34 (by decide) ?_
          exact kr_a F hr hlk hE hW hS (Nat.le_of_ble_eq_true rfl) (Nat.le_of_ble_eq_true rfl) (Or.inl ⟨_, rfl⟩) (va_rf_or _) dX1_onward_38 (⟨rfl, Or.inr (Or.inr ⟨c, c2, q + 1, hq, h1, h2, Or.inl ⟨q, rfl, rfl⟩⟩)⟩)
        · exact absurd rfl (hno q (by omega))
  · refine lv_aload_n hx hb dX1_onward_8 rfl (lv_at hl 0 rfl) ?_
    refine kg F hE hW (1, n) hP.1.1 rfl hP.2.1 rfl inA_X1 8 (by decide) kw_79 (v := va_rf ri) rfl dX1_onward_9 ?_
    exact kr_a F hr hlk hE hW hS (Nat.le_of_ble_eq_true rfl) (Nat.le_of_ble_eq_true rfl) (Or.inl ⟨_, rfl⟩) (va_rf_or _) dX1_onward_12 (⟨rfl, Or.inl ⟨c, rfl⟩⟩)
set_option maxRecDepth 100000 in
set_option maxHeartbeats 4000000 in
theorem c_X1_placeOfEmptyLeaf (l : Launch) (G : GG) (A : Nat → Prop) (ad : Lb → Nat) (dm : Lb → Prop) (ct : Lb → va_E) (n le lo sz hi : Nat) (ri : Option Nat) (de ta : Nat) (kf vf : Nat → Int32) (cf : Nat → Option Nat) (hP : PG G ad dm ct n le lo sz hi ri de ta kf vf cf) (hsz : sz ≤ 5) (cs : Nat → Nat) (hC : ∀ k, k < sz → ∃ m le lo hi ri de ta kf vf cf1, cf k = some (ad (1, m)) ∧ PG G ad dm ct m le lo (cs k) hi ri de ta kf vf cf1) (hcs : ∀ k, k < sz → cs k < 2 ^ 31) :
    CT l yX1_placeOfEmptyLeaf cX1_placeOfEmptyLeaf 3 (some FieldType.int) { frames := 0, cells := 0, slots := 0, locals := 0 } [.ref (ad (1, n))] G A (ad, dm, ct) (fun v w' => (ad, dm, ct) = w' ∧ ((∃ j, 1 ≤ j ∧ j < sz ∧ cs j = 0 ∧ (∀ i, 1 ≤ i → i < j → cs i ≠ 0) ∧ v = some (.int (nI j))) ∨ ((∀ i, 1 ≤ i → i < sz → cs i ≠ 0) ∧ v = some (.int (-1))))) (fun _ => False) (0) (0) := by
  refine ct_of (by decide) (Nat.le_of_ble_eq_true rfl) ?_
  intro p e s m below meth c ls F hr hlk hnm hex hE hW hl
  have hx := F.1
  have hb := F.2.1
  have hS : va_S A s.heap s.heap [] := va_S.rf
  have hl : lv_has ls 3 [(0, .ref (ad (1, n)))] := hl
  refine lv_iconst (v := nI 1) hx hb dX1_placeOfEmptyLeaf_0 (by decide) ?_
  refine lv_istore_n (lv' := [(1, .int (nI 1)), (0, .ref (ad (1, n)))]) hx hb dX1_placeOfEmptyLeaf_1 rfl hl (by decide) rfl (fun ls hl => ?_)
  suffices key : ∀ (d i : Nat) (H : Heap) (locs : List Loc) (ls : Array Slot), 1 ≤ i → i ≤ 5 → 5 < i + d → (∀ k, 1 ≤ k → k < i → cs k ≠ 0) → wd G A (ad, dm, ct) H → va_S A s.heap H locs → lv_has ls 3 [(1, .int (nI i)), (0, .ref (ad (1, n)))] → W p l e _ s m _ below meth c H locs 0 0 _ (F0 m 2 ls []) from
    key 5 1 _ _ ls (Nat.le_refl _) (by omega) (by omega) (fun k h1 h2 => by omega) hW hS hl
  intro d
  induction d with
  | zero => intro i H locs ls h1 h5 hd; omega
  | succ d ih =>
    intro i H locs ls h1 h5 hd hlow hW hS hl
    refine lv_iload_n hx hb dX1_placeOfEmptyLeaf_2 rfl (lv_at hl 0 rfl) ?_
    refine lv_aload_n hx hb dX1_placeOfEmptyLeaf_3 rfl (lv_at hl 1 rfl) ?_
    refine kg F hE hW (1, n) hP.1.1 rfl hP.2.1 rfl inA_X1 6 (by decide) kw_73 (v := .int (nI sz)) rfl dX1_placeOfEmptyLeaf_4 ?_
    refine nc_ge (tgt := 41) hx hb dX1_placeOfEmptyLeaf_7 (by decide) (by omega) (by omega) (fun c1 => ?_) (fun c1 => ?_)
    · refine lv_iconst (v := (-1)) hx hb dX1_placeOfEmptyLeaf_41 (by decide) ?_
      exact kr_i F hr hlk hE hW hS (Nat.le_of_ble_eq_true rfl) (Nat.le_of_ble_eq_true rfl) dX1_placeOfEmptyLeaf_42 (⟨rfl, Or.inr ⟨fun k hk1 hk2 => hlow k hk1 (by omega), rfl⟩⟩)
    · refine lv_iload_n hx hb dX1_placeOfEmptyLeaf_10 rfl (lv_at hl 0 rfl) ?_
      refine lv_iconst (v := nI 5) hx hb dX1_placeOfEmptyLeaf_11 (by decide) ?_
      refine nc_ge (tgt := 41) hx hb dX1_placeOfEmptyLeaf_12 (by decide) (by omega) (by omega) (fun c2 => ?_) (fun c2 => ?_)
      · exact absurd c2 (by omega)
      · obtain ⟨m2, le2, lo2, hi2, ri2, de2, ta2, kf2, vf2, cf2, hcf, hP2⟩ := hC i c1
        refine lv_aload_n hx hb dX1_placeOfEmptyLeaf_15 rfl (lv_at hl 1 rfl) ?_
        refine kg F hE hW (1, n) hP.1.1 rfl hP.2.1 rfl inA_X1 5 (by decide) kw_72 (v := .ref (ad (4, n))) rfl dX1_placeOfEmptyLeaf_16 ?_
        refine lv_iload_n hx hb dX1_placeOfEmptyLeaf_19 rfl (lv_at hl 0 rfl) ?_
        refine kl_a 2 F hE hW (4, n) hP.1.2.2.2 rfl rfl hP.2.2.2.2 i rfl (by omega) (by decide) (v := .ref (ad (1, m2))) (by rw [hcf]; rfl) dX1_placeOfEmptyLeaf_20 ?_
        refine lv_astore_n (lv' := [(2, .ref (ad (1, m2))), (1, .int (nI i)), (0, .ref (ad (1, n)))]) hx hb dX1_placeOfEmptyLeaf_21 rfl hl (by decide) rfl (fun ls hl => ?_)
        refine lv_aload_n hx hb dX1_placeOfEmptyLeaf_22 rfl (lv_at hl 0 rfl) ?_
        refine lv_ifnull hx hb dX1_placeOfEmptyLeaf_23 ?_
        refine lv_aload_n hx hb dX1_placeOfEmptyLeaf_26 rfl (lv_at hl 0 rfl) ?_
        refine kg F hE hW (1, m2) hP2.1.1 rfl hP2.2.1 rfl inA_X1 6 (by decide) kw_73 (v := .int (nI (cs i))) rfl dX1_placeOfEmptyLeaf_27 ?_
        refine nz_ne (tgt := 35) hx hb dX1_placeOfEmptyLeaf_30 (by decide) (hcs i c1) (fun c3 => ?_) (fun c3 => ?_)
        · refine lv_iinc (v := nI (i + 1)) (lv' := [(1, .int (nI (i + 1))), (2, .ref (ad (1, m2))), (0, .ref (ad (1, n)))]) hx hb dX1_placeOfEmptyLeaf_35 hl (k := 1) rfl (ki1 _) (by decide) rfl (fun ls hl => ?_)
          refine lv_goto (tgt := 2) hx hb dX1_placeOfEmptyLeaf_38 (by decide) ?_
          refine ih (i + 1) _ _ _ (by omega) (by omega) (by omega) (fun k k1 k2 => ?_) hW hS (lv_sub hl [0, 2] rfl)
          rcases Nat.lt_or_ge k i with q | q
          · exact hlow k k1 q
          · have : k = i := by omega
            subst this
            exact c3
        · refine lv_iload_n hx hb dX1_placeOfEmptyLeaf_33 rfl (lv_at hl 1 rfl) ?_
          exact kr_i F hr hlk hE hW hS (Nat.le_of_ble_eq_true rfl) (Nat.le_of_ble_eq_true rfl) dX1_placeOfEmptyLeaf_34 (⟨rfl, Or.inl ⟨i, h1, c1, c3, hlow, rfl⟩⟩)
end
section
/-! A page's methods that write. -/
def Ins {α : Type} (q sz : Nat) (x : α) (f f' : Nat → α) : Prop := (∀ k, k < q → f' k = f k) ∧ f' q = x ∧ ∀ k, q ≤ k → k < sz → f' (k + 1) = f k
def Shf {α : Type} (t sz : Nat) (f f' : Nat → α) : Prop := (∀ k, k < t → f' k = f k) ∧ ∀ k, t ≤ k → k < sz → f' (k + 1) = f k
theorem Shf.start {α : Type} {sz : Nat} {f : Nat → α} : Shf sz sz f f := ⟨fun _ _ => rfl, fun k h1 h2 => by omega⟩
theorem Shf.step {α : Type} {t sz : Nat} {f f' : Nat → α} (h : Shf (t + 1) sz f f') : Shf t sz f (va_up f' (t + 1) (f' t)) := by
  refine ⟨fun k hk => ?_, fun k h1 h2 => ?_⟩
  · rw [va_up_ne _ _ (by omega)]; exact h.1 k (by omega)
  · rcases Nat.lt_or_ge k (t + 1) with q | q
    · have : k = t := by omega
      subst this
      rw [va_up_self]; exact h.1 k (by omega)
    · rw [va_up_ne _ _ (by omega)]; exact h.2 k q h2
theorem Shf.ins {α : Type} {q sz : Nat} {f f' : Nat → α} (h : Shf q sz f f') (x : α) : Ins q sz x f (va_up f' q x) :=
  ⟨fun k hk => by rw [va_up_ne _ _ (by omega)]; exact h.1 k hk, va_up_self _ _ _, fun k h1 h2 => by rw [va_up_ne _ _ (by omega)]; exact h.2 k h1 h2⟩
def Del {α : Type} (j sz : Nat) (f f' : Nat → α) : Prop := (∀ k, k < j → f' k = f k) ∧ ∀ k, j ≤ k → k + 1 < sz → f' k = f (k + 1)
def Dlp {α : Type} (t j : Nat) (f f' : Nat → α) : Prop := (∀ k, k < j → f' k = f k) ∧ (∀ k, j ≤ k → k < t → f' k = f (k + 1)) ∧ ∀ k, t ≤ k → f' k = f k
theorem Dlp.start {α : Type} {j : Nat} {f : Nat → α} : Dlp j j f f := ⟨fun _ _ => rfl, fun k h1 h2 => by omega, fun _ _ => rfl⟩
theorem Dlp.step {α : Type} {t j : Nat} {f f' : Nat → α} (hj : j ≤ t) (h : Dlp t j f f') : Dlp (t + 1) j f (va_up f' t (f' (t + 1))) := by
  refine ⟨fun k hk => ?_, fun k h1 h2 => ?_, fun k hk => ?_⟩
  · rw [va_up_ne _ _ (by omega)]; exact h.1 k (by omega)
  · rcases Nat.lt_or_ge k t with q | q
    · rw [va_up_ne _ _ (by omega)]; exact h.2.1 k h1 q
    · have : k = t := by omega
      subst this
      rw [va_up_self]; exact h.2.2 _ (by omega)
  · rw [va_up_ne _ _ (by omega)]; exact h.2.2 k (by omega)
theorem Dlp.del {α : Type} {t j sz : Nat} {f f' : Nat → α} (ht : sz ≤ t + 1) (h : Dlp t j f f') : Del j sz f f' := ⟨h.1, fun k h1 h2 => h.2.1 k h1 (by omega)⟩
set_option maxRecDepth 100000 in
set_option maxHeartbeats 4000000 in
theorem c_X1_copy (l : Launch) (G : GG) (A : Nat → Prop) (ad : Lb → Nat) (dm : Lb → Prop) (ct : Lb → va_E) (n le lo sz hi : Nat) (ri : Option Nat) (de ta : Nat) (kf vf : Nat → Int32) (cf : Nat → Option Nat) (hP : PG G ad dm ct n le lo sz hi ri de ta kf vf cf) (hsz : sz ≤ 5) (i j : Nat) (hi5 : i < 5) (hj5 : j < 5) (hC : isPg ad dm ct (cf i)) :
    CT l yX1_copy cX1_copy 3 none { frames := 0, cells := 0, slots := 0, locals := 0 } [.ref (ad (1, n)), .int (nI i), .int (nI j)] G A (ad, dm, ct) (fun v w' => ∃ ct', w' = (ad, dm, ct') ∧ v = none ∧ PG G ad dm ct' n le lo sz hi ri de ta (va_up kf j (kf i)) (va_up vf j (vf i)) (va_up cf j (cf i)) ∧ XP n ct ct') (fun _ => False) (0) (0) := by
  refine ct_of (by decide) (Nat.le_of_ble_eq_true rfl) ?_
  intro p e s m below meth c ls F hr hlk hnm hex hE hW hl
  have hx := F.1
  have hb := F.2.1
  have hS : va_S A s.heap s.heap [] := va_S.rf
  have hl : lv_has ls 3 [(0, .ref (ad (1, n))), (1, .int (nI i)), (2, .int (nI j))] := hl
  have hX : XP n ct ct := XP.rf
  refine lv_iload_n hx hb dX1_copy_0 rfl (lv_at hl 1 rfl) ?_
  refine nz_lt (tgt := 18) hx hb dX1_copy_1 (by decide) (by omega) ?_
  refine lv_iload_n hx hb dX1_copy_4 rfl (lv_at hl 1 rfl) ?_
  refine lv_iconst (v := nI 5) hx hb dX1_copy_5 (by decide) ?_
  refine nc_ge (tgt := 18) hx hb dX1_copy_6 (by decide) (by omega) (by omega) (fun c1 => ?_) (fun c1 => ?_)
  · exact absurd c1 (by omega)
  · refine lv_iload_n hx hb dX1_copy_9 rfl (lv_at hl 2 rfl) ?_
    refine nz_lt (tgt := 18) hx hb dX1_copy_10 (by decide) (by omega) ?_
    refine lv_iload_n hx hb dX1_copy_13 rfl (lv_at hl 2 rfl) ?_
    refine lv_iconst (v := nI 5) hx hb dX1_copy_14 (by decide) ?_
    refine nc_lt (tgt := 19) hx hb dX1_copy_15 (by decide) (by omega) (by omega) (fun c2 => ?_) (fun c2 => ?_)
    · refine lv_aload_n hx hb dX1_copy_19 rfl (lv_at hl 0 rfl) ?_
      refine kg F hE hW (1, n) hP.1.1 rfl hP.2.1 rfl inA_X1 3 (by decide) kw_70 (v := .ref (ad (2, n))) rfl dX1_copy_20 ?_
      refine lv_iload_n hx hb dX1_copy_23 rfl (lv_at hl 2 rfl) ?_
      refine lv_aload_n hx hb dX1_copy_24 rfl (lv_at hl 0 rfl) ?_
      refine kg F hE hW (1, n) hP.1.1 rfl hP.2.1 rfl inA_X1 3 (by decide) kw_70 (v := .ref (ad (2, n))) rfl dX1_copy_25 ?_
      refine lv_iload_n hx hb dX1_copy_28 rfl (lv_at hl 1 rfl) ?_
      refine kl_i F hE hW (2, n) hP.1.2.1 rfl hP.2.2.1 i rfl (by omega) (by decide) dX1_copy_29 ?_
      refine pg_key F hE hW hS hP j rfl (by omega) dX1_copy_30 (fun ct H locs hW hP hX0 hS => ?_)
      have hX := XP.tr hX hX0
      have hC := isPg.keep hC hP hX0
      refine lv_aload_n hx hb dX1_copy_31 rfl (lv_at hl 0 rfl) ?_
      refine kg F hE hW (1, n) hP.1.1 rfl hP.2.1 rfl inA_X1 4 (by decide) kw_71 (v := .ref (ad (3, n))) rfl dX1_copy_32 ?_
      refine lv_iload_n hx hb dX1_copy_35 rfl (lv_at hl 2 rfl) ?_
      refine lv_aload_n hx hb dX1_copy_36 rfl (lv_at hl 0 rfl) ?_
      refine kg F hE hW (1, n) hP.1.1 rfl hP.2.1 rfl inA_X1 4 (by decide) kw_71 (v := .ref (ad (3, n))) rfl dX1_copy_37 ?_
      refine lv_iload_n hx hb dX1_copy_40 rfl (lv_at hl 1 rfl) ?_
      refine kl_i F hE hW (3, n) hP.1.2.2.1 rfl hP.2.2.2.1 i rfl (by omega) (by decide) dX1_copy_41 ?_
      refine pg_val F hE hW hS hP j rfl (by omega) dX1_copy_42 (fun ct H locs hW hP hX0 hS => ?_)
      have hX := XP.tr hX hX0
      have hC := isPg.keep hC hP hX0
      refine lv_aload_n hx hb dX1_copy_43 rfl (lv_at hl 0 rfl) ?_
      refine kg F hE hW (1, n) hP.1.1 rfl hP.2.1 rfl inA_X1 5 (by decide) kw_72 (v := .ref (ad (4, n))) rfl dX1_copy_44 ?_
      refine lv_iload_n hx hb dX1_copy_47 rfl (lv_at hl 2 rfl) ?_
      refine lv_aload_n hx hb dX1_copy_48 rfl (lv_at hl 0 rfl) ?_
      refine kg F hE hW (1, n) hP.1.1 rfl hP.2.1 rfl inA_X1 5 (by decide) kw_72 (v := .ref (ad (4, n))) rfl dX1_copy_49 ?_
      refine lv_iload_n hx hb dX1_copy_52 rfl (lv_at hl 1 rfl) ?_
      refine kl_a 2 F hE hW (4, n) hP.1.2.2.2 rfl rfl hP.2.2.2.2 i rfl (by omega) (by decide) (v := va_rf (cf i)) rfl dX1_copy_53 ?_
      refine pg_child (r := cf i) rfl hC F hE hW hS hP j rfl (by omega) dX1_copy_54 (fun ct H locs hW hP hX0 hS => ?_)
      have hX := XP.tr hX hX0
      exact kr_v F hr hlk hE hW hS (Nat.le_of_ble_eq_true rfl) (Nat.le_of_ble_eq_true rfl) dX1_copy_55 (⟨_, rfl, rfl, hP, hX⟩)
    · exact absurd c2 (by omega)
set_option maxRecDepth 100000 in
set_option maxHeartbeats 4000000 in
theorem c_X1_insertN (l : Launch) (G : GG) (A : Nat → Prop) (ad : Lb → Nat) (dm : Lb → Prop) (ct : Lb → va_E) (n le lo sz hi : Nat) (ri : Option Nat) (de ta : Nat) (kf vf : Nat → Int32) (cf : Nat → Option Nat) (hP : PG G ad dm ct n le lo sz hi ri de ta kf vf cf) (hsz : sz ≤ 4) (x y : Int32) (hrp : isPg ad dm ct none) (hC : ∀ k, k < sz → isPg ad dm ct (cf k)) :
    CT l yX1_insert cX1_insert 6 none { frames := 1, cells := 0, slots := 0, locals := 22 } [.ref (ad (1, n)), .int x, .int y, .null] G A (ad, dm, ct) (fun v w' => ∃ ct', w' = (ad, dm, ct') ∧ v = none ∧ ∃ q, q ≤ sz ∧ (∀ k, k < q → kf k < x) ∧ (q < sz → ¬ kf q < x) ∧ ∃ kf' vf' cf', PG G ad dm ct' n le lo (sz + 1) hi ri de ta kf' vf' cf' ∧ XP n ct ct' ∧ Ins q sz x kf kf' ∧ Ins q sz y vf vf' ∧ Ins q sz none cf cf') (fun _ => False) (0) (0) := by
  refine ct_of (by decide) (Nat.le_of_ble_eq_true rfl) ?_
  intro p e s m below meth c ls F hr hlk hnm hex hE hW hl
  have hx := F.1
  have hb := F.2.1
  have hS : va_S A s.heap s.heap [] := va_S.rf
  have hl : lv_has ls 6 [(0, .ref (ad (1, n))), (1, .int x), (2, .int y), (3, .null)] := hl
  refine lv_aload_n hx hb dX1_insert_0 rfl (lv_at hl 0 rfl) ?_
  refine kg F hE hW (1, n) hP.1.1 rfl hP.2.1 rfl inA_X1 6 (by decide) kw_73 (v := .int (nI sz)) rfl dX1_insert_1 ?_
  refine nz_lt (tgt := 15) hx hb dX1_insert_4 (by decide) (by omega) ?_
  refine lv_aload_n hx hb dX1_insert_7 rfl (lv_at hl 0 rfl) ?_
  refine kg F hE hW (1, n) hP.1.1 rfl hP.2.1 rfl inA_X1 6 (by decide) kw_73 (v := .int (nI sz)) rfl dX1_insert_8 ?_
  refine lv_iconst (v := nI 5) hx hb dX1_insert_11 (by decide) ?_
  refine nc_lt (tgt := 16) hx hb dX1_insert_12 (by decide) (by omega) (by omega) (fun c1 => ?_) (fun c1 => ?_)
  · refine lv_aload_n hx hb dX1_insert_16 rfl (lv_at hl 0 rfl) ?_
    refine lv_iload_n hx hb dX1_insert_17 rfl (lv_at hl 1 rfl) ?_
    refine kc_V 1 (c_X1_countLess l G A ad dm ct n le lo sz hi ri de ta kf vf cf hP (by omega) x) F hE hW hS (1, n) hP.1.1 hP.2.1 rfl [.int x] rfl kw_184 kw_185 kw_186 kw_5 kw_187 (by decide +kernel) rfl ⟨rfl, rfl⟩ ⟨Nat.le_of_ble_eq_true rfl, Nat.le_of_ble_eq_true rfl⟩ hl.1 rfl (Nat.le_of_ble_eq_true rfl) dX1_insert_18 ⟨Nat.le_of_ble_eq_true rfl, Nat.le_of_ble_eq_true rfl⟩ (fun _ _ _ _ _ h => h.elim) (fun v w' H locs hp hW hS => ?_)
    obtain ⟨rfl, q, hq, rfl, h1, h2⟩ := hp
    refine lv_istore (lv' := [(4, .int (nI q)), (0, .ref (ad (1, n))), (1, .int x), (2, .int y), (3, .null)]) hx hb dX1_insert_21 hl (by decide) rfl (fun ls hl => ?_)
    refine lv_aload_n hx hb dX1_insert_23 rfl (lv_at hl 1 rfl) ?_
    refine kg F hE hW (1, n) hP.1.1 rfl hP.2.1 rfl inA_X1 6 (by decide) kw_73 (v := .int (nI sz)) rfl dX1_insert_24 ?_
    refine lv_istore (lv' := [(5, .int (nI sz)), (4, .int (nI q)), (0, .ref (ad (1, n))), (1, .int x), (2, .int y), (3, .null)]) hx hb dX1_insert_27 hl (by decide) rfl (fun ls hl => ?_)
    suffices key : ∀ (d t : Nat) (ct1 : Lb → va_E) (H : Heap) (locs : List Loc) (ls : Array Slot) (kf1 vf1 : Nat → Int32) (cf1 : Nat → Option Nat), t ≤ sz → t = q + d → PG G ad dm ct1 n le lo sz hi ri de ta kf1 vf1 cf1 → XP n ct ct1 → Shf t sz kf kf1 → Shf t sz vf vf1 → Shf t sz cf cf1 → isPg ad dm ct1 none → (∀ k, k < t → isPg ad dm ct1 (cf1 k)) → wd G A (ad, dm, ct1) H → va_S A s.heap H locs → lv_has ls 6 [(5, .int (nI t)), (4, .int (nI q)), (0, .ref (ad (1, n))), (1, .int x), (2, .int y), (3, .null)] → W p l e _ s m _ below meth c H locs 0 0 _ (F0 m 29 ls []) from
      key (sz - q) sz ct _ _ ls kf vf cf (Nat.le_refl _) (by omega) hP XP.rf Shf.start Shf.start Shf.start hrp hC hW hS hl
    clear hP hrp hC hW hS hl
    intro d
    induction d with
    | zero =>
      intro t ct H locs ls kf1 vf1 cf1 ht htd hP hX hk hv hc hrp hC hW hS hl
      obtain rfl : q = t := htd.symm
      refine lv_iload hx hb dX1_insert_29 (lv_at hl 0 rfl) ?_
      refine lv_iload hx hb dX1_insert_31 (lv_at hl 1 rfl) ?_
      refine nc_le (tgt := 52) hx hb dX1_insert_33 (by decide) (by omega) (by omega) (fun c3 => ?_) (fun c3 => ?_)
      · refine lv_aload_n hx hb dX1_insert_52 rfl (lv_at hl 2 rfl) ?_
        refine kg F hE hW (1, n) hP.1.1 rfl hP.2.1 rfl inA_X1 3 (by decide) kw_70 (v := .ref (ad (2, n))) rfl dX1_insert_53 ?_
        refine lv_iload hx hb dX1_insert_56 (lv_at hl 1 rfl) ?_
        refine lv_iload_n hx hb dX1_insert_58 rfl (lv_at hl 3 rfl) ?_
        refine pg_key F hE hW hS hP q rfl (by omega) dX1_insert_59 (fun ct H locs hW hP hX0 hS => ?_)
        have hX := XP.tr hX hX0
        have hrp := isPg.keep hrp hP hX0
        refine lv_aload_n hx hb dX1_insert_60 rfl (lv_at hl 2 rfl) ?_
        refine kg F hE hW (1, n) hP.1.1 rfl hP.2.1 rfl inA_X1 4 (by decide) kw_71 (v := .ref (ad (3, n))) rfl dX1_insert_61 ?_
        refine lv_iload hx hb dX1_insert_64 (lv_at hl 1 rfl) ?_
        refine lv_iload_n hx hb dX1_insert_66 rfl (lv_at hl 4 rfl) ?_
        refine pg_val F hE hW hS hP q rfl (by omega) dX1_insert_67 (fun ct H locs hW hP hX0 hS => ?_)
        have hX := XP.tr hX hX0
        have hrp := isPg.keep hrp hP hX0
        refine lv_aload_n hx hb dX1_insert_68 rfl (lv_at hl 2 rfl) ?_
        refine kg F hE hW (1, n) hP.1.1 rfl hP.2.1 rfl inA_X1 5 (by decide) kw_72 (v := .ref (ad (4, n))) rfl dX1_insert_69 ?_
        refine lv_iload hx hb dX1_insert_72 (lv_at hl 1 rfl) ?_
        refine lv_aload_nN hx hb dX1_insert_74 rfl (lv_at hl 5 rfl) ?_
        refine pg_child (r := none) rfl hrp F hE hW hS hP q rfl (by omega) dX1_insert_75 (fun ct H locs hW hP hX0 hS => ?_)
        have hX := XP.tr hX hX0
        refine lv_aload_n hx hb dX1_insert_76 rfl (lv_at hl 2 rfl) ?_
        refine lv_dup hx hb dX1_insert_77 rfl ?_
        refine kg F hE hW (1, n) hP.1.1 rfl hP.2.1 rfl inA_X1 6 (by decide) kw_73 (v := .int (nI sz)) rfl dX1_insert_78 ?_
        refine lv_iconst (v := nI 1) hx hb dX1_insert_81 (by decide) ?_
        refine lv_iadd hx hb dX1_insert_82 ?_
        refine ktop (nI_add _ _) ?_
        refine pg_size F hE hW hS hP kw_73 dX1_insert_83 (fun ct H locs hW hP hX0 hS => ?_)
        have hX := XP.tr hX hX0
        exact kr_v F hr hlk hE hW hS (Nat.le_of_ble_eq_true rfl) (Nat.le_of_ble_eq_true rfl) dX1_insert_86 (⟨_, rfl, rfl, q, hq, h1, h2, _, _, _, hP, hX, hk.ins _, hv.ins _, hc.ins _⟩)
      · exact absurd c3 (by omega)
    | succ d ih =>
      intro t ct H locs ls kf1 vf1 cf1 ht htd hP hX hk hv hc hrp hC hW hS hl
      subst htd
      refine lv_iload hx hb dX1_insert_29 (lv_at hl 0 rfl) ?_
      refine lv_iload hx hb dX1_insert_31 (lv_at hl 1 rfl) ?_
      refine nc_le (tgt := 52) hx hb dX1_insert_33 (by decide) (by omega) (by omega) (fun c3 => ?_) (fun c3 => ?_)
      · exact absurd c3 (by omega)
      · refine lv_aload_n hx hb dX1_insert_36 rfl (lv_at hl 2 rfl) ?_
        refine lv_iload hx hb dX1_insert_37 (lv_at hl 0 rfl) ?_
        refine lv_iconst (v := nI 1) hx hb dX1_insert_39 (by decide) ?_
        refine lv_isub hx hb dX1_insert_40 ?_
        refine ktop (nI_pred (q + d)) ?_
        refine lv_iload hx hb dX1_insert_41 (lv_at hl 0 rfl) ?_
        refine kc_V 2 (c_X1_copy l G A ad dm ct n le lo sz hi ri de ta kf1 vf1 cf1 hP (by omega) (q + d) (q + (d + 1)) (by omega) (by omega) (hC _ (by omega))) F hE hW hS (1, n) hP.1.1 hP.2.1 rfl [.int (nI (q + d)), .int (nI (q + (d + 1)))] rfl kw_188 kw_190 kp_4 kw_5 kw_191 (by decide +kernel) rfl ⟨rfl, rfl⟩ ⟨Nat.le_of_ble_eq_true rfl, Nat.le_of_ble_eq_true rfl⟩ hl.1 rfl (Nat.le_of_ble_eq_true rfl) dX1_insert_43 ⟨Nat.le_of_ble_eq_true rfl, Nat.le_of_ble_eq_true rfl⟩ (fun _ _ _ _ _ h => h.elim) (fun v w' H locs hp hW hS => ?_)
        obtain ⟨ct', rfl, rfl, hP', hX'⟩ := hp
        refine lv_iinc (v := nI (q + d)) (lv' := [(5, .int (nI (q + d))), (4, .int (nI q)), (0, .ref (ad (1, n))), (1, .int x), (2, .int y), (3, .null)]) hx hb dX1_insert_46 hl (k := 0) rfl (kim1 (q + d)) (by decide) rfl (fun ls hl => ?_)
        refine lv_goto (tgt := 29) hx hb dX1_insert_49 (by decide) ?_
        exact ih (q + d) ct' _ _ _ _ _ _ (by omega) rfl hP' (XP.tr hX hX') hk.step hv.step hc.step (isPg.keep hrp hP' hX') (fun k hk2 => by rw [va_up_ne _ _ (by omega)]; exact isPg.keep (hC k (by omega)) hP' hX') hW hS hl
  · exact absurd c1 (by omega)
set_option maxRecDepth 100000 in
set_option maxHeartbeats 4000000 in
theorem c_X1_insertR (l : Launch) (G : GG) (A : Nat → Prop) (ad : Lb → Nat) (dm : Lb → Prop) (ct : Lb → va_E) (n le lo sz hi : Nat) (ri : Option Nat) (de ta : Nat) (kf vf : Nat → Int32) (cf : Nat → Option Nat) (hP : PG G ad dm ct n le lo sz hi ri de ta kf vf cf) (hsz : sz ≤ 4) (x y : Int32) (r0 : Nat) (hrp : isPg ad dm ct (some r0)) (hC : ∀ k, k < sz → isPg ad dm ct (cf k)) :
    CT l yX1_insert cX1_insert 6 none { frames := 1, cells := 0, slots := 0, locals := 22 } [.ref (ad (1, n)), .int x, .int y, .ref r0] G A (ad, dm, ct) (fun v w' => ∃ ct', w' = (ad, dm, ct') ∧ v = none ∧ ∃ q, q ≤ sz ∧ (∀ k, k < q → kf k < x) ∧ (q < sz → ¬ kf q < x) ∧ ∃ kf' vf' cf', PG G ad dm ct' n le lo (sz + 1) hi ri de ta kf' vf' cf' ∧ XP n ct ct' ∧ Ins q sz x kf kf' ∧ Ins q sz y vf vf' ∧ Ins q sz (some r0) cf cf') (fun _ => False) (0) (0) := by
  refine ct_of (by decide) (Nat.le_of_ble_eq_true rfl) ?_
  intro p e s m below meth c ls F hr hlk hnm hex hE hW hl
  have hx := F.1
  have hb := F.2.1
  have hS : va_S A s.heap s.heap [] := va_S.rf
  have hl : lv_has ls 6 [(0, .ref (ad (1, n))), (1, .int x), (2, .int y), (3, .ref r0)] := hl
  refine lv_aload_n hx hb dX1_insert_0 rfl (lv_at hl 0 rfl) ?_
  refine kg F hE hW (1, n) hP.1.1 rfl hP.2.1 rfl inA_X1 6 (by decide) kw_73 (v := .int (nI sz)) rfl dX1_insert_1 ?_
  refine nz_lt (tgt := 15) hx hb dX1_insert_4 (by decide) (by omega) ?_
  refine lv_aload_n hx hb dX1_insert_7 rfl (lv_at hl 0 rfl) ?_
  refine kg F hE hW (1, n) hP.1.1 rfl hP.2.1 rfl inA_X1 6 (by decide) kw_73 (v := .int (nI sz)) rfl dX1_insert_8 ?_
  refine lv_iconst (v := nI 5) hx hb dX1_insert_11 (by decide) ?_
  refine nc_lt (tgt := 16) hx hb dX1_insert_12 (by decide) (by omega) (by omega) (fun c1 => ?_) (fun c1 => ?_)
  · refine lv_aload_n hx hb dX1_insert_16 rfl (lv_at hl 0 rfl) ?_
    refine lv_iload_n hx hb dX1_insert_17 rfl (lv_at hl 1 rfl) ?_
    refine kc_V 1 (c_X1_countLess l G A ad dm ct n le lo sz hi ri de ta kf vf cf hP (by omega) x) F hE hW hS (1, n) hP.1.1 hP.2.1 rfl [.int x] rfl kw_184 kw_185 kw_186 kw_5 kw_187 (by decide +kernel) rfl ⟨rfl, rfl⟩ ⟨Nat.le_of_ble_eq_true rfl, Nat.le_of_ble_eq_true rfl⟩ hl.1 rfl (Nat.le_of_ble_eq_true rfl) dX1_insert_18 ⟨Nat.le_of_ble_eq_true rfl, Nat.le_of_ble_eq_true rfl⟩ (fun _ _ _ _ _ h => h.elim) (fun v w' H locs hp hW hS => ?_)
    obtain ⟨rfl, q, hq, rfl, h1, h2⟩ := hp
    refine lv_istore (lv' := [(4, .int (nI q)), (0, .ref (ad (1, n))), (1, .int x), (2, .int y), (3, .ref r0)]) hx hb dX1_insert_21 hl (by decide) rfl (fun ls hl => ?_)
    refine lv_aload_n hx hb dX1_insert_23 rfl (lv_at hl 1 rfl) ?_
    refine kg F hE hW (1, n) hP.1.1 rfl hP.2.1 rfl inA_X1 6 (by decide) kw_73 (v := .int (nI sz)) rfl dX1_insert_24 ?_
    refine lv_istore (lv' := [(5, .int (nI sz)), (4, .int (nI q)), (0, .ref (ad (1, n))), (1, .int x), (2, .int y), (3, .ref r0)]) hx hb dX1_insert_27 hl (by decide) rfl (fun ls hl => ?_)
    suffices key : ∀ (d t : Nat) (ct1 : Lb → va_E) (H : Heap) (locs : List Loc) (ls : Array Slot) (kf1 vf1 : Nat → Int32) (cf1 : Nat → Option Nat), t ≤ sz → t = q + d → PG G ad dm ct1 n le lo sz hi ri de ta kf1 vf1 cf1 → XP n ct ct1 → Shf t sz kf kf1 → Shf t sz vf vf1 → Shf t sz cf cf1 → isPg ad dm ct1 (some r0) → (∀ k, k < t → isPg ad dm ct1 (cf1 k)) → wd G A (ad, dm, ct1) H → va_S A s.heap H locs → lv_has ls 6 [(5, .int (nI t)), (4, .int (nI q)), (0, .ref (ad (1, n))), (1, .int x), (2, .int y), (3, .ref r0)] → W p l e _ s m _ below meth c H locs 0 0 _ (F0 m 29 ls []) from
      key (sz - q) sz ct _ _ ls kf vf cf (Nat.le_refl _) (by omega) hP XP.rf Shf.start Shf.start Shf.start hrp hC hW hS hl
    clear hP hrp hC hW hS hl
    intro d
    induction d with
    | zero =>
      intro t ct H locs ls kf1 vf1 cf1 ht htd hP hX hk hv hc hrp hC hW hS hl
      obtain rfl : q = t := htd.symm
      refine lv_iload hx hb dX1_insert_29 (lv_at hl 0 rfl) ?_
      refine lv_iload hx hb dX1_insert_31 (lv_at hl 1 rfl) ?_
      refine nc_le (tgt := 52) hx hb dX1_insert_33 (by decide) (by omega) (by omega) (fun c3 => ?_) (fun c3 => ?_)
      · refine lv_aload_n hx hb dX1_insert_52 rfl (lv_at hl 2 rfl) ?_
        refine kg F hE hW (1, n) hP.1.1 rfl hP.2.1 rfl inA_X1 3 (by decide) kw_70 (v := .ref (ad (2, n))) rfl dX1_insert_53 ?_
        refine lv_iload hx hb dX1_insert_56 (lv_at hl 1 rfl) ?_
        refine lv_iload_n hx hb dX1_insert_58 rfl (lv_at hl 3 rfl) ?_
        refine pg_key F hE hW hS hP q rfl (by omega) dX1_insert_59 (fun ct H locs hW hP hX0 hS => ?_)
        have hX := XP.tr hX hX0
        have hrp := isPg.keep hrp hP hX0
        refine lv_aload_n hx hb dX1_insert_60 rfl (lv_at hl 2 rfl) ?_
        refine kg F hE hW (1, n) hP.1.1 rfl hP.2.1 rfl inA_X1 4 (by decide) kw_71 (v := .ref (ad (3, n))) rfl dX1_insert_61 ?_
        refine lv_iload hx hb dX1_insert_64 (lv_at hl 1 rfl) ?_
        refine lv_iload_n hx hb dX1_insert_66 rfl (lv_at hl 4 rfl) ?_
        refine pg_val F hE hW hS hP q rfl (by omega) dX1_insert_67 (fun ct H locs hW hP hX0 hS => ?_)
        have hX := XP.tr hX hX0
        have hrp := isPg.keep hrp hP hX0
        refine lv_aload_n hx hb dX1_insert_68 rfl (lv_at hl 2 rfl) ?_
        refine kg F hE hW (1, n) hP.1.1 rfl hP.2.1 rfl inA_X1 5 (by decide) kw_72 (v := .ref (ad (4, n))) rfl dX1_insert_69 ?_
        refine lv_iload hx hb dX1_insert_72 (lv_at hl 1 rfl) ?_
        refine lv_aload_n hx hb dX1_insert_74 rfl (lv_at hl 5 rfl) ?_
        refine pg_child (r := (some r0)) rfl hrp F hE hW hS hP q rfl (by omega) dX1_insert_75 (fun ct H locs hW hP hX0 hS => ?_)
        have hX := XP.tr hX hX0
        refine lv_aload_n hx hb dX1_insert_76 rfl (lv_at hl 2 rfl) ?_
        refine lv_dup hx hb dX1_insert_77 rfl ?_
        refine kg F hE hW (1, n) hP.1.1 rfl hP.2.1 rfl inA_X1 6 (by decide) kw_73 (v := .int (nI sz)) rfl dX1_insert_78 ?_
        refine lv_iconst (v := nI 1) hx hb dX1_insert_81 (by decide) ?_
        refine lv_iadd hx hb dX1_insert_82 ?_
        refine ktop (nI_add _ _) ?_
        refine pg_size F hE hW hS hP kw_73 dX1_insert_83 (fun ct H locs hW hP hX0 hS => ?_)
        have hX := XP.tr hX hX0
        exact kr_v F hr hlk hE hW hS (Nat.le_of_ble_eq_true rfl) (Nat.le_of_ble_eq_true rfl) dX1_insert_86 (⟨_, rfl, rfl, q, hq, h1, h2, _, _, _, hP, hX, hk.ins _, hv.ins _, hc.ins _⟩)
      · exact absurd c3 (by omega)
    | succ d ih =>
      intro t ct H locs ls kf1 vf1 cf1 ht htd hP hX hk hv hc hrp hC hW hS hl
      subst htd
      refine lv_iload hx hb dX1_insert_29 (lv_at hl 0 rfl) ?_
      refine lv_iload hx hb dX1_insert_31 (lv_at hl 1 rfl) ?_
      refine nc_le (tgt := 52) hx hb dX1_insert_33 (by decide) (by omega) (by omega) (fun c3 => ?_) (fun c3 => ?_)
      · exact absurd c3 (by omega)
      · refine lv_aload_n hx hb dX1_insert_36 rfl (lv_at hl 2 rfl) ?_
        refine lv_iload hx hb dX1_insert_37 (lv_at hl 0 rfl) ?_
        refine lv_iconst (v := nI 1) hx hb dX1_insert_39 (by decide) ?_
        refine lv_isub hx hb dX1_insert_40 ?_
        refine ktop (nI_pred (q + d)) ?_
        refine lv_iload hx hb dX1_insert_41 (lv_at hl 0 rfl) ?_
        refine kc_V 2 (c_X1_copy l G A ad dm ct n le lo sz hi ri de ta kf1 vf1 cf1 hP (by omega) (q + d) (q + (d + 1)) (by omega) (by omega) (hC _ (by omega))) F hE hW hS (1, n) hP.1.1 hP.2.1 rfl [.int (nI (q + d)), .int (nI (q + (d + 1)))] rfl kw_188 kw_190 kp_4 kw_5 kw_191 (by decide +kernel) rfl ⟨rfl, rfl⟩ ⟨Nat.le_of_ble_eq_true rfl, Nat.le_of_ble_eq_true rfl⟩ hl.1 rfl (Nat.le_of_ble_eq_true rfl) dX1_insert_43 ⟨Nat.le_of_ble_eq_true rfl, Nat.le_of_ble_eq_true rfl⟩ (fun _ _ _ _ _ h => h.elim) (fun v w' H locs hp hW hS => ?_)
        obtain ⟨ct', rfl, rfl, hP', hX'⟩ := hp
        refine lv_iinc (v := nI (q + d)) (lv' := [(5, .int (nI (q + d))), (4, .int (nI q)), (0, .ref (ad (1, n))), (1, .int x), (2, .int y), (3, .ref r0)]) hx hb dX1_insert_46 hl (k := 0) rfl (kim1 (q + d)) (by decide) rfl (fun ls hl => ?_)
        refine lv_goto (tgt := 29) hx hb dX1_insert_49 (by decide) ?_
        exact ih (q + d) ct' _ _ _ _ _ _ (by omega) rfl hP' (XP.tr hX hX') hk.step hv.step hc.step (isPg.keep hrp hP' hX') (fun k hk2 => by rw [va_up_ne _ _ (by omega)]; exact isPg.keep (hC k (by omega)) hP' hX') hW hS hl
  · exact absurd c1 (by omega)
theorem c_X1_insert (l : Launch) (G : GG) (A : Nat → Prop) (ad : Lb → Nat) (dm : Lb → Prop) (ct : Lb → va_E) (n le lo sz hi : Nat) (ri : Option Nat) (de ta : Nat) (kf vf : Nat → Int32) (cf : Nat → Option Nat) (hP : PG G ad dm ct n le lo sz hi ri de ta kf vf cf) (hsz : sz ≤ 4) (x y : Int32) (r : Option Nat) (vr : Value) (hvr : va_rf r = vr) (hrp : isPg ad dm ct r) (hC : ∀ k, k < sz → isPg ad dm ct (cf k)) :
    CT l yX1_insert cX1_insert 6 none { frames := 1, cells := 0, slots := 0, locals := 22 } [.ref (ad (1, n)), .int x, .int y, vr] G A (ad, dm, ct) (fun v w' => ∃ ct', w' = (ad, dm, ct') ∧ v = none ∧ ∃ q, q ≤ sz ∧ (∀ k, k < q → kf k < x) ∧ (q < sz → ¬ kf q < x) ∧ ∃ kf' vf' cf', PG G ad dm ct' n le lo (sz + 1) hi ri de ta kf' vf' cf' ∧ XP n ct ct' ∧ Ins q sz x kf kf' ∧ Ins q sz y vf vf' ∧ Ins q sz r cf cf') (fun _ => False) 0 0 := by
  subst hvr
  cases r with
  | none => exact c_X1_insertN l G A ad dm ct n le lo sz hi ri de ta kf vf cf hP hsz x y hrp hC
  | some r0 => exact c_X1_insertR l G A ad dm ct n le lo sz hi ri de ta kf vf cf hP hsz x y r0 hrp hC
set_option maxRecDepth 100000 in
set_option maxHeartbeats 4000000 in
theorem c_X1_changeValue (l : Launch) (G : GG) (A : Nat → Prop) (ad : Lb → Nat) (dm : Lb → Prop) (ct : Lb → va_E) (n le lo sz hi : Nat) (ri : Option Nat) (de ta : Nat) (kf vf : Nat → Int32) (cf : Nat → Option Nat) (hP : PG G ad dm ct n le lo sz hi ri de ta kf vf cf) (hsz : sz ≤ 5) (j : Nat) (hj : j < sz) (y : Int32) :
    CT l yX1_changeValue cX1_changeValue 4 (some FieldType.int) { frames := 1, cells := 0, slots := 0, locals := 21 } [.ref (ad (1, n)), .int (nI j), .int y] G A (ad, dm, ct) (fun v w' => ∃ ct', w' = (ad, dm, ct') ∧ v = some (.int (vf j)) ∧ PG G ad dm ct' n le lo sz hi ri de ta kf (va_up vf j y) cf ∧ XP n ct ct') (fun _ => False) (0) (0) := by
  refine ct_of (by decide) (Nat.le_of_ble_eq_true rfl) ?_
  intro p e s m below meth c ls F hr hlk hnm hex hE hW hl
  have hx := F.1
  have hb := F.2.1
  have hS : va_S A s.heap s.heap [] := va_S.rf
  have hl : lv_has ls 4 [(0, .ref (ad (1, n))), (1, .int (nI j)), (2, .int y)] := hl
  have hX : XP n ct ct := XP.rf
  refine lv_aload_n hx hb dX1_changeValue_0 rfl (lv_at hl 0 rfl) ?_
  refine lv_iload_n hx hb dX1_changeValue_1 rfl (lv_at hl 1 rfl) ?_
  refine kc_V 1 (c_X1_has l G A ad dm ct n le lo sz hi ri de ta kf vf cf hP hsz (nI j)) F hE hW hS (1, n) hP.1.1 hP.2.1 rfl [.int (nI j)] rfl kw_204 kw_205 kw_206 kw_5 kw_207 (by decide +kernel) rfl ⟨rfl, rfl⟩ ⟨Nat.le_of_ble_eq_true rfl, Nat.le_of_ble_eq_true rfl⟩ hl.1 rfl (Nat.le_of_ble_eq_true rfl) dX1_changeValue_2 ⟨Nat.le_of_ble_eq_true rfl, Nat.le_of_ble_eq_true rfl⟩ (fun _ _ _ _ _ h => h.elim) (fun v w' H locs hp hW hS => ?_)
  obtain ⟨rfl, ⟨rfl, j2, hj2, hjj⟩ | ⟨rfl, hno⟩⟩ := hp
  · refine nz_ne (tgt := 10) hx hb dX1_changeValue_5 (by decide) (by omega) (fun c1 => ?_) (fun c1 => ?_)
    · refine lv_aload_n hx hb dX1_changeValue_10 rfl (lv_at hl 0 rfl) ?_
      refine kg F hE hW (1, n) hP.1.1 rfl hP.2.1 rfl inA_X1 4 (by decide) kw_71 (v := .ref (ad (3, n))) rfl dX1_changeValue_11 ?_
      refine lv_iload_n hx hb dX1_changeValue_14 rfl (lv_at hl 1 rfl) ?_
      refine kl_i F hE hW (3, n) hP.1.2.2.1 rfl hP.2.2.2.1 j rfl (by omega) (by decide) dX1_changeValue_15 ?_
      refine lv_istore_n (lv' := [(3, .int (vf j)), (0, .ref (ad (1, n))), (1, .int (nI j)), (2, .int y)]) hx hb dX1_changeValue_16 rfl hl (by decide) rfl (fun ls hl => ?_)
      refine lv_aload_n hx hb dX1_changeValue_17 rfl (lv_at hl 1 rfl) ?_
      refine kg F hE hW (1, n) hP.1.1 rfl hP.2.1 rfl inA_X1 4 (by decide) kw_71 (v := .ref (ad (3, n))) rfl dX1_changeValue_18 ?_
      refine lv_iload_n hx hb dX1_changeValue_21 rfl (lv_at hl 2 rfl) ?_
      refine lv_iload_n hx hb dX1_changeValue_22 rfl (lv_at hl 3 rfl) ?_
      refine pg_val F hE hW hS hP j rfl (by omega) dX1_changeValue_23 (fun ct H locs hW hP hX0 hS => ?_)
      have hX := XP.tr hX hX0
      refine lv_iload_n hx hb dX1_changeValue_24 rfl (lv_at hl 0 rfl) ?_
      exact kr_i F hr hlk hE hW hS (Nat.le_of_ble_eq_true rfl) (Nat.le_of_ble_eq_true rfl) dX1_changeValue_25 (⟨_, rfl, rfl, hP, hX⟩)
    · exact absurd c1 (by decide)
  · exact absurd rfl (hno j hj)
set_option maxRecDepth 100000 in
set_option maxHeartbeats 4000000 in
theorem c_X1_removeFrom (l : Launch) (G : GG) (A : Nat → Prop) (ad : Lb → Nat) (dm : Lb → Prop) (ct : Lb → va_E) (n le lo sz hi : Nat) (ri : Option Nat) (de ta : Nat) (kf vf : Nat → Int32) (cf : Nat → Option Nat) (hP : PG G ad dm ct n le lo sz hi ri de ta kf vf cf) (hsz : sz ≤ 5) (j : Nat) (hj : j < sz) (hC : ∀ k, k < sz → isPg ad dm ct (cf k)) :
    CT l yX1_removeFrom cX1_removeFrom 3 none { frames := 1, cells := 0, slots := 0, locals := 22 } [.ref (ad (1, n)), .int (nI j)] G A (ad, dm, ct) (fun v w' => ∃ ct', w' = (ad, dm, ct') ∧ v = none ∧ ∃ kf' vf' cf', PG G ad dm ct' n le lo (sz - 1) hi ri de ta kf' vf' cf' ∧ XP n ct ct' ∧ Del j sz kf kf' ∧ Del j sz vf vf' ∧ Del j sz cf cf') (fun _ => False) (0) (0) := by
  refine ct_of (by decide) (Nat.le_of_ble_eq_true rfl) ?_
  intro p e s m below meth c ls F hr hlk hnm hex hE hW hl
  have hx := F.1
  have hb := F.2.1
  have hS : va_S A s.heap s.heap [] := va_S.rf
  have hl : lv_has ls 3 [(0, .ref (ad (1, n))), (1, .int (nI j))] := hl
  refine lv_aload_n hx hb dX1_removeFrom_0 rfl (lv_at hl 0 rfl) ?_
  refine lv_iload_n hx hb dX1_removeFrom_1 rfl (lv_at hl 1 rfl) ?_
  refine kc_V 1 (c_X1_has l G A ad dm ct n le lo sz hi ri de ta kf vf cf hP hsz (nI j)) F hE hW hS (1, n) hP.1.1 hP.2.1 rfl [.int (nI j)] rfl kw_204 kw_205 kw_206 kw_5 kw_207 (by decide +kernel) rfl ⟨rfl, rfl⟩ ⟨Nat.le_of_ble_eq_true rfl, Nat.le_of_ble_eq_true rfl⟩ hl.1 rfl (Nat.le_of_ble_eq_true rfl) dX1_removeFrom_2 ⟨Nat.le_of_ble_eq_true rfl, Nat.le_of_ble_eq_true rfl⟩ (fun _ _ _ _ _ h => h.elim) (fun v w' H locs hp hW hS => ?_)
  obtain ⟨rfl, ⟨rfl, j2, hj2, hjj⟩ | ⟨rfl, hno⟩⟩ := hp
  · refine nz_ne (tgt := 9) hx hb dX1_removeFrom_5 (by decide) (by omega) (fun c1 => ?_) (fun c1 => ?_)
    · refine lv_iload_n hx hb dX1_removeFrom_9 rfl (lv_at hl 1 rfl) ?_
      refine lv_istore_n (lv' := [(2, .int (nI j)), (0, .ref (ad (1, n))), (1, .int (nI j))]) hx hb dX1_removeFrom_10 rfl hl (by decide) rfl (fun ls hl => ?_)
      suffices key : ∀ (d t : Nat) (ct1 : Lb → va_E) (H : Heap) (locs : List Loc) (ls : Array Slot) (kf1 vf1 : Nat → Int32) (cf1 : Nat → Option Nat), t + 1 + d = sz → j ≤ t → PG G ad dm ct1 n le lo sz hi ri de ta kf1 vf1 cf1 → XP n ct ct1 → Dlp t j kf kf1 → Dlp t j vf vf1 → Dlp t j cf cf1 → (∀ k, k < sz → isPg ad dm ct1 (cf1 k)) → wd G A (ad, dm, ct1) H → va_S A s.heap H locs → lv_has ls 3 [(2, .int (nI t)), (0, .ref (ad (1, n))), (1, .int (nI j))] → W p l e _ s m _ below meth c H locs 0 0 _ (F0 m 11 ls []) from
        key (sz - 1 - j) j ct _ _ ls kf vf cf (by omega) (Nat.le_refl _) hP XP.rf Dlp.start Dlp.start Dlp.start hC hW hS hl
      clear hP hC hW hS hl
      intro d
      induction d with
      | zero =>
        intro t ct H locs ls kf1 vf1 cf1 ht htj hP hX hk hv hc hC hW hS hl
        refine lv_iload_n hx hb dX1_removeFrom_11 rfl (lv_at hl 0 rfl) ?_
        refine lv_iconst (v := nI 1) hx hb dX1_removeFrom_12 (by decide) ?_
        refine lv_iadd hx hb dX1_removeFrom_13 ?_
        refine ktop (nI_add _ _) ?_
        refine lv_aload_n hx hb dX1_removeFrom_14 rfl (lv_at hl 1 rfl) ?_
        refine kg F hE hW (1, n) hP.1.1 rfl hP.2.1 rfl inA_X1 6 (by decide) kw_73 (v := .int (nI sz)) rfl dX1_removeFrom_15 ?_
        refine nc_ge (tgt := 35) hx hb dX1_removeFrom_18 (by decide) (by omega) (by omega) (fun c3 => ?_) (fun c3 => ?_)
        · refine lv_aload_n hx hb dX1_removeFrom_35 rfl (lv_at hl 1 rfl) ?_
          refine lv_dup hx hb dX1_removeFrom_36 rfl ?_
          refine kg F hE hW (1, n) hP.1.1 rfl hP.2.1 rfl inA_X1 6 (by decide) kw_73 (v := .int (nI sz)) rfl dX1_removeFrom_37 ?_
          refine lv_iconst (v := nI 1) hx hb dX1_removeFrom_40 (by decide) ?_
          refine lv_isub hx hb dX1_removeFrom_41 ?_
          refine ktop (pk_sub (by omega)) ?_
          refine pg_size F hE hW hS hP kw_73 dX1_removeFrom_42 (fun ct H locs hW hP hX0 hS => ?_)
          have hX := XP.tr hX hX0
          exact kr_v F hr hlk hE hW hS (Nat.le_of_ble_eq_true rfl) (Nat.le_of_ble_eq_true rfl) dX1_removeFrom_45 (⟨_, rfl, rfl, _, _, _, hP, hX, hk.del (by omega), hv.del (by omega), hc.del (by omega)⟩)
        · exact absurd c3 (by omega)
      | succ d ih =>
        intro t ct H locs ls kf1 vf1 cf1 ht htj hP hX hk hv hc hC hW hS hl
        refine lv_iload_n hx hb dX1_removeFrom_11 rfl (lv_at hl 0 rfl) ?_
        refine lv_iconst (v := nI 1) hx hb dX1_removeFrom_12 (by decide) ?_
        refine lv_iadd hx hb dX1_removeFrom_13 ?_
        refine ktop (nI_add _ _) ?_
        refine lv_aload_n hx hb dX1_removeFrom_14 rfl (lv_at hl 1 rfl) ?_
        refine kg F hE hW (1, n) hP.1.1 rfl hP.2.1 rfl inA_X1 6 (by decide) kw_73 (v := .int (nI sz)) rfl dX1_removeFrom_15 ?_
        refine nc_ge (tgt := 35) hx hb dX1_removeFrom_18 (by decide) (by omega) (by omega) (fun c3 => ?_) (fun c3 => ?_)
        · exact absurd c3 (by omega)
        · refine lv_aload_n hx hb dX1_removeFrom_21 rfl (lv_at hl 1 rfl) ?_
          refine lv_iload_n hx hb dX1_removeFrom_22 rfl (lv_at hl 0 rfl) ?_
          refine lv_iconst (v := nI 1) hx hb dX1_removeFrom_23 (by decide) ?_
          refine lv_iadd hx hb dX1_removeFrom_24 ?_
          refine ktop (nI_add _ _) ?_
          refine lv_iload_n hx hb dX1_removeFrom_25 rfl (lv_at hl 0 rfl) ?_
          refine kc_V 2 (c_X1_copy l G A ad dm ct n le lo sz hi ri de ta kf1 vf1 cf1 hP hsz (t + 1) t (by omega) (by omega) (hC _ (by omega))) F hE hW hS (1, n) hP.1.1 hP.2.1 rfl [.int (nI (t + 1)), .int (nI t)] rfl kw_188 kw_190 kp_4 kw_5 kw_191 (by decide +kernel) rfl ⟨rfl, rfl⟩ ⟨Nat.le_of_ble_eq_true rfl, Nat.le_of_ble_eq_true rfl⟩ hl.1 rfl (Nat.le_of_ble_eq_true rfl) dX1_removeFrom_26 ⟨Nat.le_of_ble_eq_true rfl, Nat.le_of_ble_eq_true rfl⟩ (fun _ _ _ _ _ h => h.elim) (fun v w' H locs hp hW hS => ?_)
          obtain ⟨ct', rfl, rfl, hP', hX'⟩ := hp
          refine lv_iinc (v := nI (t + 1)) (lv' := [(2, .int (nI (t + 1))), (0, .ref (ad (1, n))), (1, .int (nI j))]) hx hb dX1_removeFrom_29 hl (k := 0) rfl (ki1 _) (by decide) rfl (fun ls hl => ?_)
          refine lv_goto (tgt := 11) hx hb dX1_removeFrom_32 (by decide) ?_
          exact ih (t + 1) ct' _ _ _ _ _ _ (by omega) (by omega) hP' (XP.tr hX hX') (hk.step htj) (hv.step htj) (hc.step htj) (fun k hk2 => by
            by_cases hkt : k = t
            · subst hkt; rw [va_up_self]; exact isPg.keep (hC _ (by omega)) hP' hX'
            · rw [va_up_ne _ _ hkt]; exact isPg.keep (hC k hk2) hP' hX') hW hS hl
    · exact absurd c1 (by decide)
  · exact absurd rfl (hno j hj)
end
section
/-! New cells; calls of constructors; a new page. -/
section VXIA
variable {p : Program} {l : Launch} {e : Env} {R : Room} {s : State} {m : MethodId} {args : Array Value} {below : List Frame} {meth : Method} {c : Code} {T : State} {locs : List Loc} {cells slots : Nat}
theorem vx_callI (X : Stand p l e R s m args below meth c T locs cells slots) (hexec : p.tables.exec = Jvm.exec) {own : String} {index : Nat} {y : MethodName} {bytes : ByteArray} {maxL : Nat}
    (hown : s.vm.findClass own = some m.cls) (hy1 : y.name = "<init>") (hlink : (Cond.methodLink own index y).before args s = true) (hinst : (Cond.instanceMethod y).before args s = true)
    (hcode : (Cond.code y bytes maxL none).before args s = true) (hy : y.cls ≠ "java/lang/invoke/MethodHandle" ∧ y.cls ≠ "java/lang/invoke/VarHandle")
    {W9 : Nat} {Pre : Pt → Array Value → Prop} {Post : Pt → Array Value → Option Value → Pt → Prop} {PostX : Pt → Array Value → Addr → Pt → Prop} (hK : vx_Back l R p e below s args y 3 W9 Pre Post PostX)
    {g : JFrame} (hg : g.method = m) (hsize : g.locals.size = c.maxLocals) {a : Addr} {argsL rest : List Value} (hlen : ∀ sig, parseMethodDescriptor y.desc = some sig → argsL.length = sig.parameters.length)
    (hstack : g.stack = argsL.reverse ++ .ref a :: rest) (hW : 2 * g.monitorRoom + (rest.map fun v => v.category).sum ≤ W9) (hdg : decode c.code g.pc = .ok (.invokespecial index, 3))
    (hpre : ∀ vm₁, s.WarmedH vm₁ → Pre ⟨T.setVm vm₁, locs, cells, slots⟩ (Value.ref a :: argsL).toArray) :
    (∃ (v : Option Value) (vm₁ : Vm) (B : Pt), s.WarmedH vm₁ ∧ Stand p l e R s m args below meth c B.U B.locs B.cells B.slots ∧ Post ⟨T.setVm vm₁, locs, cells, slots⟩ (Value.ref a :: argsL).toArray v B ∧
      ∀ target, Steps p.tables e below (B.U.setTop { g with pc := g.pc + 3, stack := v.toList ++ rest }) target → Steps p.tables e below (T.setTop g) target) ∨
    (∃ (q : Addr) (vm₁ : Vm) (B : Pt), s.WarmedH vm₁ ∧ Stand p l e R s m args below meth c B.U B.locs B.cells B.slots ∧ PostX ⟨T.setVm vm₁, locs, cells, slots⟩ (Value.ref a :: argsL).toArray q B ∧
      Steps p.tables e below (T.setTop g) ((B.U.setTop { g with stack := rest }).pushFrame (.throwing q))) := by
  subst hg
  have hpl : e.platform.magicAccessors = ({} : Platform).magicAccessors := by rw [X.admits.platform]
  obtain ⟨mk, methM, cM, kP, vm₁, hnamed, hmethM, hcodeM, -, hlocalsM, -, hkP, -, hW₁, hstep₁⟩ := Steps.initColdArgs (e := e) X.here hexec X.warmed hpl hown hy1 hy hlink hinst hcode (f := g) rfl hlen hstack hdg
  have X₁ := X.noted hW₁
  rcases hK g.method meth c ⟨T.setVm vm₁, locs, cells, slots⟩ { g with stack := rest } (.invokespecial index) mk (Value.ref a :: argsL).toArray X₁ rfl hsize hdg hW (X₁.named hnamed) (hpre vm₁ X₁.warmed) with ⟨v, B, X', hpost, hsteps⟩ | ⟨q, B, X', hpost, hsteps⟩
  · exact Or.inl ⟨v, vm₁, B, X₁.warmed, X', hpost, fun target h => hstep₁ _ fun acts => by rw [doInvoke_state]; exact hsteps.trans h⟩
  · exact Or.inr ⟨q, vm₁, B, X₁.warmed, X', hpost, hstep₁ _ fun acts => by rw [doInvoke_state]; exact hsteps⟩
end VXIA
section VXIB
variable {p : Program} {l : Launch} {e : Env} {R : Room} {s : State} {m : MethodId} {args : Array Value} {below : List Frame} {meth : Method} {c : Code} {H : Heap} {locs : List Loc} {cells slots : Nat}
variable {y : MethodName} {bytes cc : ByteArray} {maxL nL mc ms n index : Nat} {ret : Option FieldType} {ws : List Cond} {rm : Room} {Pc : Array Value → State → Prop} {Qc : Array Value → State → Outcome → State → Prop} {XC : String → State → State → Prop} {free : Addr → Prop} {Ts : List Cond} {own C : String} {b : Addr} {As rest : List Value} {g : JFrame}
theorem vx_runI (S : CallFix p m c cc nL s args Ts own) (hM : vx_Met l y ws rm Pc Qc XC mc ms free) (cw : CallB R s args own index y bytes maxL none ws rm mc ms n ∧ y.name = "<init>" ∧ (Cond.instanceMethod y).before args s = true) (hp : PreS s H Pc (.ref b :: As))
    (hg : g.method = m) (hn : As.length = n) (hsize : g.locals.size = nL) (hstack : g.stack = As.reverse ++ .ref b :: rest) (hW : 2 * g.monitorRoom + (rest.map fun v => v.category).sum ≤ 8) (hdg : decode cc g.pc = .ok (.invokespecial index, 3)) (hf : cells + mc ≤ R.cells ∧ slots + ms ≤ R.slots) :
    vx_Run p l e R s m args below meth c H locs cells slots mc ms g rest (Qc (Value.ref b :: As).toArray) XC free := by
  have hK : vx_Back l R p e below s args y 3 8 (PreOf R mc ms Pc) (PostOf Qc mc ms free) (vx_Post XC mc ms free) := vx_callBack cw.1 hM hp.1
  obtain ⟨⟨-, -, -, -, -, -, hcode, -, hy, hlen, hl⟩, hy1, hin⟩ := cw
  obtain ⟨hx, hb, hml, ho, -⟩ := S
  have hPc := hp.2
  intro T hT X
  rcases vx_callI X hx (bytes := bytes) (maxL := maxL) ho hy1 hl hin hcode hy hK hg (hsize.trans hml.symm) (a := b) (argsL := As) (rest := rest) (fun sig h => hn.trans (hlen sig h)) hstack hW (by rw [hb]; exact hdg)
    (fun vm₁ hW₁ => ⟨hf.1, hf.2, hPc (T.setVm vm₁) hT hW₁⟩) with ⟨v, vm₁, ⟨U', l2, c2, s2⟩, hW₁, X', ⟨g', mk, t, L, e1, e2, hq, h1, hL, h2, h3⟩, st⟩ | ⟨q, vm₁, ⟨U', l2, c2, s2⟩, hW₁, X', ⟨g', mk, t, L, E, ce, e1, e2, hq, hce, hcv, hcl, h1, hL, h2, h3⟩, st⟩
  · dsimp only [Pt.U, Pt.locs, Pt.cells, Pt.slots] at X' e1 e2 h1 h2 h3 st
    subst h1; subst h2; subst h3
    exact Or.inl ⟨v, (T.setVm vm₁).calling g' mk (Value.ref b :: As).toArray, t, U', L, hT, X', hL, e1, e2, hq, st⟩
  · dsimp only [Pt.U, Pt.locs, Pt.cells, Pt.slots] at X' e1 e2 h1 h2 h3 st hcl
    subst h1; subst h2; subst h3
    exact Or.inr ⟨q, (T.setVm vm₁).calling g' mk (Value.ref b :: As).toArray, t, U', L, E, ce, hT, X', hL, e1, e2, hq, hce, hcv, vx_cls hW₁ hcl, st⟩
end VXIB
/-- a new label: where the old ones lie and what they hold stays -/
def NW (x : Lb) (e : va_E) (ad : Lb → Nat) (dm : Lb → Prop) (ct : Lb → va_E) (ad1 : Lb → Nat) (dm1 : Lb → Prop) (ct1 : Lb → va_E) : Prop :=
  (∀ z : Lb, z ≠ x → ad1 z = ad z ∧ ct1 z = ct z) ∧ ct1 x = e ∧ ∀ z : Lb, dm1 z ↔ (z = x ∨ dm z)
theorem NW.of {x : Lb} {e : va_E} {q : Nat} {ad : Lb → Nat} {dm : Lb → Prop} {ct : Lb → va_E} : NW x e ad dm ct (wnew (ad, dm, ct) x q e).1 (wnew (ad, dm, ct) x q e).2.1 (wnew (ad, dm, ct) x q e).2.2 :=
  ⟨fun z hz => ⟨if_neg hz, lu_n hz⟩, lu_s, fun z => Iff.rfl⟩
section KN
variable {p : Program} {l : Launch} {e : Env} {R : Room} {s : State} {m : MethodId} {args : Array Value} {below : List Frame} {meth : Method} {c : Code} {H : Heap} {locs : List Loc} {cells slots : Nat} {Q : State → Prop}
variable {cc b : ByteArray} {pc nL n mc ms index : Nat} {ls : Array Slot} {rest st : List Value} {own : String} {y : MethodName} {rm : Room} {G : GG} {A : Nat → Prop} {ad : Lb → Nat} {dm : Lb → Prop} {ct : Lb → va_E} {w : WS} {post : Option Value → WS → Prop} {px : String → Prop}
theorem no (F : Fx p m c cc nL s args own) (hE : VE G A s) (hW : wd G A (ad, dm, ct) H) (hS : va_S A s.heap H locs) (x : Lb) (hx : ¬ dm x) {ci : Nat} {C : String} {T : u_T} {N : Nat} (hc : vwCl[ci]? = some (C, T, N)) (hin : ∀ u ∈ u_ws C T N, u ∈ AL) (ty0 : Nat → FieldType) (hty : ∀ k, k < N → parseFieldDescriptor (T k).2.2.1 = some (ty0 k))
    (hcl : Cond.classLink own index C ∈ AL) (hinst : Cond.instantiable C N ∈ AL) (hini : Cond.initialized C ∈ AL) (fs : List Value) (hfs : ∀ j, j < N → defaultValue (ty0 j) = vp_V fs j) (hcells : cells + 1 ≤ R.cells) (hslots : slots + N ≤ R.slots) (hdg : decode cc pc = .ok (.new index, 3))
    (kk : ∀ (ad1 : Lb → Nat) (dm1 : Lb → Prop) (ct1 : Lb → va_E) (H1 : Heap), wd G A (ad1, dm1, ct1) H1 → NW x (.inr (ci, fs)) ad dm ct ad1 dm1 ct1 → va_S A s.heap H1 locs → W p l e R s m args below meth c H1 locs (cells + 1) (slots + N) Q (F0 m (pc + 3) ls (.ref (ad1 x) :: rest))) :
    W p l e R s m args below meth c H locs cells slots Q (F0 m pc ls rest) :=
  kn_o F hE hW hS x hx hc hin ty0 hty hcl hinst hini hfs hcells hslots hdg fun q H1 h1 h2 _ => by
    have h3 := kk _ _ _ H1 h1 NW.of h2
    simpa using h3
theorem na (t0 : Nat) (atype : ArrayType) (F : Fx p m c cc nL s args own) (hE : VE G A s) (hW : wd G A (ad, dm, ct) H) (hS : va_S A s.heap H locs) (x : Lb) (hx : ¬ dm x) (harr : Cond.arrayClass (newarray.typeOf atype) ∈ AL) {ty : FieldType} (hty : newarray.typeOf atype = ty) {cA : ClassId} (ht : (tyG G)[t0]? = some (cA, ty))
    {i : Int32} (N : Nat) (a0 : vp_A) (ha : ∀ cA : ClassId, vp_cell cA a0 = arrV cA N (fun _ => defaultValue ty)) (hi : i = nI N) (hN : N < 2 ^ 31) (hbytes : N * componentBytes ty ≤ 536870912) (hcells : cells + 1 ≤ R.cells) (hslots : slots + N ≤ R.slots) (hdg : decode cc pc = .ok (.newarray atype, 2))
    (kk : ∀ (ad1 : Lb → Nat) (dm1 : Lb → Prop) (ct1 : Lb → va_E) (H1 : Heap), wd G A (ad1, dm1, ct1) H1 → NW x (.inl (cA, a0)) ad dm ct ad1 dm1 ct1 → va_S A s.heap H1 locs → W p l e R s m args below meth c H1 locs (cells + 1) (slots + N) Q (F0 m (pc + 2) ls (.ref (ad1 x) :: rest))) :
    W p l e R s m args below meth c H locs cells slots Q (F0 m pc ls (.int i :: rest)) :=
  kn_a t0 F hE hW hS x hx harr hty ht ha hi hN hbytes hcells hslots hdg fun q H1 h1 h2 _ => by
    have h3 := kk _ _ _ H1 h1 NW.of h2
    simpa using h3
theorem nq (t0 : Nat) {C : String} (F : Fx p m c cc nL s args own) (hE : VE G A s) (hW : wd G A (ad, dm, ct) H) (hS : va_S A s.heap H locs) (x : Lb) (hx : ¬ dm x) (hcl : Cond.classLink own index C ∈ AL) (hov : Cond.arrayOver (.object C) ∈ lw_tbl) {cA : ClassId} (ht : (tyG G)[t0]? = some (cA, .object C))
    {i : Int32} (N : Nat) (hi : i = nI N) (hN : N < 2 ^ 31) (hbytes : N * 4 ≤ 536870912) (hcells : cells + 1 ≤ R.cells) (hslots : slots + N ≤ R.slots) (hdg : decode cc pc = .ok (.anewarray index, 3))
    (kk : ∀ (ad1 : Lb → Nat) (dm1 : Lb → Prop) (ct1 : Lb → va_E) (H1 : Heap), wd G A (ad1, dm1, ct1) H1 → NW x (.inl (cA, N, .inr (.inr (.inr (.inr (fun _ => none)))))) ad dm ct ad1 dm1 ct1 → va_S A s.heap H1 locs → W p l e R s m args below meth c H1 locs (cells + 1) (slots + N) Q (F0 m (pc + 3) ls (.ref (ad1 x) :: rest))) :
    W p l e R s m args below meth c H locs cells slots Q (F0 m pc ls (.int i :: rest)) :=
  kn_q t0 F hE hW hS x hx hcl hov ht hi hN hbytes hcells hslots hdg fun q H1 h1 h2 _ => by
    have h3 := kk _ _ _ H1 h1 NW.of h2
    simpa using h3
theorem kc_I (np : Nat) {a : Nat} {As av : List Value} (hM : CT l y b n none rm av G A w post px mc ms) (hav : av = .ref a :: As) (F : Fx p m c cc nL s args own) (hE : VE G A s) (hW : wd G A w H) (hS : va_S A s.heap H locs)
    (k1 : Cond.methodLink own index y ∈ AL) (k2 : Cond.instanceMethod y ∈ AL) (k4 : Cond.initialized y.cls ∈ AL) (k5 : Cond.code y b n none ∈ AL) (hin : y.name = "<init>")
    (hd2 : y.cls ≠ "java/lang/invoke/MethodHandle" ∧ y.cls ≠ "java/lang/invoke/VarHandle" ∧ (parseMethodDescriptor y.desc).map (fun d => d.parameters.length) = some np) (hnp : As.length = np)
    (hrm : rm.cells = mc ∧ rm.slots = ms) (hR : rm.frames + 1 ≤ R.frames ∧ 8 + (n + 11) + rm.locals ≤ R.locals) (hls : ls.size = nL) (hst : st = As.reverse ++ .ref a :: rest) (hcat : (rest.map fun v => v.category).sum ≤ 8) (hdg : decode cc pc = .ok (.invokespecial index, 3)) (hf : cells + mc ≤ R.cells ∧ slots + ms ≤ R.slots)
    (kx : ∀ (E : String) (q9 : Addr) (ce : Cell) (H1 : Heap) (locs1 : List Loc), px E → wd G A w H1 → va_S A s.heap H1 locs1 → H1[q9]? = some ce → ce.vm = .none → s.vm.findClass E = some ce.cls → vx_W p l e R s m args below meth c H1 locs1 (cells + mc) (slots + ms) Q (F0 m pc ls rest) q9)
    (kk : ∀ (v : Option Value) (w' : WS) (H1 : Heap) (locs1 : List Loc), post v w' → wd G A w' H1 → va_S A s.heap H1 locs1 → W p l e R s m args below meth c H1 locs1 (cells + mc) (slots + ms) Q (F0 m (pc + 3) ls (v.toList ++ rest))) :
    W p l e R s m args below meth c H locs cells slots Q (F0 m pc ls st) := by
  subst hav
  have hG : GoodIn AL (Cond.code y b n none :: AL) := by
    intro w hw
    rcases List.mem_cons.mp hw with rfl | h
    · exact gAL _ k5
    · exact gAL _ h
  exact kc_run (vx_runI (As := As) (rest := rest) F hM (cwI np F.2.2.2.2 hG rfl hrm.1 hrm.2 (F.2.2.2.2 _ k4) (F.2.2.2.2 _ k1) (F.2.2.2.2 _ k2) hin hd2 hR)
    ⟨fun a U g mk h => ⟨h.1, h.2.blind⟩, fun U hU hw => ⟨rfl, WR.at hE hS hW hU hw⟩⟩ rfl hnp hls hst (by simpa [JFrame.monitorRoom] using hcat) hdg hf) hS kx kk
end KN
/-- a page that was not there before: all other labels as they were -/
def NX (n : Nat) (ad : Lb → Nat) (dm : Lb → Prop) (ct : Lb → va_E) (ad1 : Lb → Nat) (dm1 : Lb → Prop) (ct1 : Lb → va_E) : Prop :=
  ∀ z : Lb, (z.1 = 0 ∨ 4 < z.1 ∨ z.2 ≠ n) → ad1 z = ad z ∧ ct1 z = ct z ∧ (dm1 z ↔ dm z)
theorem NX.rf {n : Nat} {ad : Lb → Nat} {dm : Lb → Prop} {ct : Lb → va_E} : NX n ad dm ct ad dm ct := fun _ _ => ⟨rfl, rfl, Iff.rfl⟩
theorem NX.tr {n : Nat} {ad ad1 ad2 : Lb → Nat} {dm dm1 dm2 : Lb → Prop} {ct ct1 ct2 : Lb → va_E} (h1 : NX n ad dm ct ad1 dm1 ct1) (h2 : NX n ad1 dm1 ct1 ad2 dm2 ct2) : NX n ad dm ct ad2 dm2 ct2 := fun z hz =>
  ⟨(h2 z hz).1.trans (h1 z hz).1, (h2 z hz).2.1.trans (h1 z hz).2.1, (h2 z hz).2.2.trans (h1 z hz).2.2⟩
theorem NX.ofN {n k : Nat} {e : va_E} {ad ad1 : Lb → Nat} {dm dm1 : Lb → Prop} {ct ct1 : Lb → va_E} (hk : 1 ≤ k) (hk4 : k ≤ 4) (h : NW (k, n) e ad dm ct ad1 dm1 ct1) : NX n ad dm ct ad1 dm1 ct1 := fun z hz => by
  have hne : z ≠ (k, n) := by rintro rfl; simp at hz; omega
  exact ⟨(h.1 z hne).1, (h.1 z hne).2, by rw [h.2.2]; simp [hne]⟩
theorem NX.ofX {n : Nat} {ad : Lb → Nat} {dm : Lb → Prop} {ct ct1 : Lb → va_E} (h : XP n ct ct1) : NX n ad dm ct ad dm ct1 := fun z hz => ⟨rfl, h z hz, Iff.rfl⟩

set_option maxRecDepth 100000 in
set_option maxHeartbeats 4000000 in
theorem c_X1_init (l : Launch) (G : GG) (A : Nat → Prop) (ad : Lb → Nat) (dm : Lb → Prop) (ct : Lb → va_E) (n le lo hi : Nat) (h1 : dm (1, n)) (hct : ct (1, n) = .inr (2, [.int 0, .int 0, .int 0, .null, .null, .null, .int 0, .int 0, .null, .int 0, .int 0])) (h2 : ¬ dm (2, n)) (h3 : ¬ dm (3, n)) (h4 : ¬ dm (4, n)) :
    CT l yX1_init cX1_init 5 none { frames := 1, cells := 3, slots := 15, locals := 12 } [.ref (ad (1, n)), .int (nI n), .int (nI le), .int (nI lo), .int (nI hi)] G A (ad, dm, ct) (fun v w' => v = none ∧ ∃ ad' dm' ct', w' = (ad', dm', ct') ∧ NX n ad dm ct ad' dm' ct' ∧ ad' (1, n) = ad (1, n) ∧ PG G ad' dm' ct' n le lo 0 hi none 0 0 (fun _ => 0) (fun _ => 0) (fun _ => none)) (fun _ => False) (3) (15) := by
  refine ct_of (by decide) (Nat.le_of_ble_eq_true rfl) ?_
  intro p e s m below meth c ls F hr hlk hnm hex hE hW hl
  have hx := F.1
  have hb := F.2.1
  have hS : va_S A s.heap s.heap [] := va_S.rf
  have hl : lv_has ls 5 [(0, .ref (ad (1, n))), (1, .int (nI n)), (2, .int (nI le)), (3, .int (nI lo)), (4, .int (nI hi))] := hl
  refine lv_aload_n hx hb dX1_init_0 rfl (lv_at hl 0 rfl) ?_
  refine W.objInit hx hb F.2.2.2.1 (F.2.2.2.2 _ kw_62) (F.2.2.2.2 _ kw_26) (F.2.2.2.2 _ kw_27) rfl (by rw [F.2.2.1]; exact hl.1) rfl dX1_init_1 (Nat.le_of_ble_eq_true rfl) (Nat.le_of_ble_eq_true rfl) ?_
  have hN0 : NX n ad dm ct ad dm ct := NX.rf
  refine lv_aload_n hx hb dX1_init_4 rfl (lv_at hl 0 rfl) ?_
  refine lv_iconst (v := nI 5) hx hb dX1_init_5 (by decide) ?_
  refine na 0 .int F hE hW hS (2, n) (h2) kw_105 rfl rfl 5 (5, .inl (fun _ => 0)) (fun _ => rfl) rfl (by decide) (by decide) (Nat.le_of_ble_eq_true rfl) (Nat.le_of_ble_eq_true rfl) dX1_init_6 (fun ad1 dm1 ct1 H hW hN1 hS => ?_)
  have ha1 : ad1 (1, n) = ad (1, n) := (hN1.1 _ (lb_ne (by decide))).1
  have hd1 : dm1 (1, n) := (hN1.2.2 _).mpr (Or.inr h1)
  have hc1 : ct1 (1, n) = _ := (hN1.1 _ (lb_ne (by decide))).2.trans hct
  refine kpF F hE hW hS hnm (1, n) hd1 ha1 hc1 rfl inA_X1 tyX1 tyX1_ok nmX1 3 (by decide) kw_70 rfl rfl rfl rfl (Nat.le_of_ble_eq_true rfl) dX1_init_8 (fun ct1p H locs hW hc hf hS => ?_)
  have hX1 : XP n ct1 ct1p := XP.of (by decide) (by decide) hf
  have hN0 := hN0.tr ((NX.ofN (by decide) (by decide) hN1).tr (NX.ofX hX1))
  have hk1 : ct1p (2, n) = _ := (hf _ (lb_ne (by decide))).trans hN1.2.1
  have h3 : ¬ dm1 (3, n) := fun q => (hN1.2.2 _).mp q |>.elim (lb_ne (by decide)) h3
  have h4 : ¬ dm1 (4, n) := fun q => (hN1.2.2 _).mp q |>.elim (lb_ne (by decide)) h4
  refine lv_aload_n hx hb dX1_init_11 rfl (lv_at hl 0 rfl) ?_
  refine lv_iconst (v := nI 5) hx hb dX1_init_12 (by decide) ?_
  refine na 0 .int F hE hW hS (3, n) (h3) kw_105 rfl rfl 5 (5, .inl (fun _ => 0)) (fun _ => rfl) rfl (by decide) (by decide) (Nat.le_of_ble_eq_true rfl) (Nat.le_of_ble_eq_true rfl) dX1_init_13 (fun ad2 dm2 ct2 H hW hN2 hS => ?_)
  have ha2 : ad2 (1, n) = ad (1, n) := (hN2.1 _ (lb_ne (by decide))).1.trans ha1
  have hd2 : dm2 (1, n) := (hN2.2.2 _).mpr (Or.inr hd1)
  have hc2 : ct2 (1, n) = _ := (hN2.1 _ (lb_ne (by decide))).2.trans hc
  refine kpF F hE hW hS hnm (1, n) hd2 ha2 hc2 rfl inA_X1 tyX1 tyX1_ok nmX1 4 (by decide) kw_71 rfl rfl rfl rfl (Nat.le_of_ble_eq_true rfl) dX1_init_15 (fun ct2p H locs hW hc hf hS => ?_)
  have hX2 : XP n ct2 ct2p := XP.of (by decide) (by decide) hf
  have hN0 := hN0.tr ((NX.ofN (by decide) (by decide) hN2).tr (NX.ofX hX2))
  have hk1 : ct2p (2, n) = _ := (hf _ (lb_ne (by decide))).trans ((hN2.1 _ (lb_ne (by decide))).2.trans hk1)
  have hr1 : ad2 (2, n) = ad1 (2, n) := (hN2.1 _ (lb_ne (by decide))).1
  have hk2 : ct2p (3, n) = _ := (hf _ (lb_ne (by decide))).trans hN2.2.1
  have h4 : ¬ dm2 (4, n) := fun q => (hN2.2.2 _).mp q |>.elim (lb_ne (by decide)) h4
  refine lv_aload_n hx hb dX1_init_18 rfl (lv_at hl 0 rfl) ?_
  refine lv_iconst (v := nI 5) hx hb dX1_init_19 (by decide) ?_
  refine nq 2 F hE hW hS (4, n) (h4) kw_63 kn_29 rfl 5 rfl (by decide) (by decide) (Nat.le_of_ble_eq_true rfl) (Nat.le_of_ble_eq_true rfl) dX1_init_20 (fun ad3 dm3 ct3 H hW hN3 hS => ?_)
  have ha3 : ad3 (1, n) = ad (1, n) := (hN3.1 _ (lb_ne (by decide))).1.trans ha2
  have hd3 : dm3 (1, n) := (hN3.2.2 _).mpr (Or.inr hd2)
  have hc3 : ct3 (1, n) = _ := (hN3.1 _ (lb_ne (by decide))).2.trans hc
  refine kpF F hE hW hS hnm (1, n) hd3 ha3 hc3 rfl inA_X1 tyX1 tyX1_ok nmX1 5 (by decide) kw_72 rfl rfl rfl rfl (Nat.le_of_ble_eq_true rfl) dX1_init_23 (fun ct3p H locs hW hc hf hS => ?_)
  have hX3 : XP n ct3 ct3p := XP.of (by decide) (by decide) hf
  have hN0 := hN0.tr ((NX.ofN (by decide) (by decide) hN3).tr (NX.ofX hX3))
  have hk1 : ct3p (2, n) = _ := (hf _ (lb_ne (by decide))).trans ((hN3.1 _ (lb_ne (by decide))).2.trans hk1)
  have hr1 : ad3 (2, n) = ad1 (2, n) := (hN3.1 _ (lb_ne (by decide))).1.trans hr1
  have hk2 : ct3p (3, n) = _ := (hf _ (lb_ne (by decide))).trans ((hN3.1 _ (lb_ne (by decide))).2.trans hk2)
  have hr2 : ad3 (3, n) = ad2 (3, n) := (hN3.1 _ (lb_ne (by decide))).1
  have hk3 : ct3p (4, n) = _ := (hf _ (lb_ne (by decide))).trans hN3.2.1
  refine lv_aload_n hx hb dX1_init_26 rfl (lv_at hl 0 rfl) ?_
  refine lv_iload_n hx hb dX1_init_27 rfl (lv_at hl 1 rfl) ?_
  refine kpF F hE hW hS hnm (1, n) hd3 ha3 hc rfl inA_X1 tyX1 tyX1_ok nmX1 0 (by decide) kw_64 rfl rfl rfl rfl (Nat.le_of_ble_eq_true rfl) dX1_init_28 (fun ct1q H locs hW hc hf hS => ?_)
  have hX : XP n ct3p ct1q := XP.of (by decide) (by decide) hf
  have hN0 := hN0.tr (NX.ofX hX)
  have hk1 : ct1q (2, n) = _ := (hf _ (lb_ne (by decide))).trans hk1
  have hk2 : ct1q (3, n) = _ := (hf _ (lb_ne (by decide))).trans hk2
  have hk3 : ct1q (4, n) = _ := (hf _ (lb_ne (by decide))).trans hk3
  refine lv_aload_n hx hb dX1_init_31 rfl (lv_at hl 0 rfl) ?_
  refine lv_iload_n hx hb dX1_init_32 rfl (lv_at hl 2 rfl) ?_
  refine kpF F hE hW hS hnm (1, n) hd3 ha3 hc rfl inA_X1 tyX1 tyX1_ok nmX1 1 (by decide) kw_66 rfl rfl rfl rfl (Nat.le_of_ble_eq_true rfl) dX1_init_33 (fun ct2q H locs hW hc hf hS => ?_)
  have hX : XP n ct1q ct2q := XP.of (by decide) (by decide) hf
  have hN0 := hN0.tr (NX.ofX hX)
  have hk1 : ct2q (2, n) = _ := (hf _ (lb_ne (by decide))).trans hk1
  have hk2 : ct2q (3, n) = _ := (hf _ (lb_ne (by decide))).trans hk2
  have hk3 : ct2q (4, n) = _ := (hf _ (lb_ne (by decide))).trans hk3
  refine lv_aload_n hx hb dX1_init_36 rfl (lv_at hl 0 rfl) ?_
  refine lv_iload_n hx hb dX1_init_37 rfl (lv_at hl 3 rfl) ?_
  refine kpF F hE hW hS hnm (1, n) hd3 ha3 hc rfl inA_X1 tyX1 tyX1_ok nmX1 2 (by decide) kw_68 rfl rfl rfl rfl (Nat.le_of_ble_eq_true rfl) dX1_init_38 (fun ct3q H locs hW hc hf hS => ?_)
  have hX : XP n ct2q ct3q := XP.of (by decide) (by decide) hf
  have hN0 := hN0.tr (NX.ofX hX)
  have hk1 : ct3q (2, n) = _ := (hf _ (lb_ne (by decide))).trans hk1
  have hk2 : ct3q (3, n) = _ := (hf _ (lb_ne (by decide))).trans hk2
  have hk3 : ct3q (4, n) = _ := (hf _ (lb_ne (by decide))).trans hk3
  refine lv_aload_n hx hb dX1_init_41 rfl (lv_at hl 0 rfl) ?_
  refine lv_iload hx hb dX1_init_42 (lv_at hl 4 rfl) ?_
  refine kp F hE hW hS (1, n) hd3 ha3 hc rfl inA_X1 tyX1 tyX1_ok nmX1 7 (by decide) kw_75 rfl rfl rfl (Nat.le_of_ble_eq_true rfl) dX1_init_44 (fun ct4q H locs hW hc hf hS => ?_)
  have hX : XP n ct3q ct4q := XP.of (by decide) (by decide) hf
  have hN0 := hN0.tr (NX.ofX hX)
  have hk1 : ct4q (2, n) = _ := (hf _ (lb_ne (by decide))).trans hk1
  have hk2 : ct4q (3, n) = _ := (hf _ (lb_ne (by decide))).trans hk2
  have hk3 : ct4q (4, n) = _ := (hf _ (lb_ne (by decide))).trans hk3
  have hd2 : dm3 (2, n) := (hN3.2.2 _).mpr (Or.inr ((hN2.2.2 _).mpr (Or.inr ((hN1.2.2 _).mpr (Or.inl rfl)))))
  have hd4 : dm3 (3, n) := (hN3.2.2 _).mpr (Or.inr ((hN2.2.2 _).mpr (Or.inl rfl)))
  have hd5 : dm3 (4, n) := (hN3.2.2 _).mpr (Or.inl rfl)
  refine kr_v F hr hlk hE hW hS (Nat.le_of_ble_eq_true rfl) (Nat.le_of_ble_eq_true rfl) dX1_init_47 ⟨rfl, ad3, dm3, ct4q, rfl, hN0, ha3, ⟨hd3, hd2, hd4, hd5⟩, ?_, hk1, hk2, hk3⟩
  rw [hc]
  simp only [List.set, pgF, hr1, hr2]
  rfl
end
section
/-! A page splits. -/
section KV
variable {p : Program} {l : Launch} {e : Env} {R : Room} {s : State} {m : MethodId} {args : Array Value} {below : List Frame} {meth : Method} {c : Code} {H : Heap} {locs : List Loc} {cells slots : Nat} {Q : State → Prop}
variable {cc b : ByteArray} {pc nL n mc ms index : Nat} {ls : Array Slot} {rest st av : List Value} {own C : String} {y : MethodName} {ret : Option FieldType} {rm : Room} {G : GG} {A : Nat → Prop} {w w' : WS} {post : Option Value → WS → Prop} {px : String → Prop}
theorem kc_Va (np : Nat) (hM : CT l y b n ret rm av G A w post px mc ms) (F : Fx p m c cc nL s args own) (hE : VE G A s) (hW : wd G A w H) (hS : va_S A s.heap H locs)
    (x : Lb) (hd : w.2.1 x) {ci : Nat} {fs : List Value} (he : w.2.2 x = .inr (ci, fs)) {a : Nat} (ha : w.1 x = a) {T : u_T} {N : Nat} (hc : vwCl[ci]? = some (C, T, N)) (As : List Value) (hav : av = .ref (w.1 x) :: As)
    (k1 : Cond.methodLink own index y ∈ AL) (k2 : Cond.instanceMethod y ∈ AL) (k3 : Cond.selects C y y ∈ AL) (k4 : Cond.initialized C ∈ AL) (k5 : Cond.code y b n ret ∈ AL)
    (hd2 : y.cls = C ∧ y.cls ≠ "java/lang/invoke/MethodHandle" ∧ y.cls ≠ "java/lang/invoke/VarHandle" ∧ (parseMethodDescriptor y.desc).map (fun d => d.parameters.length) = some np) (hnp : As.length = np)
    (hrm : rm.cells = mc ∧ rm.slots = ms) (hR : rm.frames + 1 ≤ R.frames ∧ 8 + (n + 11) + rm.locals ≤ R.locals) (hls : ls.size = nL) (hst : st = As.reverse ++ .ref a :: rest) (hcat : (rest.map fun v => v.category).sum ≤ 8) (hdg : decode cc pc = .ok (.invokevirtual index, 3)) (hf : cells + mc ≤ R.cells ∧ slots + ms ≤ R.slots)
    (kx : ∀ (E : String) (q9 : Addr) (ce : Cell) (H1 : Heap) (locs1 : List Loc), px E → wd G A w H1 → va_S A s.heap H1 locs1 → H1[q9]? = some ce → ce.vm = .none → s.vm.findClass E = some ce.cls → vx_W p l e R s m args below meth c H1 locs1 (cells + mc) (slots + ms) Q (F0 m pc ls rest) q9)
    (kk : ∀ (v : Option Value) (w' : WS) (H1 : Heap) (locs1 : List Loc), post v w' → wd G A w' H1 → va_S A s.heap H1 locs1 → W p l e R s m args below meth c H1 locs1 (cells + mc) (slots + ms) Q (F0 m (pc + 3) ls (v.toList ++ rest))) :
    W p l e R s m args below meth c H locs cells slots Q (F0 m pc ls st) := by
  subst ha
  exact kc_V np hM F hE hW hS x hd he hc As hav k1 k2 k3 k4 k5 hd2 hnp hrm hR hls hst hcat hdg hf kx kk
end KV
section PN
variable {G : GG} {ad ad1 : Lb → Nat} {dm dm1 : Lb → Prop} {ct ct1 : Lb → va_E} {n m le lo sz hi : Nat} {ri : Option Nat} {de ta : Nat} {kf vf : Nat → Int32} {cf : Nat → Option Nat}
theorem PG.nx (hP : PG G ad dm ct n le lo sz hi ri de ta kf vf cf) (hN : NX m ad dm ct ad1 dm1 ct1) (h : n ≠ m) : PG G ad1 dm1 ct1 n le lo sz hi ri de ta kf vf cf := by
  have k : ∀ j, ad1 (j, n) = ad (j, n) ∧ ct1 (j, n) = ct (j, n) ∧ (dm1 (j, n) ↔ dm (j, n)) := fun j => hN (j, n) (Or.inr (Or.inr h))
  obtain ⟨⟨a1, a2, a3, a4⟩, b1, b2, b3, b4⟩ := hP
  refine ⟨⟨(k 1).2.2.mpr a1, (k 2).2.2.mpr a2, (k 3).2.2.mpr a3, (k 4).2.2.mpr a4⟩, (k 1).2.1.trans (b1.trans ?_), (k 2).2.1.trans b2, (k 3).2.1.trans b3, (k 4).2.1.trans b4⟩
  simp only [pgF, (k 2).1, (k 3).1, (k 4).1]
theorem isPg.nx {r : Option Nat} (hr : isPg ad dm ct r) (hm : ¬ dm (1, m)) (hN : NX m ad dm ct ad1 dm1 ct1) : isPg ad1 dm1 ct1 r := by
  intro v hv
  obtain ⟨k, vs, h1, h2, h3⟩ := hr v hv
  have hk : k ≠ m := by rintro rfl; exact hm h1
  obtain ⟨e1, e2, e3⟩ := hN (1, k) (Or.inr (Or.inr hk))
  exact ⟨k, vs, e3.mpr h1, e1.trans h2, e2.trans h3⟩
end PN
/-- two pages of the world: all else as it was -/
def NX2 (n m : Nat) (ad : Lb → Nat) (dm : Lb → Prop) (ct : Lb → va_E) (ad1 : Lb → Nat) (dm1 : Lb → Prop) (ct1 : Lb → va_E) : Prop :=
  (∀ z : Lb, (z.1 = 0 ∨ 4 < z.1 ∨ (z.2 ≠ n ∧ z.2 ≠ m)) → ad1 z = ad z ∧ ct1 z = ct z ∧ (dm1 z ↔ dm z)) ∧ ∀ k, ad1 (k, n) = ad (k, n) ∧ (dm1 (k, n) ↔ dm (k, n))
theorem NX2.of {n m : Nat} (hne : n ≠ m) {ad ad1 : Lb → Nat} {dm dm1 : Lb → Prop} {ct ct1 ct2 : Lb → va_E} (h1 : NX m ad dm ct ad1 dm1 ct1) (h2 : XP n ct1 ct2) : NX2 n m ad dm ct ad1 dm1 ct2 :=
  ⟨fun z hz => by
    have k1 := h1 z (by rcases hz with h | h | h <;> simp [h])
    exact ⟨k1.1, (h2 z (by rcases hz with h | h | h <;> simp [h])).trans k1.2.1, k1.2.2⟩, fun k => by
    have k1 := h1 (k, n) (Or.inr (Or.inr hne))
    exact ⟨k1.1, k1.2.2⟩⟩
section PRA
variable {p : Program} {l : Launch} {e : Env} {R : Room} {s : State} {m : MethodId} {args : Array Value} {below : List Frame} {meth : Method} {c : Code} {H : Heap} {locs : List Loc} {cells slots : Nat} {Q : State → Prop}
variable {cc : ByteArray} {pc nL index : Nat} {ls : Array Slot} {rest : List Value} {own : String} {G : GG} {A : Nat → Prop} {ad : Lb → Nat} {dm : Lb → Prop} {ct : Lb → va_E}
variable {n le lo sz hi : Nat} {ri : Option Nat} {de ta : Nat} {kf vf : Nat → Int32} {cf : Nat → Option Nat}
theorem pg_sizeA {v : Nat} {a : Nat} (ha : ad (1, n) = a) (F : Fx p m c cc nL s args own) (hE : VE G A s) (hW : wd G A (ad, dm, ct) H) (hS : va_S A s.heap H locs) (hP : PG G ad dm ct n le lo sz hi ri de ta kf vf cf) (hlink : Cond.fieldLink own index "Highkey$Page" "size" "I" ∈ AL) (hdg : decode cc pc = .ok (.putfield index, 3))
    (kk : ∀ (ct1 : Lb → va_E) (H1 : Heap) (locs1 : List Loc), wd G A (ad, dm, ct1) H1 → PG G ad dm ct1 n le lo v hi ri de ta kf vf cf → XP n ct ct1 → va_S A s.heap H1 locs1 → W p l e R s m args below meth c H1 locs1 cells slots Q (F0 m (pc + 3) ls rest)) :
    W p l e R s m args below meth c H locs cells slots Q (F0 m pc ls (.int (nI v) :: .ref a :: rest)) := by
  subst ha
  exact pg_size F hE hW hS hP hlink hdg kk
theorem pg_highA {v : Nat} {a : Nat} (ha : ad (1, n) = a) (F : Fx p m c cc nL s args own) (hE : VE G A s) (hW : wd G A (ad, dm, ct) H) (hS : va_S A s.heap H locs) (hP : PG G ad dm ct n le lo sz hi ri de ta kf vf cf) (hlink : Cond.fieldLink own index "Highkey$Page" "high" "I" ∈ AL) (hdg : decode cc pc = .ok (.putfield index, 3))
    (kk : ∀ (ct1 : Lb → va_E) (H1 : Heap) (locs1 : List Loc), wd G A (ad, dm, ct1) H1 → PG G ad dm ct1 n le lo sz v ri de ta kf vf cf → XP n ct ct1 → va_S A s.heap H1 locs1 → W p l e R s m args below meth c H1 locs1 cells slots Q (F0 m (pc + 3) ls rest)) :
    W p l e R s m args below meth c H locs cells slots Q (F0 m pc ls (.int (nI v) :: .ref a :: rest)) := by
  subst ha
  exact pg_high F hE hW hS hP hlink hdg kk
theorem pg_rightA {v : Option Nat} {vv : Value} (hv : va_rf v = vv) {a : Nat} (ha : ad (1, n) = a) (F : Fx p m c cc nL s args own) (hE : VE G A s) (hW : wd G A (ad, dm, ct) H) (hS : va_S A s.heap H locs) (hP : PG G ad dm ct n le lo sz hi ri de ta kf vf cf) (hlink : Cond.fieldLink own index "Highkey$Page" "right" "LHighkey$Page;" ∈ AL) (hdg : decode cc pc = .ok (.putfield index, 3))
    (kk : ∀ (ct1 : Lb → va_E) (H1 : Heap) (locs1 : List Loc), wd G A (ad, dm, ct1) H1 → PG G ad dm ct1 n le lo sz hi v de ta kf vf cf → XP n ct ct1 → va_S A s.heap H1 locs1 → W p l e R s m args below meth c H1 locs1 cells slots Q (F0 m (pc + 3) ls rest)) :
    W p l e R s m args below meth c H locs cells slots Q (F0 m pc ls (vv :: .ref a :: rest)) := by
  subst ha
  exact pg_right hv F hE hW hS hP hlink hdg kk
theorem pg_deadA  {a : Nat} (ha : ad (1, n) = a) (F : Fx p m c cc nL s args own) (hE : VE G A s) (hW : wd G A (ad, dm, ct) H) (hS : va_S A s.heap H locs) (hP : PG G ad dm ct n le lo sz hi ri de ta kf vf cf) (hlink : Cond.fieldLink own index "Highkey$Page" "dead" "Z" ∈ AL) (hdg : decode cc pc = .ok (.putfield index, 3))
    (kk : ∀ (ct1 : Lb → va_E) (H1 : Heap) (locs1 : List Loc), wd G A (ad, dm, ct1) H1 → PG G ad dm ct1 n le lo sz hi ri 1 ta kf vf cf → XP n ct ct1 → va_S A s.heap H1 locs1 → W p l e R s m args below meth c H1 locs1 cells slots Q (F0 m (pc + 3) ls rest)) :
    W p l e R s m args below meth c H locs cells slots Q (F0 m pc ls (.int (nI 1) :: .ref a :: rest)) := by
  subst ha
  exact pg_dead F hE hW hS hP hlink hdg kk
theorem pg_takA {v : Nat} {a : Nat} (ha : ad (1, n) = a) (F : Fx p m c cc nL s args own) (hE : VE G A s) (hW : wd G A (ad, dm, ct) H) (hS : va_S A s.heap H locs) (hP : PG G ad dm ct n le lo sz hi ri de ta kf vf cf) (hlink : Cond.fieldLink own index "Highkey$Page" "takenOutIn" "I" ∈ AL) (hdg : decode cc pc = .ok (.putfield index, 3))
    (kk : ∀ (ct1 : Lb → va_E) (H1 : Heap) (locs1 : List Loc), wd G A (ad, dm, ct1) H1 → PG G ad dm ct1 n le lo sz hi ri de v kf vf cf → XP n ct ct1 → va_S A s.heap H1 locs1 → W p l e R s m args below meth c H1 locs1 cells slots Q (F0 m (pc + 3) ls rest)) :
    W p l e R s m args below meth c H locs cells slots Q (F0 m pc ls (.int (nI v) :: .ref a :: rest)) := by
  subst ha
  exact pg_tak F hE hW hS hP hlink hdg kk
end PRA
set_option maxRecDepth 100000 in
set_option maxHeartbeats 4000000 in
theorem c_X1_split (l : Launch) (G : GG) (A : Nat → Prop) (ad : Lb → Nat) (dm : Lb → Prop) (ct : Lb → va_E) (n le lo hi : Nat) (ri : Option Nat) (de ta : Nat) (kf vf : Nat → Int32) (cf : Nat → Option Nat) (hP : PG G ad dm ct n le lo 5 hi ri de ta kf vf cf) (m0 lo2 : Nat) (hne : n ≠ m0) (h1 : ¬ dm (1, m0)) (h2 : ¬ dm (2, m0)) (h3 : ¬ dm (3, m0)) (h4 : ¬ dm (4, m0)) (hlo2 : kf 3 = nI lo2) (hk34 : kf 3 < kf 4) (hc3 : isPg ad dm ct (cf 3)) (hc4 : isPg ad dm ct (cf 4)) :
    CT l yX1_split cX1_split 4 (some (FieldType.object "Highkey$Page")) { frames := 2, cells := 4, slots := 26, locals := 47 } [.ref (ad (1, n)), .int (nI m0)] G A (ad, dm, ct) (fun v w' => ∃ ad' dm' ct' kf' vf' cf', w' = (ad', dm', ct') ∧ v = some (.ref (ad' (1, m0))) ∧ NX2 n m0 ad dm ct ad' dm' ct' ∧ PG G ad' dm' ct' n le lo 3 lo2 (some (ad' (1, m0))) de ta kf vf cf ∧ PG G ad' dm' ct' m0 le lo2 2 hi ri 0 0 kf' vf' cf' ∧ (kf' 0 = kf 3 ∧ kf' 1 = kf 4) ∧ (vf' 0 = vf 3 ∧ vf' 1 = vf 4) ∧ (cf' 0 = cf 3 ∧ cf' 1 = cf 4)) (fun _ => False) (4) (26) := by
  refine ct_of (by decide) (Nat.le_of_ble_eq_true rfl) ?_
  intro p e s m below meth c ls F hr hlk hnm hex hE hW hl
  have hx := F.1
  have hb := F.2.1
  have hS : va_S A s.heap s.heap [] := va_S.rf
  have hl : lv_has ls 4 [(0, .ref (ad (1, n))), (1, .int (nI m0))] := hl
  have hc40 := hc4
  have hc30 := hc3
  obtain ⟨a0, ha0⟩ : ∃ a, ad (1, n) = a := ⟨_, rfl⟩
  have hl : lv_has ls 4 [(0, .ref a0), (1, .int (nI m0))] := by rw [← ha0]; exact hl
  refine no (ci := 2) F hE hW hS (1, m0) h1 rfl inA_X1 tyX1 tyX1_ok kw_63 kw_58 kw_5 [.int 0, .int 0, .int 0, .null, .null, .null, .int 0, .int 0, .null, .int 0, .int 0] (fun j hj => by rcases (show j = 0 ∨ j = 1 ∨ j = 2 ∨ j = 3 ∨ j = 4 ∨ j = 5 ∨ j = 6 ∨ j = 7 ∨ j = 8 ∨ j = 9 ∨ j = 10 by omega) with rfl | rfl | rfl | rfl | rfl | rfl | rfl | rfl | rfl | rfl | rfl <;> rfl) (Nat.le_of_ble_eq_true rfl) (Nat.le_of_ble_eq_true rfl) dX1_split_0 (fun ad1 dm1 ct1 H hW hN1 hS => ?_)
  have hx1 := NX.ofN (by decide) (by decide) hN1
  have hP1 := hP.nx hx1 hne
  have hc3 := hc3.nx h1 hx1
  have hc4 := hc4.nx h1 hx1
  have ha1 : ad1 (1, n) = a0 := (hx1 (1, n) (Or.inr (Or.inr hne))).1.trans ha0
  obtain ⟨am, ham⟩ : ∃ a, ad1 (1, m0) = a := ⟨_, rfl⟩
  rw [ham]
  refine lv_dup hx hb dX1_split_3 rfl ?_
  refine lv_iload_n hx hb dX1_split_4 rfl (lv_at hl 1 rfl) ?_
  refine lv_aload_n hx hb dX1_split_5 rfl (lv_at hl 0 rfl) ?_
  refine kg F hE hW (1, n) hP1.1.1 ha1 hP1.2.1 rfl inA_X1 1 (by decide) kw_66 (v := .int (nI le)) rfl dX1_split_6 ?_
  refine lv_aload_n hx hb dX1_split_9 rfl (lv_at hl 0 rfl) ?_
  refine lv_iconst (v := nI 3) hx hb dX1_split_10 (by decide) ?_
  refine kc_Va 1 (c_X1_keyIn l G A ad1 dm1 ct1 n le lo 5 hi ri de ta kf vf cf hP1 (by omega) (nI 3)) F hE hW hS (1, n) hP1.1.1 hP1.2.1 ha1 rfl [.int (nI 3)] rfl kw_216 kw_217 kw_218 kw_5 kw_219 (by decide +kernel) rfl ⟨rfl, rfl⟩ ⟨Nat.le_of_ble_eq_true rfl, Nat.le_of_ble_eq_true rfl⟩ hl.1 rfl (Nat.le_of_ble_eq_true rfl) dX1_split_11 ⟨Nat.le_of_ble_eq_true rfl, Nat.le_of_ble_eq_true rfl⟩ (fun _ _ _ _ _ h => h.elim) (fun v w' H locs hp hW hS => ?_)
  obtain ⟨rfl, ⟨j, hj, hj3, rfl⟩ | ⟨rfl, hno⟩⟩ := hp
  · have hj3 := nI_inj (by omega) (by omega) hj3
    subst hj3
    refine ktop hlo2 ?_
    refine lv_aload_n hx hb dX1_split_14 rfl (lv_at hl 0 rfl) ?_
    refine kg F hE hW (1, n) hP1.1.1 ha1 hP1.2.1 rfl inA_X1 7 (by decide) kw_75 (v := .int (nI hi)) rfl dX1_split_15 ?_
    refine kc_I 4 (c_X1_init l G A ad1 dm1 ct1 m0 le lo2 hi ((hN1.2.2 _).mpr (Or.inl rfl)) hN1.2.1 (fun q => ((hN1.2.2 _).mp q).elim (lb_ne (by decide)) h2) (fun q => ((hN1.2.2 _).mp q).elim (lb_ne (by decide)) h3) (fun q => ((hN1.2.2 _).mp q).elim (lb_ne (by decide)) h4)) (As := [.int (nI m0), .int (nI le), .int (nI lo2), .int (nI hi)]) (by rw [ham]) F hE hW hS kw_220 kw_60 kw_5 kw_61 rfl (by decide +kernel) rfl ⟨rfl, rfl⟩ ⟨(Nat.le_of_ble_eq_true rfl), (Nat.le_of_ble_eq_true rfl)⟩ hl.1 rfl (Nat.le_of_ble_eq_true rfl) dX1_split_18 ⟨(Nat.le_of_ble_eq_true rfl), (Nat.le_of_ble_eq_true rfl)⟩ (fun _ _ _ _ _ h => h.elim) (fun v w' H locs hp hW hS => ?_)
    obtain ⟨rfl, ad2, dm2, ct2, rfl, hN2, ham2, hPm⟩ := hp
    have hx2 := hx1.tr hN2
    have hP2 := hP.nx hx2 hne
    have ha2 : ad2 (1, n) = a0 := (hx2 (1, n) (Or.inr (Or.inr hne))).1.trans ha0
    have ham2 := ham2.trans ham
    have hc3 : isPg ad2 dm2 ct2 (cf 3) := hc30.nx h1 hx2
    have hc4 : isPg ad2 dm2 ct2 (cf 4) := hc40.nx h1 hx2
    have hi1 : lv_has ls 4 [(0, .ref a0), (1, .int (nI m0))] := hl
    refine lv_astore_n (lv' := [(2, .ref am), (0, .ref a0), (1, .int (nI m0))]) hx hb dX1_split_21 rfl hl (by decide) rfl (fun ls hl => ?_)
    refine lv_iconst (v := nI 3) hx hb dX1_split_22 (by decide) ?_
    refine lv_istore_n (lv' := [(3, .int (nI 3)), (2, .ref am), (0, .ref a0), (1, .int (nI m0))]) hx hb dX1_split_23 rfl hl (by decide) rfl (fun ls hl => ?_)
    refine lv_iload_n hx hb dX1_split_24 rfl (lv_at hl 0 rfl) ?_
    refine lv_aload_n hx hb dX1_split_25 rfl (lv_at hl 2 rfl) ?_
    refine kg F hE hW (1, n) hP2.1.1 ha2 hP2.2.1 rfl inA_X1 6 (by decide) kw_73 (v := .int (nI 5)) rfl dX1_split_26 ?_
    refine nc_ge (tgt := 65) hx hb dX1_split_29 (by decide) (by omega) (by omega) (fun c3 => ?_) (fun c3 => ?_)
    · exact absurd c3 (by omega)
    · refine lv_iload_n hx hb dX1_split_32 rfl (lv_at hl 0 rfl) ?_
      refine lv_iconst (v := nI 5) hx hb dX1_split_33 (by decide) ?_
      refine nc_ge (tgt := 65) hx hb dX1_split_34 (by decide) (by omega) (by omega) (fun d3 => ?_) (fun d3 => ?_)
      · exact absurd d3 (by omega)
      · refine lv_aload_n hx hb dX1_split_37 rfl (lv_at hl 1 rfl) ?_
        refine lv_aload_n hx hb dX1_split_38 rfl (lv_at hl 2 rfl) ?_
        refine kg F hE hW (1, n) hP2.1.1 ha2 hP2.2.1 rfl inA_X1 3 (by decide) kw_70 (v := .ref (ad2 (2, n))) rfl dX1_split_39 ?_
        refine lv_iload_n hx hb dX1_split_42 rfl (lv_at hl 0 rfl) ?_
        refine kl_i F hE hW (2, n) hP2.1.2.1 rfl hP2.2.2.1 3 rfl (by omega) (by decide) dX1_split_43 ?_
        refine lv_aload_n hx hb dX1_split_44 rfl (lv_at hl 2 rfl) ?_
        refine kg F hE hW (1, n) hP2.1.1 ha2 hP2.2.1 rfl inA_X1 4 (by decide) kw_71 (v := .ref (ad2 (3, n))) rfl dX1_split_45 ?_
        refine lv_iload_n hx hb dX1_split_48 rfl (lv_at hl 0 rfl) ?_
        refine kl_i F hE hW (3, n) hP2.1.2.2.1 rfl hP2.2.2.2.1 3 rfl (by omega) (by decide) dX1_split_49 ?_
        refine lv_aload_n hx hb dX1_split_50 rfl (lv_at hl 2 rfl) ?_
        refine kg F hE hW (1, n) hP2.1.1 ha2 hP2.2.1 rfl inA_X1 5 (by decide) kw_72 (v := .ref (ad2 (4, n))) rfl dX1_split_51 ?_
        refine lv_iload_n hx hb dX1_split_54 rfl (lv_at hl 0 rfl) ?_
        refine kl_a 2 F hE hW (4, n) hP2.1.2.2.2 rfl rfl hP2.2.2.2.2 3 rfl (by omega) (by decide) (v := va_rf (cf 3)) rfl dX1_split_55 ?_
        refine kc_Va 3 (c_X1_insert l G A ad2 dm2 ct2 m0 le lo2 0 hi none 0 0 (fun _ => 0) (fun _ => 0) (fun _ => none) hPm (by omega) (kf 3) (vf 3) (cf 3) _ rfl hc3 (fun k hk => absurd hk (Nat.not_lt_zero _))) F hE hW hS (1, m0) hPm.1.1 hPm.2.1 ham2 rfl [.int (kf 3), .int (vf 3), va_rf (cf 3)] rfl kw_221 kw_181 kw_182 kw_5 kw_183 (by decide +kernel) rfl ⟨rfl, rfl⟩ ⟨Nat.le_of_ble_eq_true rfl, Nat.le_of_ble_eq_true rfl⟩ hl.1 rfl (Nat.le_of_ble_eq_true rfl) dX1_split_56 ⟨Nat.le_of_ble_eq_true rfl, Nat.le_of_ble_eq_true rfl⟩ (fun _ _ _ _ _ h => h.elim) (fun v w' H locs hp hW hS => ?_)
        obtain ⟨ct3, rfl, rfl, qz, hqz, hq1, hq2, kf1, vf1, cf1, hPm, hXm, hi1, hi2, hi3⟩ := hp
        obtain rfl : qz = 0 := by omega
        have k0 := hi1.2.1
        have v0 := hi2.2.1
        have c0 := hi3.2.1
        have hP2 := hP2.other hXm hne
        have hc3 := hc3.keep hPm hXm
        have hc4 := hc4.keep hPm hXm
        refine lv_iinc (v := nI (3 + 1)) (lv' := [(3, .int (nI (3 + 1))), (2, .ref am), (0, .ref a0), (1, .int (nI m0))]) hx hb dX1_split_59 hl (k := 0) rfl (ki1 _) (by decide) rfl (fun ls hl => ?_)
        refine lv_goto (tgt := 24) hx hb dX1_split_62 (by decide) ?_
        refine lv_iload_n hx hb dX1_split_24 rfl (lv_at hl 0 rfl) ?_
        refine lv_aload_n hx hb dX1_split_25 rfl (lv_at hl 2 rfl) ?_
        refine kg F hE hW (1, n) hP2.1.1 ha2 hP2.2.1 rfl inA_X1 6 (by decide) kw_73 (v := .int (nI 5)) rfl dX1_split_26 ?_
        refine nc_ge (tgt := 65) hx hb dX1_split_29 (by decide) (by omega) (by omega) (fun c4 => ?_) (fun c4 => ?_)
        · exact absurd c4 (by omega)
        · refine lv_iload_n hx hb dX1_split_32 rfl (lv_at hl 0 rfl) ?_
          refine lv_iconst (v := nI 5) hx hb dX1_split_33 (by decide) ?_
          refine nc_ge (tgt := 65) hx hb dX1_split_34 (by decide) (by omega) (by omega) (fun d4 => ?_) (fun d4 => ?_)
          · exact absurd d4 (by omega)
          · refine lv_aload_n hx hb dX1_split_37 rfl (lv_at hl 1 rfl) ?_
            refine lv_aload_n hx hb dX1_split_38 rfl (lv_at hl 2 rfl) ?_
            refine kg F hE hW (1, n) hP2.1.1 ha2 hP2.2.1 rfl inA_X1 3 (by decide) kw_70 (v := .ref (ad2 (2, n))) rfl dX1_split_39 ?_
            refine lv_iload_n hx hb dX1_split_42 rfl (lv_at hl 0 rfl) ?_
            refine kl_i F hE hW (2, n) hP2.1.2.1 rfl hP2.2.2.1 (3 + 1) rfl (by omega) (by decide) dX1_split_43 ?_
            refine lv_aload_n hx hb dX1_split_44 rfl (lv_at hl 2 rfl) ?_
            refine kg F hE hW (1, n) hP2.1.1 ha2 hP2.2.1 rfl inA_X1 4 (by decide) kw_71 (v := .ref (ad2 (3, n))) rfl dX1_split_45 ?_
            refine lv_iload_n hx hb dX1_split_48 rfl (lv_at hl 0 rfl) ?_
            refine kl_i F hE hW (3, n) hP2.1.2.2.1 rfl hP2.2.2.2.1 (3 + 1) rfl (by omega) (by decide) dX1_split_49 ?_
            refine lv_aload_n hx hb dX1_split_50 rfl (lv_at hl 2 rfl) ?_
            refine kg F hE hW (1, n) hP2.1.1 ha2 hP2.2.1 rfl inA_X1 5 (by decide) kw_72 (v := .ref (ad2 (4, n))) rfl dX1_split_51 ?_
            refine lv_iload_n hx hb dX1_split_54 rfl (lv_at hl 0 rfl) ?_
            refine kl_a 2 F hE hW (4, n) hP2.1.2.2.2 rfl rfl hP2.2.2.2.2 (3 + 1) rfl (by omega) (by decide) (v := va_rf (cf (3 + 1))) rfl dX1_split_55 ?_
            refine kc_Va 3 (c_X1_insert l G A ad2 dm2 ct3 m0 le lo2 (0 + 1) hi none 0 0 kf1 vf1 cf1 hPm (by omega) (kf 4) (vf 4) (cf 4) _ rfl hc4 (fun k hk => by obtain rfl : k = 0 := (by omega); rw [c0]; exact hc3)) F hE hW hS (1, m0) hPm.1.1 hPm.2.1 ham2 rfl [.int (kf (3 + 1)), .int (vf (3 + 1)), va_rf (cf (3 + 1))] rfl kw_221 kw_181 kw_182 kw_5 kw_183 (by decide +kernel) rfl ⟨rfl, rfl⟩ ⟨Nat.le_of_ble_eq_true rfl, Nat.le_of_ble_eq_true rfl⟩ hl.1 rfl (Nat.le_of_ble_eq_true rfl) dX1_split_56 ⟨Nat.le_of_ble_eq_true rfl, Nat.le_of_ble_eq_true rfl⟩ (fun _ _ _ _ _ h => h.elim) (fun v w' H locs hp hW hS => ?_)
            obtain ⟨ct4, rfl, rfl, qz, hqz, hq1, hq2, kf2, vf2, cf2, hPm, hXm2, hj1, hj2, hj3⟩ := hp
            obtain rfl : qz = 1 := by
              rcases Nat.lt_or_ge qz 1 with h | h
              · obtain rfl : qz = 0 := by omega
                exact absurd (by rw [k0]; exact hk34) (hq2 (by omega))
              · omega
            have hP2 := hP2.other hXm2 hne
            have hXm := hXm.tr hXm2
            refine lv_iinc (v := nI (3 + 1 + 1)) (lv' := [(3, .int (nI (3 + 1 + 1))), (2, .ref am), (0, .ref a0), (1, .int (nI m0))]) hx hb dX1_split_59 hl (k := 0) rfl (ki1 _) (by decide) rfl (fun ls hl => ?_)
            refine lv_goto (tgt := 24) hx hb dX1_split_62 (by decide) ?_
            refine lv_iload_n hx hb dX1_split_24 rfl (lv_at hl 0 rfl) ?_
            refine lv_aload_n hx hb dX1_split_25 rfl (lv_at hl 2 rfl) ?_
            refine kg F hE hW (1, n) hP2.1.1 ha2 hP2.2.1 rfl inA_X1 6 (by decide) kw_73 (v := .int (nI 5)) rfl dX1_split_26 ?_
            refine nc_ge (tgt := 65) hx hb dX1_split_29 (by decide) (by omega) (by omega) (fun c5 => ?_) (fun c5 => ?_)
            · have hX : XP m0 ct2 ct4 := hXm
              refine lv_aload_n hx hb dX1_split_65 rfl (lv_at hl 1 rfl) ?_
              refine lv_aload_n hx hb dX1_split_66 rfl (lv_at hl 2 rfl) ?_
              refine kg F hE hW (1, n) hP2.1.1 ha2 hP2.2.1 rfl inA_X1 8 (by decide) kw_79 (v := va_rf ri) rfl dX1_split_67 ?_
              refine pg_rightA (v := ri) rfl ham2 F hE hW hS hPm kw_79 dX1_split_70 (fun ct5 H locs hW hPm hX0 hS => ?_)
              have hX := hX.tr hX0
              have hP2 := hP2.other hX0 hne
              refine lv_aload_n hx hb dX1_split_73 rfl (lv_at hl 2 rfl) ?_
              refine lv_iconst (v := nI 3) hx hb dX1_split_74 (by decide) ?_
              refine pg_sizeA ha2 F hE hW hS hP2 kw_73 dX1_split_75 (fun ct6 H locs hW hP2 hX0 hS => ?_)
              have hY := hX0
              have hPm := hPm.other hX0 (Ne.symm hne)
              refine lv_aload_n hx hb dX1_split_78 rfl (lv_at hl 2 rfl) ?_
              refine lv_aload_n hx hb dX1_split_79 rfl (lv_at hl 1 rfl) ?_
              refine kg F hE hW (1, m0) hPm.1.1 ham2 hPm.2.1 rfl inA_X1 2 (by decide) kw_68 (v := .int (nI lo2)) rfl dX1_split_80 ?_
              refine pg_highA ha2 F hE hW hS hP2 kw_75 dX1_split_83 (fun ct7 H locs hW hP2 hX0 hS => ?_)
              have hY := hY.tr hX0
              have hPm := hPm.other hX0 (Ne.symm hne)
              refine lv_aload_n hx hb dX1_split_86 rfl (lv_at hl 2 rfl) ?_
              refine lv_aload_n hx hb dX1_split_87 rfl (lv_at hl 1 rfl) ?_
              refine pg_rightA (v := some am) rfl ha2 F hE hW hS hP2 kw_79 dX1_split_88 (fun ct8 H locs hW hP2 hX0 hS => ?_)
              have hY := hY.tr hX0
              have hPm := hPm.other hX0 (Ne.symm hne)
              refine lv_aload_n hx hb dX1_split_91 rfl (lv_at hl 1 rfl) ?_
              exact kr_a F hr hlk hE hW hS (by decide) (by decide) (Or.inl ⟨_, rfl⟩) (Or.inr ⟨_, rfl⟩) dX1_split_92 (by rw [← ham2] at hP2 ⊢; exact ⟨ad2, dm2, ct8, kf2, vf2, cf2, rfl, rfl, NX2.of hne (hx2.tr (NX.ofX hX)) hY, hP2, hPm, ⟨(hj1.1 0 (by omega)).trans k0, hj1.2.1⟩, ⟨(hj2.1 0 (by omega)).trans v0, hj2.2.1⟩, ⟨(hj3.1 0 (by omega)).trans c0, hj3.2.1⟩⟩)
            · exact absurd c5 (by omega)
  · exact absurd rfl (hno 3 (by omega))
end
section
/-! Rows for the list: Object arrays. -/
section LR
variable {p : Program} {l : Launch} {e : Env} {R : Room} {s : State} {m : MethodId} {args : Array Value} {below : List Frame} {meth : Method} {c : Code} {H : Heap} {locs : List Loc} {cells slots : Nat} {Q : State → Prop}
variable {cc : ByteArray} {pc nL index : Nat} {ls : Array Slot} {rest : List Value} {own : String} {G : GG} {A : Nat → Prop} {ad : Lb → Nat} {dm : Lb → Prop} {ct : Lb → va_E} {a a0 : Nat}
/-- an object of a class that can be cast to Object -/
theorem kAny {ci : Nat} {r : vw_C} {fs : List Value} (hE : VE G A s) (hW : wd G A (ad, dm, ct) H) (y : Lb) (hdy : dm y) {v : Nat} (hay : ad y = v) (hey : ct y = .inr (ci, fs)) (hc : vwCl[ci]? = some r) (hca : Cond.castable r.1 "java/lang/Object" ∈ lw_tbl) : va_Any "java/lang/Object" s H v := by
  refine va_rAny (tys := tyG G) (q0 := 0) hE.1 (wd_one hW hdy hay hey) rfl hc (fun comp c0 h1 h2 => ?_)
  obtain ⟨c1, t1, f1, f2, f3⟩ := Cond.castable_spec (va_Nw.use (A := #[]) rfl (hE.2.1.2.1 _ _ hca))
  cases h2.symm.trans f1
  cases h1.symm.trans f2
  exact f3
theorem ks_o (F : Fx p m c cc nL s args own) (hE : VE G A s) (hW : wd G A (ad, dm, ct) H) (hS : va_S A s.heap H locs) (x : Lb) (hd : dm x) (ha : ad x = a) {n : Nat} {f : Nat → Option Nat} (he : ct x = .inl (G.2.1 4, n, .inr (.inr (.inr (.inr f))))) {v : Nat} (hv : va_Any "java/lang/Object" s H v) {i : Int32} (j : Nat) (hi : i = nI j) (hj : j < n) (hn : n < 2 ^ 31) (hdg : decode cc pc = .ok (.aastore, 1))
    (kk : ∀ (ct1 : Lb → va_E) (H1 : Heap) (locs1 : List Loc), wd G A (ad, dm, ct1) H1 → ct1 x = .inl (G.2.1 4, n, .inr (.inr (.inr (.inr (va_up f j (some v)))))) → (∀ z, z ≠ x → ct1 z = ct z) → va_S A s.heap H1 locs1 → W p l e R s m args below meth c H1 locs1 cells slots Q (F0 m (pc + 1) ls rest)) :
    W p l e R s m args below meth c H locs cells slots Q (F0 m pc ls (.ref v :: .int i :: .ref a :: rest)) := by
  have he1 : H[a]? = some (vp_cell (G.2.1 4) (n, .inr (.inr (.inr (.inr f))))) := by have h := hW.1 x hd; dsimp only at h; rw [he, ha] at h; exact h
  obtain ⟨cellV, g1, g3, ⟨kC, hkC⟩, hasg⟩ := hv
  obtain ⟨kA, comp, k1, k2, k3, -⟩ := (hE.1.2 4 _ rfl).2
  obtain ⟨kE, hkE, -⟩ := Vm.findClass_spec k3
  have hin := nI_vp hi hj hn
  refine W.aast F.1 F.2.1 he1 (fun q h => by cases h) (fun h => by cases h) k1 k2 rfl hkE ⟨fun q => hin (Or.inl q), by show _ < (arrV _ _ _).slots.size; rw [arrV_size, nI_c hi hj hn]; exact hj⟩ g1 (fun q h => by rw [h] at g3; cases g3) hkC (hasg _ k3) rfl rfl hdg fun H1 e z oq => ?_
  refine kk _ H1 _ (wd_set hW hd ha ?_ oq) lu_s (fun z hz => lu_n hz) (hS.put z oq (by rw [← ha]; exact hW.2.2 x hd))
  show H1[a]? = some (vp_cell _ _)
  rw [e, nI_c hi hj hn]
  rw [vp_cell_q, vp_cell_q, arrV_store]
  congr 2
  funext q
  by_cases hq : q = j
  · subst hq; simp [updV, va_up, va_rf]
  · simp [updV, va_up, hq]
theorem kcp (F : Fx p m c cc nL s args own) (hml : c.maxLocals = ls.size) (hE : VE G A s) (hW : wd G A (ad, dm, ct) H) (hS : va_S A s.heap H locs) (hlink : Cond.methodLink own index arraycopyName ∈ AL) (hnat : Cond.native arraycopyName ∈ AL) (hstat : Cond.static arraycopyName ∈ AL) (hini : Cond.initialized "java/lang/System" ∈ AL)
    (x0 x1 : Lb) (hd0 : dm x0) (ha0 : ad x0 = a0) (hd1 : dm x1) (ha1 : ad x1 = a) {n0 n1 : Nat} {f g : Nat → Option Nat} (he0 : ct x0 = .inl (G.2.1 4, n0, .inr (.inr (.inr (.inr f))))) (he1 : ct x1 = .inl (G.2.1 4, n1, .inr (.inr (.inr (.inr g)))))
    {sp dp n : Nat} (hsp : sp < 2 ^ 31) (hdp : dp < 2 ^ 31) (hn : n < 2 ^ 31) (h4 : sp + n ≤ n0) (h5 : dp + n ≤ n1) (hel : ∀ i : Nat, i < n → ∀ y : Nat, f (sp + i) = some y → va_Any "java/lang/Object" s H y)
    (hframes : 1 ≤ R.frames) (hlocals : (rest.map fun v => v.category).sum + (nativeFrameWords "java/lang/System" "arraycopy" 5 + 11) ≤ R.locals) (hdg : decode cc pc = .ok (.invokestatic index, 3))
    (kk : ∀ (ct1 : Lb → va_E) (H1 : Heap) (locs1 : List Loc), wd G A (ad, dm, ct1) H1 → ct1 x1 = .inl (G.2.1 4, n1, .inr (.inr (.inr (.inr (va_cpy f g sp dp n))))) → (∀ z, z ≠ x1 → ct1 z = ct z) → va_S A s.heap H1 locs1 → W p l e R s m args below meth c H1 locs1 cells slots Q (F0 m (pc + 3) ls rest)) :
    W p l e R s m args below meth c H locs cells slots Q (F0 m pc ls (.int (nI n) :: .int (nI dp) :: .ref a :: .int (nI sp) :: .ref a0 :: rest)) := by
  intro T hT X
  have hc0 : H[a0]? = some (vp_cell (G.2.1 4) (n0, .inr (.inr (.inr (.inr f))))) := by have h := hW.1 x0 hd0; dsimp only at h; rw [he0, ha0] at h; exact h
  have hc1 : H[a]? = some (vp_cell (G.2.1 4) (n1, .inr (.inr (.inr (.inr g))))) := by have h := hW.1 x1 hd1; dsimp only at h; rw [he1, ha1] at h; exact h
  obtain ⟨-, k0, hk0, cm0, hkk0⟩ := (hE.1.2 4 _ rfl).1 n0 (fun j => va_rf (f j))
  obtain ⟨-, k1, hk1, cm1, hkk1⟩ := (hE.1.2 4 _ rfl).1 n1 (fun j => va_rf (g j))
  obtain ⟨vm', X', step⟩ := X.arraycopy F.1 F.2.2.2.1 (F.2.2.2.2 _ hlink) (F.2.2.2.2 _ hnat) (F.2.2.2.2 _ hstat) (F.2.2.2.2 _ hini) (src := a0) (dst := a) (cs := vp_cell (G.2.1 4) (n0, .inr (.inr (.inr (.inr f))))) (cd := vp_cell (G.2.1 4) (n1, .inr (.inr (.inr (.inr g))))) (srcPos := nI sp) (destPos := nI dp) (n := nI n) (by rw [hT]; exact hc0) (by rw [hT]; exact hc1)
    (fun _ h => by cases h) (fun _ h => by cases h) (fun h => by cases h) (fun h => by cases h) hk0 hk1 hkk0 hkk1 rfl (nI_pos hsp) (nI_pos hdp) (nI_pos hn)
    (by rw [nI_toInt hsp, nI_toInt hn]; show ¬ _ > ((arrV (G.2.1 4) n0 (fun j => va_rf (f j))).slots.size : Int); rw [arrV_size]; omega)
    (by rw [nI_toInt hdp, nI_toInt hn]; show ¬ _ > ((arrV (G.2.1 4) n1 (fun j => va_rf (g j))).slots.size : Int); rw [arrV_size]; omega)
    (fun vm₁ hal i hi => by
      rw [nI_clamp hn] at hi
      rw [nI_clamp hsp]
      have e : (vp_cell (G.2.1 4) (n0, .inr (.inr (.inr (.inr f))))).slots.getD (sp + i) .null = va_rf (f (sp + i)) := by
        show (arrV (G.2.1 4) n0 (fun j => va_rf (f j))).slots.getD _ _ = _
        rw [Array.getD_eq_getD_getElem?, arrV_read _ _ (by omega)]
        rfl
      rw [e]
      cases hy : f (sp + i) with
      | none => exact ⟨rfl, trivial⟩
      | some y =>
        obtain ⟨cellV, g1, g2, ⟨kC, hkC⟩, hasg⟩ := hel i hi y hy
        obtain ⟨kA, comp, r1, r2, r3, -⟩ := (hE.1.2 4 _ rfl).2
        cases hk1.symm.trans r1
        cases hkk1.symm.trans r2
        obtain ⟨kE, hkE, -⟩ := Vm.findClass_spec r3
        obtain ⟨kC', hkC', -⟩ := hal.2.2 _ _ hkC
        obtain ⟨kE', hkE', -⟩ := hal.2.2 _ _ hkE
        refine ⟨rfl, cellV, (show T.heap[y]? = some cellV by rw [hT]; exact g1), (fun q h => by rw [h] at g2; cases g2), ⟨kC', hkC'⟩, ?_, ?_⟩
        · exact ⟨kE', hkE'⟩
        · show vm₁.assignable _ _ = true
          rw [hal.assignable]
          exact hasg _ r3)
    (g := F0 m pc ls (.int (nI n) :: .int (nI dp) :: .ref a :: .int (nI sp) :: .ref a0 :: rest)) rfl (by rw [hml]) (rest := rest) rfl (by rw [F.2.1]; exact hdg) hframes (by show 2 * 0 + _ + _ ≤ _; omega)
  have e1 : copied (vp_cell (G.2.1 4) (n0, .inr (.inr (.inr (.inr f))))) (vp_cell (G.2.1 4) (n1, .inr (.inr (.inr (.inr g))))) (nI sp) (nI dp) (nI n) = vp_cell (G.2.1 4) (n1, .inr (.inr (.inr (.inr (va_cpy f g sp dp n))))) := by
    rw [vp_cell_q, vp_cell_q, vp_cell_q]
    have e2 : va_cpy f g sp dp n = va_cpy f g (nI sp).toNatClampNeg (nI dp).toNatClampNeg (nI n).toNatClampNeg := by rw [nI_clamp hsp, nI_clamp hdp, nI_clamp hn]
    rw [e2]
    exact va_copied (fun z => va_rf z) (G.2.1 4) (G.2.1 4) f g (by rw [nI_clamp hsp, nI_clamp hn]; exact h4)
  rw [e1] at X' step
  have hl : a < H.size := (Array.getElem?_eq_some_iff.mp hc1).1
  have hA : A a := by rw [← ha1]; exact hW.2.2 x1 hd1
  have hheap : ((T.setVm vm').setCell a (vp_cell (G.2.1 4) (n1, .inr (.inr (.inr (.inr (va_cpy f g sp dp n))))))).heap = H.setIfInBounds a (vp_cell (G.2.1 4) (n1, .inr (.inr (.inr (.inr (va_cpy f g sp dp n)))))) := by rw [← hT]; rfl
  have oq : ∀ q : Nat, q ≠ a → (H.setIfInBounds a (vp_cell (G.2.1 4) (n1, .inr (.inr (.inr (.inr (va_cpy f g sp dp n)))))))[q]? = H[q]? := fun q hq => by simp [Array.getElem?_setIfInBounds, Ne.symm hq]
  obtain ⟨t, a1, b1⟩ := kk _ _ _ (wd_set (e := .inl (G.2.1 4, n1, .inr (.inr (.inr (.inr (va_cpy f g sp dp n)))))) hW hd1 ha1 (show (H.setIfInBounds a _)[a]? = some _ by simp [Array.getElem?_setIfInBounds, hl]) oq) lu_s (fun z hz => lu_n hz) ⟨by simp; exact hS.1, fun q g1 g2 => by
      rw [oq q (fun e => g2 (by rw [e]; exact hA))]
      exact hS.2.1 q g1 g2, fun q hq => by
      rcases List.mem_append.mp hq with h | h
      · exact hS.2.2 q h
      · obtain ⟨z, -, hz⟩ := List.mem_map.mp h
        rw [← hz]
        exact hA⟩ _ hheap X'
  exact ⟨t, step t a1, b1⟩
end LR
end
section
/-! The list of splits: ArrayList over the labels (0,2) and (0,3). -/
def LO (mc : Int32) (E sz : Nat) : va_E := .inr (0, [.int mc, .ref E, .int (nI sz)])
def LL (G : GG) (ad : Lb → Nat) (dm : Lb → Prop) (ct : Lb → va_E) (mc : Int32) (sz cap : Nat) (f : Nat → Option Nat) : Prop :=
  dm (0, 2) ∧ ((¬ dm (0, 3) ∧ sz = 0 ∧ cap = 0 ∧ ct (0, 2) = LO mc G.2.2.1 sz) ∨ (dm (0, 3) ∧ sz ≤ cap ∧ 10 ≤ cap ∧ cap ≤ 800 ∧ ct (0, 2) = LO mc (ad (0, 3)) sz ∧ ct (0, 3) = .inl (G.2.1 4, cap, .inr (.inr (.inr (.inr f))))))
theorem LL.obj {G : GG} {ad : Lb → Nat} {dm : Lb → Prop} {ct : Lb → va_E} {mc : Int32} {sz cap : Nat} {f : Nat → Option Nat} (h : LL G ad dm ct mc sz cap f) : dm (0, 2) ∧ sz ≤ 800 ∧ ∃ E, ct (0, 2) = LO mc E sz := by
  obtain ⟨h1, ⟨-, h2, -, h3⟩ | ⟨-, h2, -, h3, h4, -⟩⟩ := h
  · exact ⟨h1, by omega, _, h3⟩
  · exact ⟨h1, by omega, _, h4⟩
def XLc (ct ct1 : Lb → va_E) : Prop := ∀ z : Lb, z ≠ (0, 2) → z ≠ (0, 3) → ct1 z = ct z
theorem PG.keep {G : GG} {ad : Lb → Nat} {dm : Lb → Prop} {ct ct1 : Lb → va_E} {n le lo sz hi : Nat} {ri : Option Nat} {de ta : Nat} {kf vf : Nat → Int32} {cf : Nat → Option Nat} {x : Lb} (h : PG G ad dm ct n le lo sz hi ri de ta kf vf cf) (hf : ∀ z, z ≠ x → ct1 z = ct z) (hx : x.1 = 0 ∨ 4 < x.1) : PG G ad dm ct1 n le lo sz hi ri de ta kf vf cf := by
  have k : ∀ j, 1 ≤ j → j ≤ 4 → ct1 (j, n) = ct (j, n) := fun j h1 h2 => hf _ (by rintro rfl; simp at hx; omega)
  exact ⟨h.1, (k 1 (by decide) (by decide)).trans h.2.1, (k 2 (by decide) (by decide)).trans h.2.2.1, (k 3 (by decide) (by decide)).trans h.2.2.2.1, (k 4 (by decide) (by decide)).trans h.2.2.2.2⟩
/-- an element: a page of the world -/
def isP1 (ad : Lb → Nat) (dm : Lb → Prop) (ct : Lb → va_E) (r : Option Nat) : Prop := ∃ (k : Nat) (vs : List Value), r = some (ad (1, k)) ∧ dm (1, k) ∧ ct (1, k) = .inr (2, vs)
theorem isP1.any {s : State} {H : Heap} {G : GG} {A : Nat → Prop} {ad : Lb → Nat} {dm : Lb → Prop} {ct : Lb → va_E} {r : Option Nat} (h : isP1 ad dm ct r) (hE : VE G A s) (hW : wd G A (ad, dm, ct) H) : ∀ y, r = some y → va_Any "java/lang/Object" s H y := by
  obtain ⟨k, vs, h1, h2, h3⟩ := h
  intro y hy
  exact kAny hE hW (1, k) h2 (Option.some.inj (h1.symm.trans hy)) h3 (r := (RX1, TX1, 11)) rfl kn_836
theorem isP1.keep {ad : Lb → Nat} {dm : Lb → Prop} {ct ct1 : Lb → va_E} {r : Option Nat} {x : Lb} (h : isP1 ad dm ct r) (hf : ∀ z, z ≠ x → ct1 z = ct z) (hx : x.1 ≠ 1) : isP1 ad dm ct1 r := by
  obtain ⟨k, vs, h1, h2, h3⟩ := h
  exact ⟨k, vs, h1, h2, (hf _ (by rintro rfl; exact hx rfl)).trans h3⟩
theorem lo_ne {E : Nat} {mc : Int32} {sz : Nat} : LO mc E sz = .inr (0, [.int mc, .ref E, .int (nI sz)]) := rfl
set_option maxRecDepth 100000 in
set_option maxHeartbeats 4000000 in
theorem c_Jx4a65c_size_8abf5 (l : Launch) (G : GG) (A : Nat → Prop) (ad : Lb → Nat) (dm : Lb → Prop) (ct : Lb → va_E) (mcn : Int32) (sz cap : Nat) (f : Nat → Option Nat) (hL : LL G ad dm ct mcn sz cap f) :
    CT l yJx4a65c_size_8abf5 cJx4a65c_size_8abf5 1 (some FieldType.int) { frames := 0, cells := 0, slots := 0, locals := 0 } [.ref (ad (0, 2))] G A (ad, dm, ct) (fun v w' => (ad, dm, ct) = w' ∧ v = some (.int (nI sz))) (fun _ => False) (0) (0) := by
  refine ct_of (by decide) (Nat.le_of_ble_eq_true rfl) ?_
  intro p e s m below meth c ls F hr hlk hnm hex hE hW hl
  have hx := F.1
  have hb := F.2.1
  have hS : va_S A s.heap s.heap [] := va_S.rf
  have hl : lv_has ls 1 [(0, .ref (ad (0, 2)))] := hl
  obtain ⟨hD, -, E, hO⟩ := hL.obj
  refine lv_aload_n hx hb dJx4a65c_size_8abf5_0 rfl (lv_at hl 0 rfl) ?_
  refine kg F hE hW (0, 2) hD rfl hO rfl inA_JL 2 (by decide) kw_45 (v := .int (nI sz)) rfl dJx4a65c_size_8abf5_1 ?_
  exact kr_i F hr hlk hE hW hS (Nat.le_of_ble_eq_true rfl) (Nat.le_of_ble_eq_true rfl) dJx4a65c_size_8abf5_4 (⟨rfl, rfl⟩)
set_option maxRecDepth 100000 in
set_option maxHeartbeats 4000000 in
theorem c_Jx4a65c_isEmpty_aae02 (l : Launch) (G : GG) (A : Nat → Prop) (ad : Lb → Nat) (dm : Lb → Prop) (ct : Lb → va_E) (mcn : Int32) (sz cap : Nat) (f : Nat → Option Nat) (hL : LL G ad dm ct mcn sz cap f) :
    CT l yJx4a65c_isEmpty_aae02 cJx4a65c_isEmpty_aae02 1 (some FieldType.boolean) { frames := 0, cells := 0, slots := 0, locals := 0 } [.ref (ad (0, 2))] G A (ad, dm, ct) (fun v w' => (ad, dm, ct) = w' ∧ ((sz = 0 ∧ v = some (.int (nI 1))) ∨ (0 < sz ∧ v = some (.int (nI 0))))) (fun _ => False) (0) (0) := by
  refine ct_of (by decide) (Nat.le_of_ble_eq_true rfl) ?_
  intro p e s m below meth c ls F hr hlk hnm hex hE hW hl
  have hx := F.1
  have hb := F.2.1
  have hS : va_S A s.heap s.heap [] := va_S.rf
  have hl : lv_has ls 1 [(0, .ref (ad (0, 2)))] := hl
  obtain ⟨hD, hsz, E, hO⟩ := hL.obj
  refine lv_aload_n hx hb dJx4a65c_isEmpty_aae02_0 rfl (lv_at hl 0 rfl) ?_
  refine kg F hE hW (0, 2) hD rfl hO rfl inA_JL 2 (by decide) kw_45 (v := .int (nI sz)) rfl dJx4a65c_isEmpty_aae02_1 ?_
  refine nz_ne (tgt := 11) hx hb dJx4a65c_isEmpty_aae02_4 (by decide) (by omega) (fun c => ?_) (fun c => ?_)
  · refine lv_iconst (v := nI 0) hx hb dJx4a65c_isEmpty_aae02_11 (by decide) ?_
    exact kr_z F hr hlk hE hW hS (Nat.le_of_ble_eq_true rfl) (Nat.le_of_ble_eq_true rfl) rfl dJx4a65c_isEmpty_aae02_12 (⟨rfl, Or.inr ⟨Nat.pos_of_ne_zero c, rfl⟩⟩)
  · refine lv_iconst (v := nI 1) hx hb dJx4a65c_isEmpty_aae02_7 (by decide) ?_
    refine lv_goto (tgt := 12) hx hb dJx4a65c_isEmpty_aae02_8 (by decide) ?_
    exact kr_z F hr hlk hE hW hS (Nat.le_of_ble_eq_true rfl) (Nat.le_of_ble_eq_true rfl) rfl dJx4a65c_isEmpty_aae02_12 (⟨rfl, Or.inl ⟨c, rfl⟩⟩)
set_option maxRecDepth 100000 in
set_option maxHeartbeats 4000000 in
theorem c_J3_checkIndex_8e157 (l : Launch) (G : GG) (A : Nat → Prop) (ad : Lb → Nat) (dm : Lb → Prop) (ct : Lb → va_E) (sz : Nat) (h0 : 0 < sz) (hsz : sz < 2 ^ 31) :
    CT l yJ3_checkIndex_8e157 cJ3_checkIndex_8e157 3 (some FieldType.int) { frames := 6, cells := 0, slots := 0, locals := 100 } [.int (nI 0), .int (nI sz), .null] G A (ad, dm, ct) (fun v w' => (ad, dm, ct) = w' ∧ v = some (.int (nI 0))) (fun _ => False) (0) (0) := by
  refine ct_of (by decide) (Nat.le_of_ble_eq_true rfl) ?_
  intro p e s m below meth c ls F hr hlk hnm hex hE hW hl
  have hx := F.1
  have hb := F.2.1
  have hS : va_S A s.heap s.heap [] := va_S.rf
  have hl : lv_has ls 3 [(0, .int (nI 0)), (1, .int (nI sz)), (2, .null)] := hl
  refine lv_iload_n hx hb dJ3_checkIndex_8e157_0 rfl (lv_at hl 0 rfl) ?_
  refine nz_lt (tgt := 9) hx hb dJ3_checkIndex_8e157_1 (by decide) (by omega) ?_
  refine lv_iload_n hx hb dJ3_checkIndex_8e157_4 rfl (lv_at hl 0 rfl) ?_
  refine lv_iload_n hx hb dJ3_checkIndex_8e157_5 rfl (lv_at hl 1 rfl) ?_
  refine nc_lt (tgt := 16) hx hb dJ3_checkIndex_8e157_6 (by decide) (by omega) (by omega) (fun c1 => ?_) (fun c1 => ?_)
  · refine lv_iload_n hx hb dJ3_checkIndex_8e157_16 rfl (lv_at hl 0 rfl) ?_
    exact kr_i F hr hlk hE hW hS (Nat.le_of_ble_eq_true rfl) (Nat.le_of_ble_eq_true rfl) dJ3_checkIndex_8e157_17 (⟨rfl, rfl⟩)
  · exact absurd c1 (by omega)
set_option maxRecDepth 100000 in
set_option maxHeartbeats 4000000 in
theorem c_J15_checkIndex_7cf53 (l : Launch) (G : GG) (A : Nat → Prop) (ad : Lb → Nat) (dm : Lb → Prop) (ct : Lb → va_E) (sz : Nat) (h0 : 0 < sz) (hsz : sz < 2 ^ 31) :
    CT l yJ15_checkIndex_7cf53 cJ15_checkIndex_7cf53 2 (some FieldType.int) { frames := 7, cells := 0, slots := 0, locals := 122 } [.int (nI 0), .int (nI sz)] G A (ad, dm, ct) (fun v w' => (ad, dm, ct) = w' ∧ v = some (.int (nI 0))) (fun _ => False) (0) (0) := by
  refine ct_of (by decide) (Nat.le_of_ble_eq_true rfl) ?_
  intro p e s m below meth c ls F hr hlk hnm hex hE hW hl
  have hx := F.1
  have hb := F.2.1
  have hS : va_S A s.heap s.heap [] := va_S.rf
  have hl : lv_has ls 2 [(0, .int (nI 0)), (1, .int (nI sz))] := hl
  refine lv_iload_n hx hb dJ15_checkIndex_7cf53_0 rfl (lv_at hl 0 rfl) ?_
  refine lv_iload_n hx hb dJ15_checkIndex_7cf53_1 rfl (lv_at hl 1 rfl) ?_
  refine lv_null hx hb dJ15_checkIndex_7cf53_2 ?_
  refine kc_S 3 (c_J3_checkIndex_8e157 l G A ad dm ct sz h0 hsz) F hE hW hS kw_162 kw_163 kw_17 kw_164 (by decide +kernel) rfl ⟨rfl, rfl⟩ ⟨Nat.le_of_ble_eq_true rfl, Nat.le_of_ble_eq_true rfl⟩ hl.1 rfl (Nat.le_of_ble_eq_true rfl) dJ15_checkIndex_7cf53_3 ⟨Nat.le_of_ble_eq_true rfl, Nat.le_of_ble_eq_true rfl⟩ (fun _ _ _ _ _ h => h.elim) (fun v w' H locs hp hW hS => ?_)
  obtain ⟨rfl, rfl⟩ := hp
  exact kr_i F hr hlk hE hW hS (Nat.le_of_ble_eq_true rfl) (Nat.le_of_ble_eq_true rfl) dJ15_checkIndex_7cf53_6 (⟨rfl, rfl⟩)
set_option maxRecDepth 100000 in
set_option maxHeartbeats 4000000 in
theorem c_Jx4a65c_fastRemove_b59b0 (l : Launch) (G : GG) (A : Nat → Prop) (ad : Lb → Nat) (dm : Lb → Prop) (ct : Lb → va_E) (mcn : Int32) (sz cap : Nat) (f : Nat → Option Nat) (h0 : 0 < sz) (hsc : sz ≤ cap) (h10 : 10 ≤ cap) (hcap : cap ≤ 800) (hD : dm (0, 2)) (hD3 : dm (0, 3)) (hO : ct (0, 2) = LO mcn (ad (0, 3)) sz) (hR : ct (0, 3) = .inl (G.2.1 4, cap, .inr (.inr (.inr (.inr f))))) (hel : ∀ j, j < sz → isP1 ad dm ct (f j)) :
    CT l yJx4a65c_fastRemove_b59b0 cJx4a65c_fastRemove_b59b0 4 none { frames := 3, cells := 0, slots := 0, locals := 40 } [.ref (ad (0, 2)), .ref (ad (0, 3)), .int (nI 0)] G A (ad, dm, ct) (fun v w' => ∃ ct' f', w' = (ad, dm, ct') ∧ v = none ∧ LL G ad dm ct' (mcn + nI 1) (sz - 1) cap f' ∧ (∀ j, j < sz - 1 → f' j = f (j + 1)) ∧ XLc ct ct') (fun _ => False) (0) (0) := by
  refine ct_of (by decide) (Nat.le_of_ble_eq_true rfl) ?_
  intro p e s m below meth c ls F hr hlk hnm hex hE hW hl
  have hx := F.1
  have hb := F.2.1
  have hS : va_S A s.heap s.heap [] := va_S.rf
  have hl : lv_has ls 4 [(0, .ref (ad (0, 2))), (1, .ref (ad (0, 3))), (2, .int (nI 0))] := hl
  refine lv_aload_n hx hb dJx4a65c_fastRemove_b59b0_0 rfl (lv_at hl 0 rfl) ?_
  refine lv_dup hx hb dJx4a65c_fastRemove_b59b0_1 rfl ?_
  refine kgS F hE hW (0, 2) hD rfl hO rfl inA_JL 0 (by decide) kw_47 (fun x9 h9 => u_same (F.2.2.2.2 _ kw_48) x9 h9) (v := .int mcn) rfl dJx4a65c_fastRemove_b59b0_2 ?_
  refine lv_iconst (v := nI 1) hx hb dJx4a65c_fastRemove_b59b0_5 (by decide) ?_
  refine lv_iadd hx hb dJx4a65c_fastRemove_b59b0_6 ?_
  refine kpS F hE hW hS (0, 2) hD rfl hO rfl inA_JL tyJx4a65c tyJx4a65c_ok nmJx4a65c 0 (by decide) kw_47 (fun x9 h9 => u_same (F.2.2.2.2 _ kw_48) x9 h9) rfl rfl rfl (Nat.le_of_ble_eq_true rfl) dJx4a65c_fastRemove_b59b0_7 (fun ct1 H locs hW hc1 hf1 hS => ?_)
  have hk031 : ct1 (0, 3) = _ := (hf1 _ (by decide)).trans hR
  refine lv_aload_n hx hb dJx4a65c_fastRemove_b59b0_10 rfl (lv_at hl 0 rfl) ?_
  refine kg F hE hW (0, 2) hD rfl hc1 rfl inA_JL 2 (by decide) kw_45 (v := .int (nI sz)) rfl dJx4a65c_fastRemove_b59b0_11 ?_
  refine lv_iconst (v := nI 1) hx hb dJx4a65c_fastRemove_b59b0_14 (by decide) ?_
  refine lv_isub hx hb dJx4a65c_fastRemove_b59b0_15 ?_
  refine ktop (pk_sub (by omega)) ?_
  refine lv_dup hx hb dJx4a65c_fastRemove_b59b0_16 rfl ?_
  refine lv_istore_n (lv' := [(3, .int (nI (sz - 1))), (0, .ref (ad (0, 2))), (1, .ref (ad (0, 3))), (2, .int (nI 0))]) hx hb dJx4a65c_fastRemove_b59b0_17 rfl hl (by decide) rfl (fun ls hl => ?_)
  refine lv_iload_n hx hb dJx4a65c_fastRemove_b59b0_18 rfl (lv_at hl 3 rfl) ?_
  refine nc_le (tgt := 34) hx hb dJx4a65c_fastRemove_b59b0_19 (by decide) (by omega) (by omega) (fun c1 => ?_) (fun c1 => ?_)
  · refine lv_aload_n hx hb dJx4a65c_fastRemove_b59b0_34 rfl (lv_at hl 2 rfl) ?_
    refine lv_aload_n hx hb dJx4a65c_fastRemove_b59b0_35 rfl (lv_at hl 1 rfl) ?_
    refine lv_iload_n hx hb dJx4a65c_fastRemove_b59b0_36 rfl (lv_at hl 0 rfl) ?_
    refine lv_dup_x1 hx hb dJx4a65c_fastRemove_b59b0_37 rfl rfl ?_
    refine kp F hE hW hS (0, 2) hD rfl hc1 rfl inA_JL tyJx4a65c tyJx4a65c_ok nmJx4a65c 2 (by decide) kw_45 rfl rfl rfl (Nat.le_of_ble_eq_true rfl) dJx4a65c_fastRemove_b59b0_38 (fun ct2 H locs hW hc2 hf2 hS => ?_)
    have hk032 : ct2 (0, 3) = _ := (hf2 _ (by decide)).trans hk031
    refine lv_null hx hb dJx4a65c_fastRemove_b59b0_41 ?_
    refine ks_n 4 F hE hW hS (0, 3) hD3 rfl rfl hk032 (sz - 1) rfl (by omega) (by omega) dJx4a65c_fastRemove_b59b0_42 (fun ct9 H locs hW hc9 hf9 hS => ?_)
    have hO9 : ct9 (0, 2) = _ := (hf9 _ (by decide)).trans hc2
    exact kr_v F hr hlk hE hW hS (Nat.le_of_ble_eq_true rfl) (Nat.le_of_ble_eq_true rfl) dJx4a65c_fastRemove_b59b0_43 (⟨ct9, _, rfl, rfl, ⟨hD, Or.inr ⟨hD3, by omega, h10, hcap, hO9, hc9⟩⟩, fun j hj => by omega, fun z h2 h3 => (hf9 z h3).trans ((hf2 z h2).trans (hf1 z h2))⟩)
  · refine lv_aload_n hx hb dJx4a65c_fastRemove_b59b0_22 rfl (lv_at hl 2 rfl) ?_
    refine lv_iload_n hx hb dJx4a65c_fastRemove_b59b0_23 rfl (lv_at hl 3 rfl) ?_
    refine lv_iconst (v := nI 1) hx hb dJx4a65c_fastRemove_b59b0_24 (by decide) ?_
    refine lv_iadd hx hb dJx4a65c_fastRemove_b59b0_25 ?_
    refine ktop (nI_add _ _) ?_
    refine lv_aload_n hx hb dJx4a65c_fastRemove_b59b0_26 rfl (lv_at hl 2 rfl) ?_
    refine lv_iload_n hx hb dJx4a65c_fastRemove_b59b0_27 rfl (lv_at hl 3 rfl) ?_
    refine lv_iload_n hx hb dJx4a65c_fastRemove_b59b0_28 rfl (lv_at hl 0 rfl) ?_
    refine lv_iload_n hx hb dJx4a65c_fastRemove_b59b0_29 rfl (lv_at hl 3 rfl) ?_
    refine lv_isub hx hb dJx4a65c_fastRemove_b59b0_30 ?_
    refine ktop (pk_sub (by omega)) ?_
    refine kcp F (F.2.2.1.trans hl.1.symm) hE hW hS kw_169 kw_171 kw_170 kw_14 (0, 3) (0, 3) hD3 rfl hD3 rfl hk031 hk031 (by decide) (by decide) (by omega) (by omega) (by omega) (fun i hi y hy => ((hel (0 + 1 + i) (by omega)).keep hf1 (by decide)).any hE hW y hy) (Nat.le_of_ble_eq_true rfl) (by decide) dJx4a65c_fastRemove_b59b0_31 (fun ct5 H locs hW hc5 hf5 hS => ?_)
    have hO5 : ct5 (0, 2) = _ := (hf5 _ (by decide)).trans hc1
    refine lv_aload_n hx hb dJx4a65c_fastRemove_b59b0_34 rfl (lv_at hl 2 rfl) ?_
    refine lv_aload_n hx hb dJx4a65c_fastRemove_b59b0_35 rfl (lv_at hl 1 rfl) ?_
    refine lv_iload_n hx hb dJx4a65c_fastRemove_b59b0_36 rfl (lv_at hl 0 rfl) ?_
    refine lv_dup_x1 hx hb dJx4a65c_fastRemove_b59b0_37 rfl rfl ?_
    refine kp F hE hW hS (0, 2) hD rfl hO5 rfl inA_JL tyJx4a65c tyJx4a65c_ok nmJx4a65c 2 (by decide) kw_45 rfl rfl rfl (Nat.le_of_ble_eq_true rfl) dJx4a65c_fastRemove_b59b0_38 (fun ct2 H locs hW hc2 hf2 hS => ?_)
    have hk032 : ct2 (0, 3) = _ := (hf2 _ (by decide)).trans hc5
    refine lv_null hx hb dJx4a65c_fastRemove_b59b0_41 ?_
    refine ks_n 4 F hE hW hS (0, 3) hD3 rfl rfl hk032 (sz - 1) rfl (by omega) (by omega) dJx4a65c_fastRemove_b59b0_42 (fun ct9 H locs hW hc9 hf9 hS => ?_)
    have hO9 : ct9 (0, 2) = _ := (hf9 _ (by decide)).trans hc2
    exact kr_v F hr hlk hE hW hS (Nat.le_of_ble_eq_true rfl) (Nat.le_of_ble_eq_true rfl) dJx4a65c_fastRemove_b59b0_43 (⟨ct9, _, rfl, rfl, ⟨hD, Or.inr ⟨hD3, by omega, h10, hcap, hO9, hc9⟩⟩, fun j hj => by
          rw [va_up_ne _ _ (by omega), pk_cpy_in (by omega) (by omega)]
          congr 1; omega, fun z h2 h3 => (hf9 z h3).trans ((hf2 z h2).trans ((hf5 z h3).trans (hf1 z h2)))⟩)
set_option maxRecDepth 100000 in
set_option maxHeartbeats 4000000 in
theorem c_Jx4a65c_remove_915e3 (l : Launch) (G : GG) (A : Nat → Prop) (ad : Lb → Nat) (dm : Lb → Prop) (ct : Lb → va_E) (mcn : Int32) (sz cap : Nat) (f : Nat → Option Nat) (hL : LL G ad dm ct mcn sz cap f) (h0 : 0 < sz) (hel : ∀ j, j < sz → isP1 ad dm ct (f j)) :
    CT l yJx4a65c_remove_915e3 cJx4a65c_remove_915e3 4 (some (FieldType.object "java/lang/Object")) { frames := 8, cells := 0, slots := 0, locals := 143 } [.ref (ad (0, 2)), .int (nI 0)] G A (ad, dm, ct) (fun v w' => ∃ ct' f', w' = (ad, dm, ct') ∧ v = some (va_rf (f 0)) ∧ LL G ad dm ct' (mcn + nI 1) (sz - 1) cap f' ∧ (∀ j, j < sz - 1 → f' j = f (j + 1)) ∧ XLc ct ct') (fun _ => False) (0) (0) := by
  refine ct_of (by decide) (Nat.le_of_ble_eq_true rfl) ?_
  intro p e s m below meth c ls F hr hlk hnm hex hE hW hl
  have hx := F.1
  have hb := F.2.1
  have hS : va_S A s.heap s.heap [] := va_S.rf
  have hl : lv_has ls 4 [(0, .ref (ad (0, 2))), (1, .int (nI 0))] := hl
  obtain ⟨hD, ⟨-, hz, -, -⟩ | ⟨hD3, hsc, h10, hcap, hO, hR⟩⟩ := hL
  · omega
  · refine lv_iload_n hx hb dJx4a65c_remove_915e3_0 rfl (lv_at hl 1 rfl) ?_
    refine lv_aload_n hx hb dJx4a65c_remove_915e3_1 rfl (lv_at hl 0 rfl) ?_
    refine kg F hE hW (0, 2) hD rfl hO rfl inA_JL 2 (by decide) kw_45 (v := .int (nI sz)) rfl dJx4a65c_remove_915e3_2 ?_
    refine kc_S 2 (c_J15_checkIndex_7cf53 l G A ad dm ct sz h0 (by omega)) F hE hW hS kw_159 kw_160 kw_16 kw_161 (by decide +kernel) rfl ⟨rfl, rfl⟩ ⟨Nat.le_of_ble_eq_true rfl, Nat.le_of_ble_eq_true rfl⟩ hl.1 rfl (Nat.le_of_ble_eq_true rfl) dJx4a65c_remove_915e3_5 ⟨Nat.le_of_ble_eq_true rfl, Nat.le_of_ble_eq_true rfl⟩ (fun _ _ _ _ _ h => h.elim) (fun v w' H locs hp hW hS => ?_)
    obtain ⟨rfl, rfl⟩ := hp
    refine lv_pop hx hb dJx4a65c_remove_915e3_8 rfl ?_
    refine lv_aload_n hx hb dJx4a65c_remove_915e3_9 rfl (lv_at hl 0 rfl) ?_
    refine kg F hE hW (0, 2) hD rfl hO rfl inA_JL 1 (by decide) kw_44 (v := .ref (ad (0, 3))) rfl dJx4a65c_remove_915e3_10 ?_
    refine lv_astore_n (lv' := [(2, .ref (ad (0, 3))), (0, .ref (ad (0, 2))), (1, .int (nI 0))]) hx hb dJx4a65c_remove_915e3_13 rfl hl (by decide) rfl (fun ls hl => ?_)
    refine lv_aload_n hx hb dJx4a65c_remove_915e3_14 rfl (lv_at hl 0 rfl) ?_
    refine lv_iload_n hx hb dJx4a65c_remove_915e3_15 rfl (lv_at hl 2 rfl) ?_
    obtain ⟨k0, vs0, hf0, hd0, hct0⟩ := hel 0 h0
    refine kl_a 4 F hE hW (0, 3) hD3 rfl rfl hR 0 rfl (by omega) (by omega) (v := .ref (ad (1, k0))) (by rw [hf0]; rfl) dJx4a65c_remove_915e3_16 ?_
    refine lv_astore_n (lv' := [(3, .ref (ad (1, k0))), (2, .ref (ad (0, 3))), (0, .ref (ad (0, 2))), (1, .int (nI 0))]) hx hb dJx4a65c_remove_915e3_17 rfl hl (by decide) rfl (fun ls hl => ?_)
    refine lv_aload_n hx hb dJx4a65c_remove_915e3_18 rfl (lv_at hl 2 rfl) ?_
    refine lv_aload_n hx hb dJx4a65c_remove_915e3_19 rfl (lv_at hl 1 rfl) ?_
    refine lv_iload_n hx hb dJx4a65c_remove_915e3_20 rfl (lv_at hl 3 rfl) ?_
    refine kc_V 2 (c_Jx4a65c_fastRemove_b59b0 l G A ad dm ct mcn sz cap f h0 hsc h10 hcap hD hD3 hO hR hel) F hE hW hS (0, 2) hD hO rfl [.ref (ad (0, 3)), .int (nI 0)] rfl kw_165 kw_167 kp_1 kw_4 kw_168 (by decide +kernel) rfl ⟨rfl, rfl⟩ ⟨Nat.le_of_ble_eq_true rfl, Nat.le_of_ble_eq_true rfl⟩ hl.1 rfl (Nat.le_of_ble_eq_true rfl) dJx4a65c_remove_915e3_21 ⟨Nat.le_of_ble_eq_true rfl, Nat.le_of_ble_eq_true rfl⟩ (fun _ _ _ _ _ h => h.elim) (fun v w' H locs hp hW hS => ?_)
    obtain ⟨ct2, f2, rfl, rfl, hL2, hf2, hX2⟩ := hp
    refine lv_aload_n hx hb dJx4a65c_remove_915e3_24 rfl (lv_at hl 0 rfl) ?_
    exact kr_a F hr hlk hE hW hS (Nat.le_of_ble_eq_true rfl) (Nat.le_of_ble_eq_true rfl) (Or.inl ⟨_, rfl⟩) (Or.inr ⟨_, rfl⟩) dJx4a65c_remove_915e3_25 (⟨ct2, f2, rfl, by rw [hf0]; rfl, hL2, hf2, hX2⟩)
end
section
/-! The list grows. -/
def XL (ad : Lb → Nat) (dm : Lb → Prop) (ct : Lb → va_E) (ad1 : Lb → Nat) (dm1 : Lb → Prop) (ct1 : Lb → va_E) : Prop :=
  (∀ z : Lb, z ≠ (0, 2) → z ≠ (0, 3) → ad1 z = ad z ∧ ct1 z = ct z ∧ (dm1 z ↔ dm z)) ∧ ad1 (0, 2) = ad (0, 2) ∧ (dm1 (0, 2) ↔ dm (0, 2))
theorem XL.rf {ad : Lb → Nat} {dm : Lb → Prop} {ct : Lb → va_E} : XL ad dm ct ad dm ct := ⟨fun _ _ _ => ⟨rfl, rfl, Iff.rfl⟩, rfl, Iff.rfl⟩
theorem XL.tr {ad ad1 ad2 : Lb → Nat} {dm dm1 dm2 : Lb → Prop} {ct ct1 ct2 : Lb → va_E} (h1 : XL ad dm ct ad1 dm1 ct1) (h2 : XL ad1 dm1 ct1 ad2 dm2 ct2) : XL ad dm ct ad2 dm2 ct2 :=
  ⟨fun z a b => ⟨(h2.1 z a b).1.trans (h1.1 z a b).1, (h2.1 z a b).2.1.trans (h1.1 z a b).2.1, (h2.1 z a b).2.2.trans (h1.1 z a b).2.2⟩, h2.2.1.trans h1.2.1, h2.2.2.trans h1.2.2⟩
theorem XL.put {ad : Lb → Nat} {dm : Lb → Prop} {ct ct1 : Lb → va_E} {x : Lb} (hx : x = (0, 2) ∨ x = (0, 3)) (hf : ∀ z, z ≠ x → ct1 z = ct z) : XL ad dm ct ad dm ct1 :=
  ⟨fun z a b => ⟨rfl, hf z (by rintro rfl; rcases hx with h | h; exact a h; exact b h), Iff.rfl⟩, rfl, Iff.rfl⟩
theorem isP1.xl {ad ad1 : Lb → Nat} {dm dm1 : Lb → Prop} {ct ct1 : Lb → va_E} {r : Option Nat} (h : isP1 ad dm ct r) (hX : XL ad dm ct ad1 dm1 ct1) : isP1 ad1 dm1 ct1 r := by
  obtain ⟨k, vs, h1, h2, h3⟩ := h
  obtain ⟨e1, e2, e3⟩ := hX.1 (1, k) (by simp) (by simp)
  exact ⟨k, vs, by rw [e1]; exact h1, e3.mpr h2, e2.trans h3⟩
/-- a cell gets another's label -/
theorem wd_mv {G : GG} {A : Nat → Prop} {H : Heap} {ad ad0 : Lb → Nat} {dm : Lb → Prop} {ct ct0 : Lb → va_E} (x y : Lb) (hW : wd G A (ad, dm, ct) H) (hy : dm y) (h0 : ∀ z, dm z → z ≠ y → z ≠ x → ad0 z = ad z ∧ ct0 z = ct z) : wd G A (fun z => if z = x then ad y else ad0 z, fun z => z = x ∨ (dm z ∧ z ≠ y), fun z => if z = x then ct y else ct0 z) H := by
  obtain ⟨h1, h2, h3⟩ := hW
  refine ⟨fun z hz => ?_, fun z u hz hu hzu => ?_, fun z hz => ?_⟩
  · dsimp only at hz ⊢
    by_cases e : z = x
    · rw [if_pos e, if_pos e]; exact h1 y hy
    · have k := hz.resolve_left e
      rw [if_neg e, if_neg e, (h0 z k.1 k.2 e).1, (h0 z k.1 k.2 e).2]; exact h1 z k.1
  · dsimp only at hz hu hzu
    by_cases e : z = x <;> by_cases e2 : u = x
    · rw [e, e2]
    · have k := hu.resolve_left e2
      rw [if_pos e, if_neg e2, (h0 u k.1 k.2 e2).1] at hzu
      exact absurd (h2 y u hy k.1 hzu).symm k.2
    · have k := hz.resolve_left e
      rw [if_neg e, if_pos e2, (h0 z k.1 k.2 e).1] at hzu
      exact absurd (h2 z y k.1 hy hzu) k.2
    · have k := hz.resolve_left e
      have k2 := hu.resolve_left e2
      rw [if_neg e, if_neg e2, (h0 z k.1 k.2 e).1, (h0 u k2.1 k2.2 e2).1] at hzu
      exact h2 z u k.1 k2.1 hzu
  · dsimp only at hz ⊢
    by_cases e : z = x
    · rw [if_pos e]; exact h3 y hy
    · have k := hz.resolve_left e
      rw [if_neg e, (h0 z k.1 k.2 e).1]; exact h3 z k.1
theorem max_1 {k : Nat} (h : 1 < k) (hk : k < 2 ^ 31) : (if nI 1 < nI k then nI k else nI 1) = nI k := if_pos (nI_lt h hk)
theorem max_10 {k : Nat} (h : k ≤ 10) : (if nI 10 < nI k then nI k else nI 10) = nI 10 := if_neg (nI_nlt h (by decide))
theorem min_le {a b : Nat} (h : a ≤ b) (hb : b < 2 ^ 31) : (if nI b < nI a then nI b else nI a) = nI a := if_neg (nI_nlt h hb)
theorem shr1 (n : Nat) (h : n < 2 ^ 31) : nI n >>> (nI 1 &&& 31) = nI (n / 2) := by
  have k := pk_shrN (n := n) h (nI 1 &&& 31) 1 (by decide)
  rw [Nat.pow_one] at k
  exact k
set_option maxRecDepth 100000 in
set_option maxHeartbeats 4000000 in
theorem c_J8_newLength_cabcc (l : Launch) (G : GG) (A : Nat → Prop) (ad : Lb → Nat) (dm : Lb → Prop) (ct : Lb → va_E) (cp : Nat) (h10 : 10 ≤ cp) (h8 : cp ≤ 800) :
    CT l yJ8_newLength_cabcc cJ8_newLength_cabcc 4 (some FieldType.int) { frames := 7, cells := 0, slots := 0, locals := 122 } [.int (nI cp), .int (nI 1), .int (nI (cp / 2))] G A (ad, dm, ct) (fun v w' => (ad, dm, ct) = w' ∧ v = some (.int (nI (cp + cp / 2)))) (fun _ => False) (0) (0) := by
  refine ct_of (by decide) (Nat.le_of_ble_eq_true rfl) ?_
  intro p e s m below meth c ls F hr hlk hnm hex hE hW hl
  have hx := F.1
  have hb := F.2.1
  have hS : va_S A s.heap s.heap [] := va_S.rf
  have hl : lv_has ls 4 [(0, .int (nI cp)), (1, .int (nI 1)), (2, .int (nI (cp / 2)))] := hl
  refine lv_iload_n hx hb dJ8_newLength_cabcc_0 rfl (lv_at hl 0 rfl) ?_
  refine lv_iload_n hx hb dJ8_newLength_cabcc_1 rfl (lv_at hl 1 rfl) ?_
  refine lv_iload_n hx hb dJ8_newLength_cabcc_2 rfl (lv_at hl 2 rfl) ?_
  refine va_mmax hx hb (F.2.2.1.trans hl.1.symm) F.2.2.2.1 (F.2.2.2.2 _ kw_241) (F.2.2.2.2 _ kw_242) (F.2.2.2.2 _ kw_12) (F.2.2.2.2 _ kw_243) (Nat.le_of_ble_eq_true rfl) (Nat.le_of_ble_eq_true rfl) (Nat.le_of_ble_eq_true rfl) (Nat.le_of_ble_eq_true rfl) dJ8_newLength_cabcc_3 ?_
  refine ktop (max_1 (by omega) (by omega)) ?_
  refine lv_iadd hx hb dJ8_newLength_cabcc_6 ?_
  refine ktop (nI_add _ _) ?_
  refine lv_istore_n (lv' := [(3, .int (nI (cp + (cp / 2)))), (0, .int (nI cp)), (1, .int (nI 1)), (2, .int (nI (cp / 2)))]) hx hb dJ8_newLength_cabcc_7 rfl hl (by decide) rfl (fun ls hl => ?_)
  refine lv_iconst (v := nI 0) hx hb dJ8_newLength_cabcc_8 (by decide) ?_
  refine lv_iload_n hx hb dJ8_newLength_cabcc_9 rfl (lv_at hl 0 rfl) ?_
  refine nc_ge (tgt := 21) hx hb dJ8_newLength_cabcc_10 (by decide) (by omega) (by omega) (fun c1 => ?_) (fun c1 => ?_)
  · exact absurd c1 (by omega)
  · refine lv_iload_n hx hb dJ8_newLength_cabcc_13 rfl (lv_at hl 0 rfl) ?_
    refine lv_ldc hx hb F.2.2.2.1 (F.2.2.2.2 _ kw_244) dJ8_newLength_cabcc_14 ?_
    refine ktop (y := nI 2147483639) (by decide) ?_
    refine nc_gt (tgt := 21) hx hb dJ8_newLength_cabcc_16 (by decide) (by omega) (by decide) (fun c2 => ?_) (fun c2 => ?_)
    · exact absurd c2 (by omega)
    · refine lv_iload_n hx hb dJ8_newLength_cabcc_19 rfl (lv_at hl 0 rfl) ?_
      exact kr_i F hr hlk hE hW hS (Nat.le_of_ble_eq_true rfl) (Nat.le_of_ble_eq_true rfl) dJ8_newLength_cabcc_20 (⟨rfl, rfl⟩)
set_option maxRecDepth 100000 in
set_option maxHeartbeats 4000000 in
theorem c_J7_copyOf_6403c (l : Launch) (G : GG) (A : Nat → Prop) (ad : Lb → Nat) (dm : Lb → Prop) (ct : Lb → va_E) (cp n : Nat) (f : Nat → Option Nat) (hcn : cp ≤ n) (hn : n ≤ 800) (hD3 : dm (0, 3)) (hD6 : ¬ dm (6, 0)) (hR : ct (0, 3) = .inl (G.2.1 4, cp, .inr (.inr (.inr (.inr f))))) (hel : ∀ j, j < cp → isP1 ad dm ct (f j)) :
    CT l yJ7_copyOf_6403c cJ7_copyOf_6403c 4 (some (FieldType.array (FieldType.object "java/lang/Object"))) { frames := 3, cells := 1, slots := n, locals := 40 } [.ref (ad (0, 3)), .int (nI n), .ref G.2.2.2] G A (ad, dm, ct) (fun v w' => ∃ ad' dm' ct' g, w' = (ad', dm', ct') ∧ v = some (.ref (ad' (6, 0))) ∧ NW (6, 0) (.inl (G.2.1 4, n, .inr (.inr (.inr (.inr g))))) ad dm ct ad' dm' ct' ∧ ∀ j, j < cp → g j = f j) (fun _ => False) (1) (n) := by
  refine ct_of (by decide) (Nat.le_of_ble_eq_true rfl) ?_
  intro p e s m below meth c ls F hr hlk hnm hex hE hW hl
  have hx := F.1
  have hb := F.2.1
  have hS : va_S A s.heap s.heap [] := va_S.rf
  have hl : lv_has ls 4 [(0, .ref (ad (0, 3))), (1, .int (nI n)), (2, .ref G.2.2.2)] := hl
  have hM := hE.2.1.2.2.2.2.1
  refine lv_aload_n hx hb dJ7_copyOf_6403c_0 rfl (lv_at hl 2 rfl) ?_
  refine va_ldcM hx hb F.2.2.2.1 (F.2.2.2.2 _ kw_266) hM dJ7_copyOf_6403c_1 ?_
  refine lv_acmp_ne (rx := some G.2.2.2) (ry := some G.2.2.2) (tgt := 13) hx hb dJ7_copyOf_6403c_3 (by decide) (fun h => absurd rfl h) (fun _ => ?_)
  refine lv_iload_n hx hb dJ7_copyOf_6403c_6 rfl (lv_at hl 1 rfl) ?_
  refine nq (C := "java/lang/Object") 4 F hE hW hS (6, 0) hD6 kw_268 kn_267 rfl n rfl (by omega) (by omega) (Nat.le_of_ble_eq_true rfl) (by simp) dJ7_copyOf_6403c_7 (fun ad1 dm1 ct1 H hW hN hS => ?_)
  have h03 := hN.1 (0, 3) (by decide)
  refine lv_goto (tgt := 24) hx hb dJ7_copyOf_6403c_10 (by decide) ?_
  refine lv_astore_n (lv' := [(3, .ref (ad1 (6, 0))), (0, .ref (ad (0, 3))), (1, .int (nI n)), (2, .ref G.2.2.2)]) hx hb dJ7_copyOf_6403c_24 rfl hl (by decide) rfl (fun ls hl => ?_)
  refine lv_aload_n hx hb dJ7_copyOf_6403c_25 rfl (lv_at hl 1 rfl) ?_
  refine lv_iconst (v := nI 0) hx hb dJ7_copyOf_6403c_26 (by decide) ?_
  refine lv_aload_n hx hb dJ7_copyOf_6403c_27 rfl (lv_at hl 0 rfl) ?_
  refine lv_iconst (v := nI 0) hx hb dJ7_copyOf_6403c_28 (by decide) ?_
  refine lv_aload_n hx hb dJ7_copyOf_6403c_29 rfl (lv_at hl 1 rfl) ?_
  refine kal 4 F hE hW (0, 3) ((hN.2.2 _).mpr (Or.inr hD3)) h03.1 rfl (h03.2.trans hR) dJ7_copyOf_6403c_30 ?_
  refine lv_iload_n hx hb dJ7_copyOf_6403c_31 rfl (lv_at hl 2 rfl) ?_
  refine va_mmin hx hb (F.2.2.1.trans hl.1.symm) F.2.2.2.1 (F.2.2.2.2 _ kw_269) (F.2.2.2.2 _ kw_270) (F.2.2.2.2 _ kw_12) (F.2.2.2.2 _ kw_271) (Nat.le_of_ble_eq_true rfl) (Nat.le_of_ble_eq_true rfl) (Nat.le_of_ble_eq_true rfl) (by simp) dJ7_copyOf_6403c_32 ?_
  refine ktop (min_le hcn (by omega)) ?_
  refine kcp F (F.2.2.1.trans hl.1.symm) hE hW hS kw_272 kw_171 kw_170 kw_14 (0, 3) (6, 0) ((hN.2.2 _).mpr (Or.inr hD3)) h03.1 ((hN.2.2 _).mpr (Or.inl rfl)) rfl (h03.2.trans hR) hN.2.1 (by decide) (by decide) (by omega) (by omega) (by omega) (fun i hi y hy => ?_) (Nat.le_of_ble_eq_true rfl) (Nat.le_of_ble_eq_true rfl) dJ7_copyOf_6403c_35 (fun ct2 H locs hW hc2 hf2 hS => ?_)
  · obtain ⟨k, vs, k1, k2, k3⟩ := hel (0 + i) (by omega)
    have e1 := hN.1 (1, k) (by simp)
    exact isP1.any ⟨k, vs, by rw [e1.1]; exact k1, (hN.2.2 _).mpr (Or.inr k2), e1.2.trans k3⟩ hE hW y hy
  · refine lv_aload_n hx hb dJ7_copyOf_6403c_38 rfl (lv_at hl 0 rfl) ?_
    exact kr_a F hr hlk hE hW hS (Nat.le_of_ble_eq_true rfl) (by simp) (Or.inr ⟨_, rfl⟩) (Or.inr ⟨_, rfl⟩) dJ7_copyOf_6403c_39 (⟨ad1, dm1, ct2, _, rfl, rfl, ⟨fun z hz => ⟨(hN.1 z hz).1, (hf2 z hz).trans (hN.1 z hz).2⟩, hc2, hN.2.2⟩, fun j hj => by rw [pk_cpy_in (by omega) (by omega)]; congr 1; omega⟩)
set_option maxRecDepth 100000 in
set_option maxHeartbeats 4000000 in
theorem c_J7_copyOf_1904c (l : Launch) (G : GG) (A : Nat → Prop) (ad : Lb → Nat) (dm : Lb → Prop) (ct : Lb → va_E) (cp n : Nat) (f : Nat → Option Nat) (hcn : cp ≤ n) (hn : n ≤ 800) (hD3 : dm (0, 3)) (hD6 : ¬ dm (6, 0)) (hR : ct (0, 3) = .inl (G.2.1 4, cp, .inr (.inr (.inr (.inr f))))) (hel : ∀ j, j < cp → isP1 ad dm ct (f j)) :
    CT l yJ7_copyOf_1904c cJ7_copyOf_1904c 2 (some (FieldType.array (FieldType.object "java/lang/Object"))) { frames := 4, cells := 1, slots := n, locals := 63 } [.ref (ad (0, 3)), .int (nI n)] G A (ad, dm, ct) (fun v w' => ∃ ad' dm' ct' g, w' = (ad', dm', ct') ∧ v = some (.ref (ad' (6, 0))) ∧ NW (6, 0) (.inl (G.2.1 4, n, .inr (.inr (.inr (.inr g))))) ad dm ct ad' dm' ct' ∧ ∀ j, j < cp → g j = f j) (fun _ => False) (1) (n) := by
  refine ct_of (by decide) (Nat.le_of_ble_eq_true rfl) ?_
  intro p e s m below meth c ls F hr hlk hnm hex hE hW hl
  have hx := F.1
  have hb := F.2.1
  have hS : va_S A s.heap s.heap [] := va_S.rf
  have hl : lv_has ls 2 [(0, .ref (ad (0, 3))), (1, .int (nI n))] := hl
  refine lv_aload_n hx hb dJ7_copyOf_1904c_0 rfl (lv_at hl 0 rfl) ?_
  refine lv_iload_n hx hb dJ7_copyOf_1904c_1 rfl (lv_at hl 1 rfl) ?_
  refine lv_aload_n hx hb dJ7_copyOf_1904c_2 rfl (lv_at hl 0 rfl) ?_
  have hM := hE.2.1.2.2.2.2.1
  refine va_getC hx hb (F.2.2.1.trans hl.1.symm) F.2.2.2.1 (F.2.2.2.2 _ kw_251) (va_Nw.use rfl (hE.2.1.1 _ kn_848)) (F.2.2.2.2 _ kw_847) (F.2.2.2.2 _ kw_252) (F.2.2.2.2 _ kw_262) hM ?_ (Nat.le_of_ble_eq_true rfl) (Nat.le_of_ble_eq_true rfl) dJ7_copyOf_1904c_3 ?_
  · have he1 : s.heap[ad (0, 3)]? = some (vp_cell (G.2.1 4) (cp, .inr (.inr (.inr (.inr f))))) := by have h := hW.1 (0, 3) hD3; dsimp only at h; rw [hR] at h; exact h
    obtain ⟨kA, comp, k1, k2, k3, k4⟩ := (hE.1.2 4 _ rfl).2
    exact ⟨_, he1, rfl, k4⟩
  · refine kc_S 3 (c_J7_copyOf_6403c l G A ad dm ct cp n f hcn hn hD3 hD6 hR hel) F hE hW hS kw_263 kw_264 kw_13 kw_265 (by decide +kernel) rfl ⟨rfl, rfl⟩ ⟨Nat.le_of_ble_eq_true rfl, Nat.le_of_ble_eq_true rfl⟩ hl.1 rfl (Nat.le_of_ble_eq_true rfl) dJ7_copyOf_1904c_6 ⟨Nat.le_of_ble_eq_true rfl, by simp⟩ (fun _ _ _ _ _ h => h.elim) (fun v w' H locs hp hW hS => ?_)
    obtain ⟨ad1, dm1, ct1, g, rfl, rfl, hN, hg⟩ := hp
    exact kr_a F hr hlk hE hW hS (Nat.le_of_ble_eq_true rfl) (by simp) (Or.inr ⟨_, rfl⟩) (Or.inr ⟨_, rfl⟩) dJ7_copyOf_1904c_9 (⟨ad1, dm1, ct1, g, rfl, rfl, hN, hg⟩)
end
section
/-! The list: a new element. -/
set_option maxRecDepth 100000 in
set_option maxHeartbeats 4000000 in
theorem c_Jx4a65c_grow_92f84 (l : Launch) (G : GG) (A : Nat → Prop) (ad : Lb → Nat) (dm : Lb → Prop) (ct : Lb → va_E) (mcn : Int32) (sz cap : Nat) (f : Nat → Option Nat) (hL : LL G ad dm ct mcn sz cap f) (h512 : sz ≤ 512) (hD6 : ¬ dm (6, 0)) (hel : ∀ j, j < sz → isP1 ad dm ct (f j)) (hfull : sz = cap) :
    CT l yJx4a65c_grow_92f84 cJx4a65c_grow_92f84 4 (some (FieldType.array (FieldType.object "java/lang/Object"))) { frames := 8, cells := 1, slots := 800, locals := 145 } [.ref (ad (0, 2)), .int (nI (sz + 1))] G A (ad, dm, ct) (fun v w' => ∃ ad' dm' ct' cap' g, w' = (ad', dm', ct') ∧ v = some (.ref (ad' (0, 3))) ∧ dm' (0, 3) ∧ sz < cap' ∧ 10 ≤ cap' ∧ cap' ≤ 800 ∧ ct' (0, 2) = LO mcn (ad' (0, 3)) sz ∧ ct' (0, 3) = .inl (G.2.1 4, cap', .inr (.inr (.inr (.inr g)))) ∧ (∀ j, j < sz → g j = f j) ∧ XL ad dm ct ad' dm' ct') (fun _ => False) (1) (800) := by
  refine ct_of (by decide) (Nat.le_of_ble_eq_true rfl) ?_
  intro p e s m below meth c ls F hr hlk hnm hex hE hW hl
  have hx := F.1
  have hb := F.2.1
  have hS : va_S A s.heap s.heap [] := va_S.rf
  have hl : lv_has ls 4 [(0, .ref (ad (0, 2))), (1, .int (nI (sz + 1)))] := hl
  obtain ⟨a0, ha0⟩ : ∃ a, ad (0, 2) = a := ⟨_, rfl⟩
  have hl : lv_has ls 4 [(0, .ref a0), (1, .int (nI (sz + 1)))] := by rw [← ha0]; exact hl
  subst hfull
  obtain ⟨hD, ⟨hn3, hz, -, hO⟩ | ⟨hD3, hsc, h10, hcap, hO, hR⟩⟩ := hL
  · refine lv_aload_n hx hb dJx4a65c_grow_92f84_0 rfl (lv_at hl 0 rfl) ?_
    refine kg F hE hW (0, 2) hD ha0 hO rfl inA_JL 1 (by decide) kw_44 (v := .ref G.2.2.1) rfl dJx4a65c_grow_92f84_1 ?_
    refine va_tlen hx hb hE.2.1.2.2.2.2.2.2.2.2.2 hS (v := nI 0) rfl dJx4a65c_grow_92f84_4 ?_
    refine lv_istore_n (lv' := [(2, .int (nI 0)), (0, .ref a0), (1, .int (nI (sz + 1)))]) hx hb dJx4a65c_grow_92f84_5 rfl hl (by decide) rfl (fun ls hl => ?_)
    refine lv_iload_n hx hb dJx4a65c_grow_92f84_6 rfl (lv_at hl 0 rfl) ?_
    refine nz_gt (tgt := 20) hx hb dJx4a65c_grow_92f84_7 (by decide) (by omega) (fun c1 => ?_) (fun c1 => ?_)
    · exact absurd c1 (by omega)
    · refine lv_aload_n hx hb dJx4a65c_grow_92f84_10 rfl (lv_at hl 1 rfl) ?_
      refine kg F hE hW (0, 2) hD ha0 hO rfl inA_JL 1 (by decide) kw_44 (v := .ref G.2.2.1) rfl dJx4a65c_grow_92f84_11 ?_
      refine va_gets hx hb hE.2.1.2.2.2.2.2.2.2.2.1 hS F.2.2.2.1 (F.2.2.2.2 _ kw_42) (fun _ h => h) dJx4a65c_grow_92f84_14 ?_
      refine lv_acmp_eq (rx := some G.2.2.1) (ry := some G.2.2.1) (tgt := 45) hx hb dJx4a65c_grow_92f84_17 (by decide) (fun _ => ?_) (fun h => absurd rfl h)
      refine lv_aload_n hx hb dJx4a65c_grow_92f84_45 rfl (lv_at hl 1 rfl) ?_
      refine lv_bipush (v := nI 10) hx hb dJx4a65c_grow_92f84_46 (by decide) ?_
      refine lv_iload_n hx hb dJx4a65c_grow_92f84_48 rfl (lv_at hl 2 rfl) ?_
      refine va_mmax hx hb (F.2.2.1.trans hl.1.symm) F.2.2.2.1 (F.2.2.2.2 _ kw_273) (F.2.2.2.2 _ kw_242) (F.2.2.2.2 _ kw_12) (F.2.2.2.2 _ kw_243) (Nat.le_of_ble_eq_true rfl) (Nat.le_of_ble_eq_true rfl) (Nat.le_of_ble_eq_true rfl) (Nat.le_of_ble_eq_true rfl) dJx4a65c_grow_92f84_49 ?_
      refine ktop (max_10 (by omega)) ?_
      refine nq (C := "java/lang/Object") 4 F hE hW hS (0, 3) hn3 kw_274 kn_267 rfl 10 rfl (by decide) (by decide) (Nat.le_of_ble_eq_true rfl) (Nat.le_of_ble_eq_true rfl) dJx4a65c_grow_92f84_52 (fun ad1 dm1 ct1 H hW hN hS => ?_)
      have ha1 : ad1 (0, 2) = a0 := (hN.1 _ (by decide)).1.trans ha0
      have hO1 : ct1 (0, 2) = _ := (hN.1 _ (by decide)).2.trans hO
      have hd1 : dm1 (0, 2) := (hN.2.2 _).mpr (Or.inr hD)
      refine lv_dup_x1 hx hb dJx4a65c_grow_92f84_55 rfl rfl ?_
      refine kp F hE hW hS (0, 2) hd1 ha1 hO1 rfl inA_JL tyJx4a65c tyJx4a65c_ok nmJx4a65c 1 (by decide) kw_44 rfl rfl rfl (Nat.le_of_ble_eq_true rfl) dJx4a65c_grow_92f84_56 (fun ct1x H locs hW hc1 hf1 hS => ?_)
      exact kr_a F hr hlk hE hW hS (Nat.le_of_ble_eq_true rfl) (Nat.le_of_ble_eq_true rfl) (Or.inr ⟨_, rfl⟩) (Or.inr ⟨_, rfl⟩) dJx4a65c_grow_92f84_59 (⟨ad1, dm1, ct1x, 10, fun _ => none, rfl, rfl, (hN.2.2 _).mpr (Or.inl rfl), by omega, by omega, by omega, hc1, (hf1 _ (by decide)).trans hN.2.1, fun j hj => by omega, ⟨fun z z2 z3 => ⟨(hN.1 z z3).1, (hf1 z z2).trans (hN.1 z z3).2, by rw [hN.2.2]; simp [z3]⟩, ha1.trans ha0.symm, by rw [hN.2.2]; simp⟩⟩)
  · refine lv_aload_n hx hb dJx4a65c_grow_92f84_0 rfl (lv_at hl 0 rfl) ?_
    refine kg F hE hW (0, 2) hD ha0 hO rfl inA_JL 1 (by decide) kw_44 (v := .ref (ad (0, 3))) rfl dJx4a65c_grow_92f84_1 ?_
    refine kal 4 F hE hW (0, 3) hD3 rfl rfl hR dJx4a65c_grow_92f84_4 ?_
    refine lv_istore_n (lv' := [(2, .int (nI sz)), (0, .ref a0), (1, .int (nI (sz + 1)))]) hx hb dJx4a65c_grow_92f84_5 rfl hl (by decide) rfl (fun ls hl => ?_)
    refine lv_iload_n hx hb dJx4a65c_grow_92f84_6 rfl (lv_at hl 0 rfl) ?_
    refine nz_gt (tgt := 20) hx hb dJx4a65c_grow_92f84_7 (by decide) (by omega) (fun c1 => ?_) (fun c1 => ?_)
    · refine lv_iload_n hx hb dJx4a65c_grow_92f84_20 rfl (lv_at hl 0 rfl) ?_
      refine lv_iload_n hx hb dJx4a65c_grow_92f84_21 rfl (lv_at hl 2 rfl) ?_
      refine lv_iload_n hx hb dJx4a65c_grow_92f84_22 rfl (lv_at hl 0 rfl) ?_
      refine lv_isub hx hb dJx4a65c_grow_92f84_23 ?_
      refine ktop ((pk_sub (by omega)).trans (by rw [Nat.add_sub_cancel_left])) ?_
      refine lv_iload_n hx hb dJx4a65c_grow_92f84_24 rfl (lv_at hl 0 rfl) ?_
      refine lv_iconst (v := nI 1) hx hb dJx4a65c_grow_92f84_25 (by decide) ?_
      refine lv_ishr hx hb dJx4a65c_grow_92f84_26 ?_
      refine ktop (shr1 _ (by omega)) ?_
      refine kc_S 3 (c_J8_newLength_cabcc l G A ad dm ct sz h10 hcap) F hE hW hS kw_238 kw_239 kw_11 kw_240 (by decide +kernel) rfl ⟨rfl, rfl⟩ ⟨Nat.le_of_ble_eq_true rfl, Nat.le_of_ble_eq_true rfl⟩ hl.1 rfl (Nat.le_of_ble_eq_true rfl) dJx4a65c_grow_92f84_27 ⟨Nat.le_of_ble_eq_true rfl, Nat.le_of_ble_eq_true rfl⟩ (fun _ _ _ _ _ h => h.elim) (fun v w' H locs hp hW hS => ?_)
      obtain ⟨rfl, rfl⟩ := hp
      refine lv_istore_n (lv' := [(3, .int (nI (sz + sz / 2))), (2, .int (nI sz)), (0, .ref a0), (1, .int (nI (sz + 1)))]) hx hb dJx4a65c_grow_92f84_30 rfl hl (by decide) rfl (fun ls hl => ?_)
      refine lv_aload_n hx hb dJx4a65c_grow_92f84_31 rfl (lv_at hl 2 rfl) ?_
      refine lv_aload_n hx hb dJx4a65c_grow_92f84_32 rfl (lv_at hl 2 rfl) ?_
      refine kg F hE hW (0, 2) hD ha0 hO rfl inA_JL 1 (by decide) kw_44 (v := .ref (ad (0, 3))) rfl dJx4a65c_grow_92f84_33 ?_
      refine lv_iload_n hx hb dJx4a65c_grow_92f84_36 rfl (lv_at hl 0 rfl) ?_
      refine kc_S 2 (c_J7_copyOf_1904c l G A ad dm ct sz (sz + sz / 2) f (by omega) (by omega) hD3 hD6 hR hel) F hE hW hS kw_248 kw_249 kw_13 kw_250 (by decide +kernel) rfl ⟨rfl, rfl⟩ ⟨Nat.le_of_ble_eq_true rfl, Nat.le_of_ble_eq_true rfl⟩ hl.1 rfl (Nat.le_of_ble_eq_true rfl) dJx4a65c_grow_92f84_37 ⟨Nat.le_of_ble_eq_true rfl, by show 0 + 0 + (sz + sz / 2) ≤ 800; omega⟩ (fun _ _ _ _ _ h => h.elim) (fun v w' H locs hp hW hS => ?_)
      obtain ⟨ad1, dm1, ct1, g, rfl, rfl, hN, hg⟩ := hp
      have ha1 : ad1 (0, 2) = a0 := (hN.1 _ (by decide)).1.trans ha0
      have hO1 : ct1 (0, 2) = _ := (hN.1 _ (by decide)).2.trans hO
      have hd1 : dm1 (0, 2) := (hN.2.2 _).mpr (Or.inr hD)
      refine lv_dup_x1 hx hb dJx4a65c_grow_92f84_40 rfl rfl ?_
      refine kp F hE hW hS (0, 2) hd1 ha1 hO1 rfl inA_JL tyJx4a65c tyJx4a65c_ok nmJx4a65c 1 (by decide) kw_44 rfl rfl rfl (Nat.le_of_ble_eq_true rfl) dJx4a65c_grow_92f84_41 (fun ct2 H locs hW hc2 hf2 hS => ?_)
      have hd6 : dm1 (6, 0) := (hN.2.2 _).mpr (Or.inl rfl)
      have hW := wd_mv (ad0 := ad) (ct0 := fun z => if z = (6, 0) then ct z else ct2 z) (0, 3) (6, 0) hW hd6 (fun z h1 h2 h3 => ⟨((hN.1 z h2).1).symm, if_neg h2⟩)
      refine kr_a F hr hlk hE hW hS (by decide) (by show 0 + 0 + (sz + sz / 2) ≤ 800; omega) (Or.inr ⟨_, rfl⟩) (Or.inr ⟨_, rfl⟩) dJx4a65c_grow_92f84_44 (⟨_, _, _, sz + sz / 2, g, rfl, rfl, Or.inl rfl, by omega, by omega, by omega, hc2, (hf2 _ (by decide)).trans hN.2.1, hg, ⟨fun z z2 z3 => ⟨if_neg z3, ?_, ?_⟩, rfl, ?_⟩⟩)
      · dsimp only; rw [if_neg z3]
        by_cases e6 : z = (6, 0)
        · rw [if_pos e6]
        · rw [if_neg e6]; exact (hf2 z z2).trans (hN.1 z e6).2
      · dsimp only; rw [hN.2.2]; constructor
        · rintro (h | ⟨h | h, h2⟩)
          · exact absurd h z3
          · exact absurd h h2
          · exact h
        · intro h; exact Or.inr ⟨Or.inr h, by rintro rfl; exact hD6 h⟩
      · simp [hN.2.2, hD]
    · exact absurd c1 (by omega)
set_option maxRecDepth 100000 in
set_option maxHeartbeats 4000000 in
theorem c_Jx4a65c_grow_d5877 (l : Launch) (G : GG) (A : Nat → Prop) (ad : Lb → Nat) (dm : Lb → Prop) (ct : Lb → va_E) (mcn : Int32) (sz cap : Nat) (f : Nat → Option Nat) (hL : LL G ad dm ct mcn sz cap f) (h512 : sz ≤ 512) (hD6 : ¬ dm (6, 0)) (hel : ∀ j, j < sz → isP1 ad dm ct (f j)) (hfull : sz = cap) :
    CT l yJx4a65c_grow_d5877 cJx4a65c_grow_d5877 1 (some (FieldType.array (FieldType.object "java/lang/Object"))) { frames := 9, cells := 1, slots := 800, locals := 168 } [.ref (ad (0, 2))] G A (ad, dm, ct) (fun v w' => ∃ ad' dm' ct' cap' g, w' = (ad', dm', ct') ∧ v = some (.ref (ad' (0, 3))) ∧ dm' (0, 3) ∧ sz < cap' ∧ 10 ≤ cap' ∧ cap' ≤ 800 ∧ ct' (0, 2) = LO mcn (ad' (0, 3)) sz ∧ ct' (0, 3) = .inl (G.2.1 4, cap', .inr (.inr (.inr (.inr g)))) ∧ (∀ j, j < sz → g j = f j) ∧ XL ad dm ct ad' dm' ct') (fun _ => False) (1) (800) := by
  refine ct_of (by decide) (Nat.le_of_ble_eq_true rfl) ?_
  intro p e s m below meth c ls F hr hlk hnm hex hE hW hl
  have hx := F.1
  have hb := F.2.1
  have hS : va_S A s.heap s.heap [] := va_S.rf
  have hl : lv_has ls 1 [(0, .ref (ad (0, 2)))] := hl
  have hL0 := hL
  obtain ⟨hD, hsz, E, hO⟩ := hL0.obj
  refine lv_aload_n hx hb dJx4a65c_grow_d5877_0 rfl (lv_at hl 0 rfl) ?_
  refine lv_aload_n hx hb dJx4a65c_grow_d5877_1 rfl (lv_at hl 0 rfl) ?_
  refine kg F hE hW (0, 2) hD rfl hO rfl inA_JL 2 (by decide) kw_45 (v := .int (nI sz)) rfl dJx4a65c_grow_d5877_2 ?_
  refine lv_iconst (v := nI 1) hx hb dJx4a65c_grow_d5877_5 (by decide) ?_
  refine lv_iadd hx hb dJx4a65c_grow_d5877_6 ?_
  refine ktop (nI_add _ _) ?_
  refine kc_V 1 (c_Jx4a65c_grow_92f84 l G A ad dm ct mcn sz cap f hL h512 hD6 hel hfull) F hE hW hS (0, 2) hD hO rfl [.int (nI (sz + 1))] rfl kw_234 kw_236 kp_9 kw_4 kw_237 (by decide +kernel) rfl ⟨rfl, rfl⟩ ⟨Nat.le_of_ble_eq_true rfl, Nat.le_of_ble_eq_true rfl⟩ hl.1 rfl (Nat.le_of_ble_eq_true rfl) dJx4a65c_grow_d5877_7 ⟨Nat.le_of_ble_eq_true rfl, Nat.le_of_ble_eq_true rfl⟩ (fun _ _ _ _ _ h => h.elim) (fun v w' H locs hp hW hS => ?_)
  obtain ⟨ad1, dm1, ct1, cap1, g, rfl, rfl, hp⟩ := hp
  exact kr_a F hr hlk hE hW hS (Nat.le_of_ble_eq_true rfl) (Nat.le_of_ble_eq_true rfl) (Or.inr ⟨_, rfl⟩) (Or.inr ⟨_, rfl⟩) dJx4a65c_grow_d5877_10 (⟨ad1, dm1, ct1, cap1, g, rfl, rfl, hp⟩)
set_option maxRecDepth 100000 in
set_option maxHeartbeats 4000000 in
theorem c_add3A (l : Launch) (G : GG) (A : Nat → Prop) (ad : Lb → Nat) (dm : Lb → Prop) (ct : Lb → va_E) (mcn : Int32) (sz cap : Nat) (f : Nat → Option Nat) (hL : LL G ad dm ct mcn sz cap f) (h512 : sz ≤ 512) (hD6 : ¬ dm (6, 0)) (hel : ∀ j, j < sz → isP1 ad dm ct (f j)) (e0 : Nat) (he0 : isP1 ad dm ct (some e0)) (hnf : sz < cap) :
    CT l yJx4a65c_add_72be8 cJx4a65c_add_72be8 4 none { frames := 10, cells := 1, slots := 800, locals := 188 } [.ref (ad (0, 2)), .ref e0, .ref (ad (0, 3)), .int (nI sz)] G A (ad, dm, ct) (fun v w' => ∃ ad' dm' ct' cap' g, w' = (ad', dm', ct') ∧ v = none ∧ LL G ad' dm' ct' mcn (sz + 1) cap' g ∧ (∀ j, j < sz → g j = f j) ∧ g sz = some e0 ∧ XL ad dm ct ad' dm' ct') (fun _ => False) (1) (800) := by
  refine ct_of (by decide) (Nat.le_of_ble_eq_true rfl) ?_
  intro p e s m below meth c ls F hr hlk hnm hex hE hW hl
  have hx := F.1
  have hb := F.2.1
  have hS : va_S A s.heap s.heap [] := va_S.rf
  have hl : lv_has ls 4 [(0, .ref (ad (0, 2))), (1, .ref e0), (2, .ref (ad (0, 3))), (3, .int (nI sz))] := hl
  obtain ⟨a0, ha0⟩ : ∃ a, ad (0, 2) = a := ⟨_, rfl⟩
  have hl : lv_has ls 4 [(0, .ref a0), (1, .ref e0), (2, .ref (ad (0, 3))), (3, .int (nI sz))] := by rw [← ha0]; exact hl
  obtain ⟨hD, ⟨-, hz, hz2, -⟩ | ⟨hD3, hsc, h10, hcap, hO, hR⟩⟩ := hL
  · omega
  · refine lv_iload_n hx hb dJx4a65c_add_72be8_0 rfl (lv_at hl 3 rfl) ?_
    refine lv_aload_n hx hb dJx4a65c_add_72be8_1 rfl (lv_at hl 2 rfl) ?_
    refine kal 4 F hE hW (0, 3) hD3 rfl rfl hR dJx4a65c_add_72be8_2 ?_
    refine nc_ne (tgt := 11) hx hb dJx4a65c_add_72be8_3 (by decide) (by omega) (by omega) (fun c1 => ?_) (fun c1 => ?_)
    · refine lv_aload_n hx hb dJx4a65c_add_72be8_11 rfl (lv_at hl 2 rfl) ?_
      refine lv_iload_n hx hb dJx4a65c_add_72be8_12 rfl (lv_at hl 3 rfl) ?_
      refine lv_aload_n hx hb dJx4a65c_add_72be8_13 rfl (lv_at hl 1 rfl) ?_
      refine ks_o F hE hW hS (0, 3) hD3 rfl hR (he0.any hE hW _ rfl) sz rfl hnf (by omega) dJx4a65c_add_72be8_14 (fun ct5 H locs hW hc5 hf5 hS => ?_)
      have hO5 : ct5 (0, 2) = _ := (hf5 _ (by decide)).trans hO
      refine lv_aload_n hx hb dJx4a65c_add_72be8_15 rfl (lv_at hl 0 rfl) ?_
      refine lv_iload_n hx hb dJx4a65c_add_72be8_16 rfl (lv_at hl 3 rfl) ?_
      refine lv_iconst (v := nI 1) hx hb dJx4a65c_add_72be8_17 (by decide) ?_
      refine lv_iadd hx hb dJx4a65c_add_72be8_18 ?_
      refine ktop (nI_add _ _) ?_
      refine kp F hE hW hS (0, 2) hD ha0 hO5 rfl inA_JL tyJx4a65c tyJx4a65c_ok nmJx4a65c 2 (by decide) kw_45 rfl rfl rfl (Nat.le_of_ble_eq_true rfl) dJx4a65c_add_72be8_19 (fun ct1 H locs hW hc1 hf1 hS => ?_)
      exact kr_v F hr hlk hE hW hS (Nat.le_of_ble_eq_true rfl) (Nat.le_of_ble_eq_true rfl) dJx4a65c_add_72be8_22 (⟨ad, dm, ct1, cap, _, rfl, rfl, ⟨hD, Or.inr ⟨hD3, by omega, h10, hcap, hc1, (hf1 _ (by decide)).trans hc5⟩⟩, fun j hj => va_up_ne _ _ (by omega), va_up_self _ _ _, (XL.put (Or.inr rfl) hf5).tr (XL.put (Or.inl rfl) hf1)⟩)
    · exact absurd c1 (by omega)
set_option maxRecDepth 100000 in
set_option maxHeartbeats 4000000 in
theorem c_add3B (l : Launch) (G : GG) (A : Nat → Prop) (ad : Lb → Nat) (dm : Lb → Prop) (ct : Lb → va_E) (mcn : Int32) (sz cap : Nat) (f : Nat → Option Nat) (hL : LL G ad dm ct mcn sz cap f) (h512 : sz ≤ 512) (hD6 : ¬ dm (6, 0)) (hel : ∀ j, j < sz → isP1 ad dm ct (f j)) (e0 : Nat) (he0 : isP1 ad dm ct (some e0)) (hfull : sz = cap) (E : Nat) (hE0 : ct (0, 2) = LO mcn E sz) :
    CT l yJx4a65c_add_72be8 cJx4a65c_add_72be8 4 none { frames := 10, cells := 1, slots := 800, locals := 188 } [.ref (ad (0, 2)), .ref e0, .ref E, .int (nI sz)] G A (ad, dm, ct) (fun v w' => ∃ ad' dm' ct' cap' g, w' = (ad', dm', ct') ∧ v = none ∧ LL G ad' dm' ct' mcn (sz + 1) cap' g ∧ (∀ j, j < sz → g j = f j) ∧ g sz = some e0 ∧ XL ad dm ct ad' dm' ct') (fun _ => False) (1) (800) := by
  refine ct_of (by decide) (Nat.le_of_ble_eq_true rfl) ?_
  intro p e s m below meth c ls F hr hlk hnm hex hE hW hl
  have hx := F.1
  have hb := F.2.1
  have hS : va_S A s.heap s.heap [] := va_S.rf
  have hl : lv_has ls 4 [(0, .ref (ad (0, 2))), (1, .ref e0), (2, .ref E), (3, .int (nI sz))] := hl
  obtain ⟨a0, ha0⟩ : ∃ a, ad (0, 2) = a := ⟨_, rfl⟩
  have hl : lv_has ls 4 [(0, .ref a0), (1, .ref e0), (2, .ref E), (3, .int (nI sz))] := by rw [← ha0]; exact hl
  refine lv_iload_n hx hb dJx4a65c_add_72be8_0 rfl (lv_at hl 3 rfl) ?_
  refine lv_aload_n hx hb dJx4a65c_add_72be8_1 rfl (lv_at hl 2 rfl) ?_
  have hL0 := hL
  obtain ⟨hD, ⟨hn3, hz, -, hO⟩ | ⟨hD3, hsc, h10, hcap, hO, hR⟩⟩ := hL
  · have hEe : E = G.2.2.1 := by rw [hO] at hE0; simp [LO] at hE0; exact hE0.symm
    subst hEe
    refine va_tlen hx hb hE.2.1.2.2.2.2.2.2.2.2.2 hS (v := nI sz) (by rw [hz]; rfl) dJx4a65c_add_72be8_2 ?_
    refine nc_ne (tgt := 11) hx hb dJx4a65c_add_72be8_3 (by decide) (by omega) (by omega) (fun c1 => ?_) (fun c1 => ?_)
    · exact absurd rfl c1
    · refine lv_aload_n hx hb dJx4a65c_add_72be8_6 rfl (lv_at hl 0 rfl) ?_
      refine kc_Va 0 (c_Jx4a65c_grow_d5877 l G A ad dm ct mcn sz cap f hL0 h512 hD6 hel hfull) F hE hW hS (0, 2) hD hE0 ha0 rfl [] rfl kw_230 kw_232 kp_8 kw_4 kw_233 (by decide +kernel) rfl ⟨rfl, rfl⟩ ⟨Nat.le_of_ble_eq_true rfl, Nat.le_of_ble_eq_true rfl⟩ hl.1 rfl (Nat.le_of_ble_eq_true rfl) dJx4a65c_add_72be8_7 ⟨Nat.le_of_ble_eq_true rfl, Nat.le_of_ble_eq_true rfl⟩ (fun _ _ _ _ _ h => h.elim) (fun v w' H locs hp hW hS => ?_)
      obtain ⟨ad1, dm1, ct1, cap1, g, rfl, rfl, hd3, hlt, h10', h8', hO1, hR1, hg, hX⟩ := hp
      have ha1 : ad1 (0, 2) = a0 := hX.2.1.trans ha0
      have hd1 : dm1 (0, 2) := hX.2.2.mpr hD
      have he1 := he0.xl hX
      refine lv_astore_n (lv' := [(2, .ref (ad1 (0, 3))), (0, .ref a0), (1, .ref e0), (3, .int (nI sz))]) hx hb dJx4a65c_add_72be8_10 rfl hl (by decide) rfl (fun ls hl => ?_)
      refine lv_aload_n hx hb dJx4a65c_add_72be8_11 rfl (lv_at hl 0 rfl) ?_
      refine lv_iload_n hx hb dJx4a65c_add_72be8_12 rfl (lv_at hl 3 rfl) ?_
      refine lv_aload_n hx hb dJx4a65c_add_72be8_13 rfl (lv_at hl 2 rfl) ?_
      refine ks_o F hE hW hS (0, 3) hd3 rfl hR1 (he1.any hE hW _ rfl) sz rfl hlt (by omega) dJx4a65c_add_72be8_14 (fun ct5 H locs hW hc5 hf5 hS => ?_)
      have hO5 : ct5 (0, 2) = _ := (hf5 _ (by decide)).trans hO1
      refine lv_aload_n hx hb dJx4a65c_add_72be8_15 rfl (lv_at hl 1 rfl) ?_
      refine lv_iload_n hx hb dJx4a65c_add_72be8_16 rfl (lv_at hl 3 rfl) ?_
      refine lv_iconst (v := nI 1) hx hb dJx4a65c_add_72be8_17 (by decide) ?_
      refine lv_iadd hx hb dJx4a65c_add_72be8_18 ?_
      refine ktop (nI_add _ _) ?_
      refine kp F hE hW hS (0, 2) hd1 ha1 hO5 rfl inA_JL tyJx4a65c tyJx4a65c_ok nmJx4a65c 2 (by decide) kw_45 rfl rfl rfl (Nat.le_of_ble_eq_true rfl) dJx4a65c_add_72be8_19 (fun ct7 H locs hW hc7 hf7 hS => ?_)
      exact kr_v F hr hlk hE hW hS (Nat.le_of_ble_eq_true rfl) (Nat.le_of_ble_eq_true rfl) dJx4a65c_add_72be8_22 (⟨ad1, dm1, ct7, cap1, _, rfl, rfl, ⟨hd1, Or.inr ⟨hd3, by omega, h10', h8', hc7, (hf7 _ (by decide)).trans hc5⟩⟩, fun j hj => (va_up_ne _ _ (by omega)).trans (hg j hj), va_up_self _ _ _, hX.tr ((XL.put (Or.inr rfl) hf5).tr (XL.put (Or.inl rfl) hf7))⟩)
  · have hEe : E = ad (0, 3) := by rw [hO] at hE0; simp [LO] at hE0; exact hE0.symm
    subst hEe
    subst hfull
    refine kal 4 F hE hW (0, 3) hD3 rfl rfl hR dJx4a65c_add_72be8_2 ?_
    refine nc_ne (tgt := 11) hx hb dJx4a65c_add_72be8_3 (by decide) (by omega) (by omega) (fun c1 => ?_) (fun c1 => ?_)
    · exact absurd rfl c1
    · refine lv_aload_n hx hb dJx4a65c_add_72be8_6 rfl (lv_at hl 0 rfl) ?_
      refine kc_Va 0 (c_Jx4a65c_grow_d5877 l G A ad dm ct mcn sz sz f hL0 h512 hD6 hel rfl) F hE hW hS (0, 2) hD hE0 ha0 rfl [] rfl kw_230 kw_232 kp_8 kw_4 kw_233 (by decide +kernel) rfl ⟨rfl, rfl⟩ ⟨Nat.le_of_ble_eq_true rfl, Nat.le_of_ble_eq_true rfl⟩ hl.1 rfl (Nat.le_of_ble_eq_true rfl) dJx4a65c_add_72be8_7 ⟨Nat.le_of_ble_eq_true rfl, Nat.le_of_ble_eq_true rfl⟩ (fun _ _ _ _ _ h => h.elim) (fun v w' H locs hp hW hS => ?_)
      obtain ⟨ad1, dm1, ct1, cap1, g, rfl, rfl, hd3, hlt, h10', h8', hO1, hR1, hg, hX⟩ := hp
      have ha1 : ad1 (0, 2) = a0 := hX.2.1.trans ha0
      have hd1 : dm1 (0, 2) := hX.2.2.mpr hD
      have he1 := he0.xl hX
      refine lv_astore_n (lv' := [(2, .ref (ad1 (0, 3))), (0, .ref a0), (1, .ref e0), (3, .int (nI sz))]) hx hb dJx4a65c_add_72be8_10 rfl hl (by decide) rfl (fun ls hl => ?_)
      refine lv_aload_n hx hb dJx4a65c_add_72be8_11 rfl (lv_at hl 0 rfl) ?_
      refine lv_iload_n hx hb dJx4a65c_add_72be8_12 rfl (lv_at hl 3 rfl) ?_
      refine lv_aload_n hx hb dJx4a65c_add_72be8_13 rfl (lv_at hl 2 rfl) ?_
      refine ks_o F hE hW hS (0, 3) hd3 rfl hR1 (he1.any hE hW _ rfl) sz rfl hlt (by omega) dJx4a65c_add_72be8_14 (fun ct5 H locs hW hc5 hf5 hS => ?_)
      have hO5 : ct5 (0, 2) = _ := (hf5 _ (by decide)).trans hO1
      refine lv_aload_n hx hb dJx4a65c_add_72be8_15 rfl (lv_at hl 1 rfl) ?_
      refine lv_iload_n hx hb dJx4a65c_add_72be8_16 rfl (lv_at hl 3 rfl) ?_
      refine lv_iconst (v := nI 1) hx hb dJx4a65c_add_72be8_17 (by decide) ?_
      refine lv_iadd hx hb dJx4a65c_add_72be8_18 ?_
      refine ktop (nI_add _ _) ?_
      refine kp F hE hW hS (0, 2) hd1 ha1 hO5 rfl inA_JL tyJx4a65c tyJx4a65c_ok nmJx4a65c 2 (by decide) kw_45 rfl rfl rfl (Nat.le_of_ble_eq_true rfl) dJx4a65c_add_72be8_19 (fun ct7 H locs hW hc7 hf7 hS => ?_)
      exact kr_v F hr hlk hE hW hS (Nat.le_of_ble_eq_true rfl) (Nat.le_of_ble_eq_true rfl) dJx4a65c_add_72be8_22 (⟨ad1, dm1, ct7, cap1, _, rfl, rfl, ⟨hd1, Or.inr ⟨hd3, by omega, h10', h8', hc7, (hf7 _ (by decide)).trans hc5⟩⟩, fun j hj => (va_up_ne _ _ (by omega)).trans (hg j hj), va_up_self _ _ _, hX.tr ((XL.put (Or.inr rfl) hf5).tr (XL.put (Or.inl rfl) hf7))⟩)
set_option maxRecDepth 100000 in
set_option maxHeartbeats 4000000 in
theorem c_Jx4a65c_add_9ea2d (l : Launch) (G : GG) (A : Nat → Prop) (ad : Lb → Nat) (dm : Lb → Prop) (ct : Lb → va_E) (mcn : Int32) (sz cap : Nat) (f : Nat → Option Nat) (hL : LL G ad dm ct mcn sz cap f) (h512 : sz ≤ 512) (hD6 : ¬ dm (6, 0)) (hel : ∀ j, j < sz → isP1 ad dm ct (f j)) (e0 : Nat) (he0 : isP1 ad dm ct (some e0)) :
    CT l yJx4a65c_add_9ea2d cJx4a65c_add_9ea2d 2 (some FieldType.boolean) { frames := 11, cells := 1, slots := 800, locals := 211 } [.ref (ad (0, 2)), .ref e0] G A (ad, dm, ct) (fun v w' => ∃ ad' dm' ct' cap' g, w' = (ad', dm', ct') ∧ v = some (.int (nI 1)) ∧ LL G ad' dm' ct' (mcn + nI 1) (sz + 1) cap' g ∧ (∀ j, j < sz → g j = f j) ∧ g sz = some e0 ∧ XL ad dm ct ad' dm' ct') (fun _ => False) (1) (800) := by
  refine ct_of (by decide) (Nat.le_of_ble_eq_true rfl) ?_
  intro p e s m below meth c ls F hr hlk hnm hex hE hW hl
  have hx := F.1
  have hb := F.2.1
  have hS : va_S A s.heap s.heap [] := va_S.rf
  have hl : lv_has ls 2 [(0, .ref (ad (0, 2))), (1, .ref e0)] := hl
  have hL0 := hL
  obtain ⟨hD, hsz8, E, hO⟩ := hL0.obj
  refine lv_aload_n hx hb dJx4a65c_add_9ea2d_0 rfl (lv_at hl 0 rfl) ?_
  refine lv_dup hx hb dJx4a65c_add_9ea2d_1 rfl ?_
  refine kgS F hE hW (0, 2) hD rfl hO rfl inA_JL 0 (by decide) kw_47 (fun x9 h9 => u_same (F.2.2.2.2 _ kw_48) x9 h9) (v := .int mcn) rfl dJx4a65c_add_9ea2d_2 ?_
  refine lv_iconst (v := nI 1) hx hb dJx4a65c_add_9ea2d_5 (by decide) ?_
  refine lv_iadd hx hb dJx4a65c_add_9ea2d_6 ?_
  refine kpS F hE hW hS (0, 2) hD rfl hO rfl inA_JL tyJx4a65c tyJx4a65c_ok nmJx4a65c 0 (by decide) kw_47 (fun x9 h9 => u_same (F.2.2.2.2 _ kw_48) x9 h9) rfl rfl rfl (Nat.le_of_ble_eq_true rfl) dJx4a65c_add_9ea2d_7 (fun ct1 H locs hW hc1 hf1 hS => ?_)
  refine lv_aload_n hx hb dJx4a65c_add_9ea2d_10 rfl (lv_at hl 0 rfl) ?_
  refine lv_aload_n hx hb dJx4a65c_add_9ea2d_11 rfl (lv_at hl 1 rfl) ?_
  refine lv_aload_n hx hb dJx4a65c_add_9ea2d_12 rfl (lv_at hl 0 rfl) ?_
  refine kg F hE hW (0, 2) hD rfl hc1 rfl inA_JL 1 (by decide) kw_44 (v := .ref E) rfl dJx4a65c_add_9ea2d_13 ?_
  refine lv_aload_n hx hb dJx4a65c_add_9ea2d_16 rfl (lv_at hl 0 rfl) ?_
  refine kg F hE hW (0, 2) hD rfl hc1 rfl inA_JL 2 (by decide) kw_45 (v := .int (nI sz)) rfl dJx4a65c_add_9ea2d_17 ?_
  have hX0 : XL ad dm ct ad dm ct1 := XL.put (Or.inl rfl) hf1
  have hel1 : ∀ j, j < sz → isP1 ad dm ct1 (f j) := fun j hj => (hel j hj).xl hX0
  have he1 := he0.xl hX0
  have hL1 : LL G ad dm ct1 (mcn + nI 1) sz cap f := by
    obtain ⟨q1, ⟨q2, q3, q4, q5⟩ | ⟨q2, q3, q4, q5, q6, q7⟩⟩ := hL
    · have hEe : E = G.2.2.1 := by rw [q5] at hO; simp [LO] at hO; exact hO.symm
      exact ⟨q1, Or.inl ⟨q2, q3, q4, by rw [hEe] at hc1; exact hc1⟩⟩
    · have hEe : E = ad (0, 3) := by rw [q6] at hO; simp [LO] at hO; exact hO.symm
      exact ⟨q1, Or.inr ⟨q2, q3, q4, q5, by rw [hEe] at hc1; exact hc1, (hf1 _ (by decide)).trans q7⟩⟩
  rcases Nat.lt_or_ge sz cap with hq | hq
  · have hEe : E = ad (0, 3) := by
      obtain ⟨q1, ⟨q2, q3, q4, q5⟩ | ⟨q2, q3, q4, q5, q6, q7⟩⟩ := hL
      · omega
      · rw [q6] at hO; simp [LO] at hO; exact hO.symm
    subst hEe
    refine kc_V 3 (c_add3A l G A ad dm ct1 (mcn + nI 1) sz cap f hL1 h512 hD6 hel1 e0 he1 hq) F hE hW hS (0, 2) hD hc1 rfl [.ref e0, .ref (ad (0, 3)), .int (nI sz)] rfl kw_226 kw_228 kp_7 kw_4 kw_229 (by decide +kernel) rfl ⟨rfl, rfl⟩ ⟨Nat.le_of_ble_eq_true rfl, Nat.le_of_ble_eq_true rfl⟩ hl.1 rfl (Nat.le_of_ble_eq_true rfl) dJx4a65c_add_9ea2d_20 ⟨Nat.le_of_ble_eq_true rfl, Nat.le_of_ble_eq_true rfl⟩ (fun _ _ _ _ _ h => h.elim) (fun v w' H locs hp hW hS => ?_)
    obtain ⟨ad1, dm1, ct2, cap1, g, rfl, rfl, hL2, hg, hgs, hX⟩ := hp
    refine lv_iconst (v := nI 1) hx hb dJx4a65c_add_9ea2d_23 (by decide) ?_
    exact kr_z F hr hlk hE hW hS (Nat.le_of_ble_eq_true rfl) (Nat.le_of_ble_eq_true rfl) rfl dJx4a65c_add_9ea2d_24 (⟨ad1, dm1, ct2, cap1, g, rfl, rfl, hL2, hg, hgs, hX0.tr hX⟩)
  · have hfull : sz = cap := by
      obtain ⟨q1, ⟨q2, q3, q4, q5⟩ | ⟨q2, q3, q4, q5, q6, q7⟩⟩ := hL <;> omega
    refine kc_V 3 (c_add3B l G A ad dm ct1 (mcn + nI 1) sz cap f hL1 h512 hD6 hel1 e0 he1 hfull E hc1) F hE hW hS (0, 2) hD hc1 rfl [.ref e0, .ref E, .int (nI sz)] rfl kw_226 kw_228 kp_7 kw_4 kw_229 (by decide +kernel) rfl ⟨rfl, rfl⟩ ⟨Nat.le_of_ble_eq_true rfl, Nat.le_of_ble_eq_true rfl⟩ hl.1 rfl (Nat.le_of_ble_eq_true rfl) dJx4a65c_add_9ea2d_20 ⟨Nat.le_of_ble_eq_true rfl, Nat.le_of_ble_eq_true rfl⟩ (fun _ _ _ _ _ h => h.elim) (fun v w' H locs hp hW hS => ?_)
    obtain ⟨ad1, dm1, ct2, cap1, g, rfl, rfl, hL2, hg, hgs, hX⟩ := hp
    refine lv_iconst (v := nI 1) hx hb dJx4a65c_add_9ea2d_23 (by decide) ?_
    exact kr_z F hr hlk hE hW hS (Nat.le_of_ble_eq_true rfl) (Nat.le_of_ble_eq_true rfl) rfl dJx4a65c_add_9ea2d_24 (⟨ad1, dm1, ct2, cap1, g, rfl, rfl, hL2, hg, hgs, hX0.tr hX⟩)
set_option maxRecDepth 100000 in
set_option maxHeartbeats 4000000 in
theorem c_Jxa1e45_init_da8c8 (l : Launch) (G : GG) (A : Nat → Prop) (ad : Lb → Nat) (dm : Lb → Prop) (ct : Lb → va_E) (a : Nat) :
    CT l yJxa1e45_init_da8c8 cJxa1e45_init_da8c8 1 none { frames := 1, cells := 0, slots := 0, locals := 12 } [.ref a] G A (ad, dm, ct) (fun v w' => (ad, dm, ct) = w' ∧ v = none) (fun _ => False) (0) (0) := by
  refine ct_of (by decide) (Nat.le_of_ble_eq_true rfl) ?_
  intro p e s m below meth c ls F hr hlk hnm hex hE hW hl
  have hx := F.1
  have hb := F.2.1
  have hS : va_S A s.heap s.heap [] := va_S.rf
  have hl : lv_has ls 1 [(0, .ref a)] := hl
  refine lv_aload_n hx hb dJxa1e45_init_da8c8_0 rfl (lv_at hl 0 rfl) ?_
  refine W.objInit hx hb F.2.2.2.1 (F.2.2.2.2 _ kw_41) (F.2.2.2.2 _ kw_26) (F.2.2.2.2 _ kw_27) rfl (by rw [F.2.2.1]; exact hl.1) rfl dJxa1e45_init_da8c8_1 (Nat.le_of_ble_eq_true rfl) (Nat.le_of_ble_eq_true rfl) ?_
  exact kr_v F hr hlk hE hW hS (Nat.le_of_ble_eq_true rfl) (Nat.le_of_ble_eq_true rfl) dJxa1e45_init_da8c8_4 (⟨rfl, rfl⟩)
set_option maxRecDepth 100000 in
set_option maxHeartbeats 4000000 in
theorem c_Jxc12de_init_da8c8 (l : Launch) (G : GG) (A : Nat → Prop) (ad : Lb → Nat) (dm : Lb → Prop) (ct : Lb → va_E) (hD : dm (0, 2)) (hO : ct (0, 2) = .inr (0, [.int 0, .null, .int 0])) :
    CT l yJxc12de_init_da8c8 cJxc12de_init_da8c8 1 none { frames := 2, cells := 0, slots := 0, locals := 32 } [.ref (ad (0, 2))] G A (ad, dm, ct) (fun v w' => ∃ ct', w' = (ad, dm, ct') ∧ v = none ∧ ct' (0, 2) = .inr (0, [.int (nI 0), .null, .int 0]) ∧ (∀ z, z ≠ (0, 2) → ct' z = ct z)) (fun _ => False) (0) (0) := by
  refine ct_of (by decide) (Nat.le_of_ble_eq_true rfl) ?_
  intro p e s m below meth c ls F hr hlk hnm hex hE hW hl
  have hx := F.1
  have hb := F.2.1
  have hS : va_S A s.heap s.heap [] := va_S.rf
  have hl : lv_has ls 1 [(0, .ref (ad (0, 2)))] := hl
  refine lv_aload_n hx hb dJxc12de_init_da8c8_0 rfl (lv_at hl 0 rfl) ?_
  refine kc_I 0 (c_Jxa1e45_init_da8c8 l G A ad dm ct (ad (0, 2))) (As := []) rfl F hE hW hS kw_38 kw_39 kw_2 kw_40 rfl (by decide +kernel) rfl ⟨rfl, rfl⟩ ⟨(Nat.le_of_ble_eq_true rfl), (Nat.le_of_ble_eq_true rfl)⟩ hl.1 rfl (Nat.le_of_ble_eq_true rfl) dJxc12de_init_da8c8_1 ⟨(Nat.le_of_ble_eq_true rfl), (Nat.le_of_ble_eq_true rfl)⟩ (fun _ _ _ _ _ h => h.elim) (fun v w' H locs hp hW hS => ?_)
  obtain ⟨rfl, rfl⟩ := hp
  refine lv_aload_n hx hb dJxc12de_init_da8c8_4 rfl (lv_at hl 0 rfl) ?_
  refine lv_iconst (v := nI 0) hx hb dJxc12de_init_da8c8_5 (by decide) ?_
  refine kp F hE hW hS (0, 2) hD rfl hO rfl inA_JL tyJx4a65c tyJx4a65c_ok nmJx4a65c 0 (by decide) kw_46 rfl rfl rfl (Nat.le_of_ble_eq_true rfl) dJxc12de_init_da8c8_6 (fun ct1 H locs hW hc1 hf1 hS => ?_)
  exact kr_v F hr hlk hE hW hS (Nat.le_of_ble_eq_true rfl) (Nat.le_of_ble_eq_true rfl) dJxc12de_init_da8c8_9 (⟨ct1, rfl, rfl, hc1, hf1⟩)
set_option maxRecDepth 100000 in
set_option maxHeartbeats 4000000 in
theorem c_Jx4a65c_init_da8c8 (l : Launch) (G : GG) (A : Nat → Prop) (ad : Lb → Nat) (dm : Lb → Prop) (ct : Lb → va_E) (hD : dm (0, 2)) (hO : ct (0, 2) = .inr (0, [.int 0, .null, .int 0])) (hD3 : ¬ dm (0, 3)) :
    CT l yJx4a65c_init_da8c8 cJx4a65c_init_da8c8 1 none { frames := 3, cells := 0, slots := 0, locals := 52 } [.ref (ad (0, 2))] G A (ad, dm, ct) (fun v w' => ∃ ct', w' = (ad, dm, ct') ∧ v = none ∧ LL G ad dm ct' (nI 0) 0 0 (fun _ => none) ∧ (∀ z, z ≠ (0, 2) → ct' z = ct z)) (fun _ => False) (0) (0) := by
  refine ct_of (by decide) (Nat.le_of_ble_eq_true rfl) ?_
  intro p e s m below meth c ls F hr hlk hnm hex hE hW hl
  have hx := F.1
  have hb := F.2.1
  have hS : va_S A s.heap s.heap [] := va_S.rf
  have hl : lv_has ls 1 [(0, .ref (ad (0, 2)))] := hl
  refine lv_aload_n hx hb dJx4a65c_init_da8c8_0 rfl (lv_at hl 0 rfl) ?_
  refine kc_I 0 (c_Jxc12de_init_da8c8 l G A ad dm ct hD hO) (As := []) rfl F hE hW hS kw_35 kw_36 kw_3 kw_37 rfl (by decide +kernel) rfl ⟨rfl, rfl⟩ ⟨(Nat.le_of_ble_eq_true rfl), (Nat.le_of_ble_eq_true rfl)⟩ hl.1 rfl (Nat.le_of_ble_eq_true rfl) dJx4a65c_init_da8c8_1 ⟨(Nat.le_of_ble_eq_true rfl), (Nat.le_of_ble_eq_true rfl)⟩ (fun _ _ _ _ _ h => h.elim) (fun v w' H locs hp hW hS => ?_)
  obtain ⟨ct2, rfl, rfl, hO2, hf2⟩ := hp
  refine lv_aload_n hx hb dJx4a65c_init_da8c8_4 rfl (lv_at hl 0 rfl) ?_
  refine va_gets hx hb hE.2.1.2.2.2.2.2.2.2.2.1 hS F.2.2.2.1 (F.2.2.2.2 _ kw_42) (fun _ h => h) dJx4a65c_init_da8c8_5 ?_
  refine kp F hE hW hS (0, 2) hD rfl hO2 rfl inA_JL tyJx4a65c tyJx4a65c_ok nmJx4a65c 1 (by decide) kw_44 rfl rfl rfl (Nat.le_of_ble_eq_true rfl) dJx4a65c_init_da8c8_8 (fun ct3 H locs hW hc3 hf3 hS => ?_)
  exact kr_v F hr hlk hE hW hS (Nat.le_of_ble_eq_true rfl) (Nat.le_of_ble_eq_true rfl) dJx4a65c_init_da8c8_11 (⟨ct3, rfl, rfl, ⟨hD, Or.inl ⟨hD3, rfl, rfl, hc3⟩⟩, fun z hz => (hf3 z hz).trans (hf2 z hz)⟩)
end
section
/-! The state: pages by their numbers (as the reference's arrays hold them), and what the calls do to it. -/
abbrev SG : Type := (Nat → Bool) × (Nat → Nat) × (Nat → Nat) × (Nat → Nat) × (Nat → Option Nat) × (Nat → Nat) × (Nat → Nat) × (Nat → Nat) × (Nat → Option Nat) × Nat × Nat × (Nat → Nat) × Nat × Nat × (Nat → Bool) × (Nat → Nat) × (Nat → Nat) × (Nat → Nat) × Nat × Nat
/-- one more than the last place whose key is less than c -/
def cnt : Nat → (Nat → Nat) → Nat → Nat
  | 0, _, _ => 0
  | n + 1, f, c => if f n < c then n + 1 else cnt n f c
theorem cnt_le (n : Nat) (f : Nat → Nat) (c : Nat) : cnt n f c ≤ n := by
  induction n with
  | zero => exact Nat.le_refl _
  | succ n ih => unfold cnt; split <;> omega
theorem cnt_ge (n : Nat) (f : Nat → Nat) (c : Nat) : ∀ k, cnt n f c ≤ k → k < n → c ≤ f k := by
  induction n with
  | zero => intro k _ h; omega
  | succ n ih =>
    intro k h1 h2
    unfold cnt at h1
    split at h1
    · omega
    · rcases Nat.lt_or_ge k n with q | q
      · exact ih k h1 q
      · have : k = n := by omega
        subst this; omega
theorem cnt_lt (n : Nat) (f : Nat → Nat) (c : Nat) (h : 0 < cnt n f c) : f (cnt n f c - 1) < c := by
  induction n with
  | zero => simp [cnt] at h
  | succ n ih =>
    unfold cnt at h ⊢
    split
    · simpa using ‹f n < c›
    · rename_i hn
      rw [if_neg hn] at h
      exact ih h
/-- in rising keys: the number of those less than c -/
theorem cnt_eq (n : Nat) (f : Nat → Nat) (c q : Nat) (hq : q ≤ n) (h1 : ∀ k, k < q → f k < c) (h2 : ∀ k, q ≤ k → k < n → c ≤ f k) : cnt n f c = q := by
  have a := cnt_le n f c
  rcases Nat.lt_trichotomy (cnt n f c) q with h | h | h
  · have := cnt_ge n f c (cnt n f c) (Nat.le_refl _) (by omega)
    have := h1 _ h
    omega
  · exact h
  · have := cnt_lt n f c (by omega)
    have := h2 (cnt n f c - 1) (by omega) (by omega)
    omega
theorem cnt_congr {n : Nat} {f g : Nat → Nat} {c : Nat} (h : ∀ k, k < n → f k = g k) : cnt n f c = cnt n g c := by
  induction n with
  | zero => rfl
  | succ n ih => unfold cnt; rw [h n (by omega), ih (fun k hk => h k (by omega))]
/-- the keys of page p -/
abbrev pk (ky : Nat → Nat) (p : Nat) : Nat → Nat := fun k => ky (5 * p + k)
/-- the step down from page p for a key to a level: the next page -/
def nxt (lev hi : Nat → Nat) (ri : Nat → Option Nat) (sz ky vl : Nat → Nat) (key lvl p : Nat) : Option Nat :=
  if hi p ≤ key then ri p else if lvl < lev p then some (vl (5 * p + (cnt (sz p) (pk ky p) (key + 1) - 1))) else none
def dnF (lev hi : Nat → Nat) (ri : Nat → Option Nat) (sz ky vl : Nat → Nat) (key lvl : Nat) : Nat → Nat → Nat × Nat
  | 0, p => (p, 0)
  | f + 1, p => match nxt lev hi ri sz ky vl key lvl p with
    | none => (p, 0)
    | some r => ((dnF lev hi ri sz ky vl key lvl f r).1, (if hi p ≤ key then 1 else 0) + (dnF lev hi ri sz ky vl key lvl f r).2)
/-- where one comes to, going down for a key to a level; and how many right links are followed -/
def dn (s : SG) (key lvl : Nat) : Nat × Nat := match s with
  | (lv, lev, lo, hi, ri, sz, ky, vl, go, rt, ep, wq, wn, cn, op, cl, ca, ce, kc, nb) => dnF lev hi ri sz ky vl key lvl 2000 rt
/-- the lowest number that no page has -/
def frF (lv : Nat → Bool) : Nat → Nat → Nat
  | 0, n => n
  | f + 1, n => if lv n = true then frF lv f (n + 1) else n
def fr (lv : Nat → Bool) : Nat := frF lv 800 0
/-- a value x put at place c of page p, that has n -/
def insA (f : Nat → Nat) (p c n x : Nat) : Nat → Nat := fun i => if i = 5 * p + c then x else if 5 * p + c < i ∧ i ≤ 5 * p + n then f (i - 1) else f i
def delA (f : Nat → Nat) (p j n : Nat) : Nat → Nat := fun i => if 5 * p + j ≤ i ∧ i + 1 < 5 * p + n then f (i + 1) else f i
def insS (s : SG) (p x v : Nat) : SG := match s with
  | (lv, lev, lo, hi, ri, sz, ky, vl, go, rt, ep, wq, wn, cn, op, cl, ca, ce, kc, nb) => (lv, lev, lo, hi, ri, va_up sz p (sz p + 1), insA ky p (cnt (sz p) (pk ky p) (x + 1)) (sz p) x, insA vl p (cnt (sz p) (pk ky p) (x + 1)) (sz p) v, go, rt, ep, wq, wn, cn, op, cl, ca, ce, kc, nb)
def splS (s : SG) (p m : Nat) : SG := match s with
  | (lv, lev, lo, hi, ri, sz, ky, vl, go, rt, ep, wq, wn, cn, op, cl, ca, ce, kc, nb) => (va_up lv m true, va_up lev m (lev p), va_up lo m (ky (5 * p + 3)), va_up (va_up hi m (hi p)) p (ky (5 * p + 3)), va_up (va_up ri m (ri p)) p (some m), va_up (va_up sz m 2) p 3, va_up (va_up ky (5 * m) (ky (5 * p + 3))) (5 * m + 1) (ky (5 * p + 4)), va_up (va_up vl (5 * m) (vl (5 * p + 3))) (5 * m + 1) (vl (5 * p + 4)), va_up go m none, rt, ep, va_up wq wn m, wn + 1, cn, op, cl, ca, ce, kc, nb + 1)
def addS (s : SG) (p x v : Nat) : SG := match s with
  | (lv, lev, lo, hi, ri, sz, ky, vl, go, rt, ep, wq, wn, cn, op, cl, ca, ce, kc, nb) => if sz p = 4 then splS (insS (lv, lev, lo, hi, ri, sz, ky, vl, go, rt, ep, wq, wn, cn, op, cl, ca, ce, kc, nb) p x v) p (fr lv) else insS (lv, lev, lo, hi, ri, sz, ky, vl, go, rt, ep, wq, wn, cn, op, cl, ca, ce, kc, nb) p x v
def popS (s : SG) : SG := match s with
  | (lv, lev, lo, hi, ri, sz, ky, vl, go, rt, ep, wq, wn, cn, op, cl, ca, ce, kc, nb) => (lv, lev, lo, hi, ri, sz, ky, vl, go, rt, ep, fun i => if i < wn - 1 then wq (i + 1) else wq i, wn - 1, cn, op, cl, ca, ce, kc, nb)
def groS (s : SG) (w m : Nat) : SG := match s with
  | (lv, lev, lo, hi, ri, sz, ky, vl, go, rt, ep, wq, wn, cn, op, cl, ca, ce, kc, nb) => (va_up lv m true, va_up lev m (lev w + 1), va_up lo m 0, va_up hi m 200, va_up ri m none, va_up sz m 2, va_up (va_up ky (5 * m) 0) (5 * m + 1) (lo w), va_up (va_up vl (5 * m) rt) (5 * m + 1) w, va_up go m none, m, ep, wq, wn, cn, op, cl, ca, ce, kc, nb + 1)
/-- the split that waits the longest is posted -/
def posS (s : SG) : SG := match s with
  | (lv, lev, lo, hi, ri, sz, ky, vl, go, rt, ep, wq, wn, cn, op, cl, ca, ce, kc, nb) => if lev (wq 0) = lev rt then groS (popS (lv, lev, lo, hi, ri, sz, ky, vl, go, rt, ep, wq, wn, cn, op, cl, ca, ce, kc, nb)) (wq 0) (fr lv) else addS (popS (lv, lev, lo, hi, ri, sz, ky, vl, go, rt, ep, wq, wn, cn, op, cl, ca, ce, kc, nb)) (dn (popS (lv, lev, lo, hi, ri, sz, ky, vl, go, rt, ep, wq, wn, cn, op, cl, ca, ce, kc, nb)) (lo (wq 0)) (lev (wq 0) + 1)).1 (lo (wq 0)) (wq 0)
def waits (s : SG) : Nat := match s with
  | (lv, lev, lo, hi, ri, sz, ky, vl, go, rt, ep, wq, wn, cn, op, cl, ca, ce, kc, nb) => wn
/-- all posted: the state, and how many -/
def paS : Nat → SG → SG × Nat
  | 0, s => (s, 0)
  | f + 1, s => if waits s = 0 then (s, 0) else ((paS f (posS s)).1, (paS f (posS s)).2 + 1)
/-- the key at place j of the leaf p goes -/
def remS (s : SG) (p j : Nat) : SG := match s with
  | (lv, lev, lo, hi, ri, sz, ky, vl, go, rt, ep, wq, wn, cn, op, cl, ca, ce, kc, nb) => (lv, lev, lo, hi, ri, va_up sz p (sz p - 1), delA ky p j (sz p), delA vl p j (sz p), go, rt, ep, wq, wn, cn, op, cl, ca, ce, kc, nb)
def setS (s : SG) (p j v : Nat) : SG := match s with
  | (lv, lev, lo, hi, ri, sz, ky, vl, go, rt, ep, wq, wn, cn, op, cl, ca, ce, kc, nb) => (lv, lev, lo, hi, ri, sz, ky, va_up vl (5 * p + j) v, go, rt, ep, wq, wn, cn, op, cl, ca, ce, kc, nb)
def kcS (s : SG) (k : Nat) : SG := match s with
  | (lv, lev, lo, hi, ri, sz, ky, vl, go, rt, ep, wq, wn, cn, op, cl, ca, ce, kc, nb) => (lv, lev, lo, hi, ri, sz, ky, vl, go, rt, ep, wq, wn, cn, op, cl, ca, ce, k, nb)
/-- the entry at place j of page p goes, its leaf is dead, q links to what the leaf linked to -/
def touS (s : SG) (p j q : Nat) : SG := match s with
  | (lv, lev, lo, hi, ri, sz, ky, vl, go, rt, ep, wq, wn, cn, op, cl, ca, ce, kc, nb) => (lv, lev, lo, va_up hi q (hi (vl (5 * p + j))), va_up ri q (ri (vl (5 * p + j))), va_up sz p (sz p - 1), delA ky p j (sz p), delA vl p j (sz p), va_up go (vl (5 * p + j)) (some ep), rt, ep + 1, wq, wn, cn, op, cl, ca, ce, kc, nb)
end
section
/-! What holds between the calls; going down. -/
def sumN : Nat → (Nat → Nat) → Nat
  | 0, _ => 0
  | n + 1, f => sumN n f + f n
theorem sumN_congr {n : Nat} {f g : Nat → Nat} (h : ∀ k, k < n → f k = g k) : sumN n f = sumN n g := by
  induction n with
  | zero => rfl
  | succ n ih => unfold sumN; rw [ih (fun k hk => h k (by omega)), h n (by omega)]
theorem sumN_up {n : Nat} {f : Nat → Nat} {k v : Nat} (hk : k < n) : sumN n (va_up f k v) + f k = sumN n f + v := by
  induction n with
  | zero => omega
  | succ n ih =>
    unfold sumN
    rcases Nat.lt_or_ge k n with q | q
    · have := ih q
      rw [va_up_ne _ _ (by omega)]; omega
    · have e : k = n := by omega
      subst e
      rw [va_up_self, sumN_congr (g := f) (fun j hj => va_up_ne _ _ (by omega))]; omega
/-- how much of a page's size counts -/
def exF (lv : Nat → Bool) (sz : Nat → Nat) : Nat → Nat := fun n => if lv n = true then sz n - 2 else 0
def kcF (lv : Nat → Bool) (lev sz : Nat → Nat) : Nat → Nat := fun n => if lv n = true ∧ lev n = 0 then sz n else 0
/-- a page that is there and not dead -/
abbrev Al (lv : Nat → Bool) (go : Nat → Option Nat) (n : Nat) : Prop := lv n = true ∧ go n = none
/-- the pages (o: the one that may hold five) -/
def PgI (lv : Nat → Bool) (lev lo hi : Nat → Nat) (ri : Nat → Option Nat) (sz ky vl : Nat → Nat) (go : Nat → Option Nat) (rt ep nb o : Nat) : Prop :=
  (∀ n, lv n = true → n < nb ∧ lev n ≤ lev rt ∧ lo n < hi n ∧ hi n ≤ 200 ∧ sz n ≤ (if n = o then 5 else 4)) ∧
  (∀ n, lv n = true → ∀ k, k < sz n → lo n ≤ ky (5 * n + k) ∧ ky (5 * n + k) < hi n ∧ vl (5 * n + k) < 10000 ∧ ∀ j, j < k → ky (5 * n + j) < ky (5 * n + k)) ∧
  (∀ n, lv n = true → ri n = none → hi n = 200) ∧
  (∀ n r, lv n = true → ri n = some r → lv r = true ∧ lev r = lev n ∧ lo r = hi n ∧ (go n = none → go r = none) ∧ ∀ a b, go n = some a → go r = some b → a < b) ∧
  (∀ n m, Al lv go n → Al lv go m → lev n = lev m → n ≠ m → hi n ≤ lo m ∨ hi m ≤ lo n) ∧
  (∀ n, Al lv go n → 0 < lev n → 1 ≤ sz n ∧ ky (5 * n) = lo n ∧ ∀ k, k < sz n → Al lv go (vl (5 * n + k)) ∧ lev (vl (5 * n + k)) + 1 = lev n ∧ lo (vl (5 * n + k)) = ky (5 * n + k)) ∧
  (∀ n e, lv n = true → go n = some e → lev n = 0 ∧ sz n = 0 ∧ e < ep) ∧
  (Al lv go rt ∧ lo rt = 0) ∧ (Al lv go 0 ∧ lev 0 = 0 ∧ lo 0 = 0) ∧ lev rt < nb
def WqI (lv : Nat → Bool) (lev lo : Nat → Nat) (sz vl : Nat → Nat) (go : Nat → Option Nat) (rt : Nat) (wq : Nat → Nat) (wn : Nat) : Prop :=
  ∀ i, i < wn → Al lv go (wq i) ∧ wq i ≠ rt ∧ (∀ n k, Al lv go n → 0 < lev n → k < sz n → vl (5 * n + k) ≠ wq i) ∧ ∀ j, j < i → wq j ≠ wq i
def CuI (lv : Nat → Bool) (lev : Nat → Nat) (go : Nat → Option Nat) (ep cn : Nat) (op : Nat → Bool) (cl ca ce : Nat → Nat) : Prop :=
  cn ≤ 20 ∧ ∀ c, c < cn → ca c ≤ 200 ∧ ce c ≤ ep ∧ (op c = true → lv (cl c) = true ∧ lev (cl c) = 0 ∧ ∀ e, go (cl c) = some e → ce c ≤ e)
/-- all of it; t: how many calls were made -/
def InvF (lv : Nat → Bool) (lev : Nat → Nat) (lo : Nat → Nat) (hi : Nat → Nat) (ri : Nat → Option Nat) (sz : Nat → Nat) (ky : Nat → Nat) (vl : Nat → Nat) (go : Nat → Option Nat) (rt : Nat) (ep : Nat) (wq : Nat → Nat) (wn : Nat) (cn : Nat) (op : Nat → Bool) (cl : Nat → Nat) (ca : Nat → Nat) (ce : Nat → Nat) (kc : Nat) (nb : Nat) (o t : Nat) : Prop :=
  PgI lv lev lo hi ri sz ky vl go rt ep nb o ∧ WqI lv lev lo sz vl go rt wq wn ∧ CuI lv lev go ep cn op cl ca ce ∧
  kc = sumN 800 (kcF lv lev sz) ∧ nb + sumN 800 (exF lv sz) + wn ≤ 1 + t ∧ t ≤ 512 ∧ ep ≤ t ∧ kc ≤ t
def Inv (s : SG) (t : Nat) : Prop := match s with
  | (lv, lev, lo, hi, ri, sz, ky, vl, go, rt, ep, wq, wn, cn, op, cl, ca, ce, kc, nb) => InvF lv lev lo hi ri sz ky vl go rt ep wq wn cn op cl ca ce kc nb 800 t
/-- on the way down -/
def VP (lv : Nat → Bool) (lev lo : Nat → Nat) (go : Nat → Option Nat) (key lvl p : Nat) : Prop := Al lv go p ∧ lo p ≤ key ∧ lvl ≤ lev p
def mu (lev lo : Nat → Nat) (p : Nat) : Nat := 200 + lev p - lo p
section DN
variable {lv : Nat → Bool} {lev lo hi : Nat → Nat} {ri : Nat → Option Nat} {sz ky vl : Nat → Nat} {go : Nat → Option Nat} {rt ep : Nat} {wq : Nat → Nat} {wn cn : Nat} {op : Nat → Bool} {cl ca ce : Nat → Nat} {kc nb : Nat} {o key lvl p : Nat}
theorem nxt_vp (hP : PgI lv lev lo hi ri sz ky vl go rt ep nb o) (hk : key < 200) (hv : VP lv lev lo go key lvl p) :
    (nxt lev hi ri sz ky vl key lvl p = none ∧ lev p = lvl ∧ key < hi p) ∨ ∃ r, nxt lev hi ri sz ky vl key lvl p = some r ∧ VP lv lev lo go key lvl r ∧ mu lev lo r < mu lev lo p ∧ ((hi p ≤ key ∧ ri p = some r ∧ lev r = lev p) ∨ (key < hi p ∧ lvl < lev p ∧ lev r < lev p ∧ 0 < cnt (sz p) (pk ky p) (key + 1) ∧ r = vl (5 * p + (cnt (sz p) (pk ky p) (key + 1) - 1)))) := by
  obtain ⟨p1, p2, p3, p4, p5, p6, p7, p8, p9, p10⟩ := hP
  obtain ⟨⟨v1, v2⟩, v3, v4⟩ := hv
  obtain ⟨a1, a2, a3, a4, a5⟩ := p1 p v1
  unfold nxt
  by_cases c : hi p ≤ key
  · rw [if_pos c]
    cases hr : ri p with
    | none => have := p3 p v1 hr; omega
    | some r =>
      obtain ⟨b1, b2, b3, b4, b5⟩ := p4 p r v1 hr
      exact Or.inr ⟨r, rfl, ⟨⟨b1, b4 v2⟩, by omega, by omega⟩, by unfold mu; omega, Or.inl ⟨c, rfl, b2⟩⟩
  · rw [if_neg c]
    by_cases c2 : lvl < lev p
    · rw [if_pos c2]
      obtain ⟨b1, b2, b3⟩ := p6 p ⟨v1, v2⟩ (by omega)
      have hc0 : 0 < cnt (sz p) (pk ky p) (key + 1) := by
        rcases Nat.eq_zero_or_pos (cnt (sz p) (pk ky p) (key + 1)) with h | h
        · have := cnt_ge (sz p) (pk ky p) (key + 1) 0 (by omega) (by omega)
          simp only [pk, Nat.add_zero] at this
          omega
        · exact h
      have hle := cnt_le (sz p) (pk ky p) (key + 1)
      have hlt := cnt_lt (sz p) (pk ky p) (key + 1) hc0
      have hsz : sz p ≤ 5 := by split at a5 <;> omega
      obtain ⟨d1, d2, d3⟩ := b3 (cnt (sz p) (pk ky p) (key + 1) - 1) (by omega)
      obtain ⟨e1, -⟩ := p2 p v1 (cnt (sz p) (pk ky p) (key + 1) - 1) (by omega)
      simp only [pk] at hlt
      exact Or.inr ⟨_, rfl, ⟨d1, by rw [d3]; omega, by omega⟩, by unfold mu; rw [d3]; omega, Or.inr ⟨by omega, c2, by omega, hc0, rfl⟩⟩
    · rw [if_neg c2]
      exact Or.inl ⟨rfl, by omega, by omega⟩
theorem dnF_fuel (hP : PgI lv lev lo hi ri sz ky vl go rt ep nb o) (hk : key < 200) : ∀ (f g p : Nat), VP lv lev lo go key lvl p → mu lev lo p < f → mu lev lo p < g → dnF lev hi ri sz ky vl key lvl f p = dnF lev hi ri sz ky vl key lvl g p := by
  intro f
  induction f with
  | zero => intro g p _ h; omega
  | succ f ih =>
    intro g p hv h1 h2
    cases g with
    | zero => omega
    | succ g =>
      unfold dnF
      rcases nxt_vp hP hk hv with ⟨hn, -, -⟩ | ⟨r, hn, hr, hm, -⟩
      · rw [hn]
      · rw [hn]
        dsimp only
        rw [ih g r hr (by omega) (by omega)]
theorem dnF_at (hP : PgI lv lev lo hi ri sz ky vl go rt ep nb o) (hk : key < 200) : ∀ (f p : Nat), VP lv lev lo go key lvl p → mu lev lo p < f → Al lv go (dnF lev hi ri sz ky vl key lvl f p).1 ∧ lev (dnF lev hi ri sz ky vl key lvl f p).1 = lvl ∧ lo (dnF lev hi ri sz ky vl key lvl f p).1 ≤ key ∧ key < hi (dnF lev hi ri sz ky vl key lvl f p).1 := by
  intro f
  induction f with
  | zero => intro p _ h; omega
  | succ f ih =>
    intro p hv h1
    unfold dnF
    rcases nxt_vp hP hk hv with ⟨hn, h2, h3⟩ | ⟨r, hn, hr, hm, -⟩
    · rw [hn]; exact ⟨hv.1, h2, hv.2.1, h3⟩
    · rw [hn]; exact ih r hr (by omega)
theorem vp_root (hP : PgI lv lev lo hi ri sz ky vl go rt ep nb o) (hl : lvl ≤ lev rt) : VP lv lev lo go key lvl rt := by
  obtain ⟨p1, p2, p3, p4, p5, p6, p7, ⟨p8, p8'⟩, p9, p10⟩ := hP
  exact ⟨p8, by omega, hl⟩
theorem mu_root (hP : PgI lv lev lo hi ri sz ky vl go rt ep nb o) (hn : nb ≤ 513) : mu lev lo rt < 800 := by
  obtain ⟨p1, p2, p3, p4, p5, p6, p7, p8, p9, p10⟩ := hP
  unfold mu; omega
/-- the page for a key at a level is one alone -/
theorem at_one (hP : PgI lv lev lo hi ri sz ky vl go rt ep nb o) {n m : Nat} (hn : Al lv go n) (hm : Al lv go m) (hl : lev n = lev m) (h1 : lo n ≤ key) (h2 : key < hi n) (h3 : lo m ≤ key) (h4 : key < hi m) : n = m := by
  obtain ⟨p1, p2, p3, p4, p5, p6, p7, p8, p9, p10⟩ := hP
  by_cases e : n = m
  · exact e
  · rcases p5 n m hn hm hl e with h | h <;> omega
theorem frF_spec : ∀ (f n : Nat), (∃ j, n ≤ j ∧ j < n + f ∧ lv j = false) → (∀ j, j < n → lv j = true) → lv (frF lv f n) = false ∧ (∀ j, j < frF lv f n → lv j = true) ∧ frF lv f n < n + f := by
  intro f
  induction f with
  | zero => rintro n ⟨j, h1, h2, h3⟩ _; omega
  | succ f ih =>
    rintro n ⟨j, h1, h2, h3⟩ h4
    unfold frF
    by_cases c : lv n = true
    · rw [if_pos c]
      have hj : j ≠ n := by rintro rfl; rw [c] at h3; cases h3
      obtain ⟨a, b, d⟩ := ih (n + 1) ⟨j, by omega, by omega, h3⟩ (fun k hk => by
        rcases Nat.lt_or_ge k n with q | q
        · exact h4 k q
        · have : k = n := by omega
          subst this; exact c)
      exact ⟨a, b, by omega⟩
    · rw [if_neg c]
      exact ⟨by simpa using c, h4, by omega⟩
theorem fr_spec (hP : PgI lv lev lo hi ri sz ky vl go rt ep nb o) (hn : nb ≤ 513) : lv (fr lv) = false ∧ (∀ j, j < fr lv → lv j = true) ∧ fr lv ≤ nb := by
  have hb : lv nb = false := by
    cases h : lv nb with
    | false => rfl
    | true => have := (hP.1 nb h).1; omega
  obtain ⟨a, b, d⟩ := frF_spec (lv := lv) 800 0 ⟨nb, Nat.zero_le _, by omega, hb⟩ (fun j hj => by omega)
  refine ⟨a, b, ?_⟩
  rcases Nat.lt_or_ge nb (fr lv) with q | q
  · have := b nb q
    rw [hb] at this; cases this
  · exact q
end DN
end
section
/-! The reference's world: the labels (10, 0) its object, (10, 1..14) its arrays. -/
def oI (r : Option Nat) : Int32 := match r with
  | none => -1
  | some x => nI x
def bI (b : Bool) : Int32 := if b = true then nI 1 else nI 0
/-- one less -/
def lI (c : Nat) : Int32 := nI c - nI 1
theorem lI_s (k : Nat) : lI (k + 1) = nI k := by unfold lI; rw [pk_sub (by omega)]; rfl
theorem lI_0 : lI 0 = -1 := by decide
theorem lI_toInt {c : Nat} (h : c < 2 ^ 31) : (lI c).toInt = (c : Int) - 1 := by
  cases c with
  | zero => decide
  | succ k => rw [lI_s, nI_toInt (by omega)]; omega
theorem lI_eq {a b : Nat} (ha : a < 2 ^ 31) (hb : b < 2 ^ 31) : lI a = lI b ↔ a = b := by
  constructor
  · intro h
    have := congrArg Int32.toInt h
    rw [lI_toInt ha, lI_toInt hb] at this; omega
  · rintro rfl; rfl
theorem lI_nI_le {a b : Nat} (ha : a < 2 ^ 31) (hb : b < 2 ^ 31) : nI a ≤ lI b ↔ a < b := by
  rw [Int32.le_iff_toInt_le, nI_toInt ha, lI_toInt hb]; omega
theorem bI_t : bI true = nI 1 := rfl
theorem bI_f : bI false = nI 0 := rfl
theorem bI_0 {b : Bool} : bI b = nI 0 ↔ b = false := by cases b <;> decide
theorem oI_s {x : Nat} : oI (some x) = nI x := rfl
theorem oI_n : oI none = -1 := rfl
theorem up_nI {f : Nat → Nat} {j v : Nat} : va_up (fun n => nI (f n)) j (nI v) = fun n => nI (va_up f j v n) := by
  funext n; by_cases h : n = j <;> simp [va_up, h]
theorem up_oI {f : Nat → Option Nat} {j : Nat} {v : Option Nat} : va_up (fun n => oI (f n)) j (oI v) = fun n => oI (va_up f j v n) := by
  funext n; by_cases h : n = j <;> simp [va_up, h]
theorem up_lI {f : Nat → Nat} {j v : Nat} : va_up (fun n => lI (f n)) j (lI v) = fun n => lI (va_up f j v n) := by
  funext n; by_cases h : n = j <;> simp [va_up, h]
theorem up_bI {f : Nat → Bool} {j : Nat} {v : Bool} : va_up (fun n => bI (f n)) j (bI v) = fun n => bI (va_up f j v n) := by
  funext n; by_cases h : n = j <;> simp [va_up, h]
/-- nothing changed but the reference's -/
def XM (ct ct1 : Lb → va_E) : Prop := ∀ x : Lb, x.1 ≠ 10 → ct1 x = ct x
theorem XM.rf {ct : Lb → va_E} : XM ct ct := fun _ _ => rfl
theorem XM.tr {ct ct1 ct2 : Lb → va_E} (h1 : XM ct ct1) (h2 : XM ct1 ct2) : XM ct ct2 := fun x hx => (h2 x hx).trans (h1 x hx)
theorem XM.of {k : Nat} {ct ct1 : Lb → va_E} (h : ∀ z : Lb, z ≠ (10, k) → ct1 z = ct z) : XM ct ct1 := fun x hx => h x (by rintro rfl; exact hx rfl)
theorem lb_ne2 {j k : Nat} (h : j ≠ k) : ((10, j) : Lb) ≠ (10, k) := fun e => h (congrArg Prod.snd e)
def MF (ad : Lb → Nat) (th rt ep wn cn fo : Nat) : List Value := [.int (nI th), .ref (ad (10, 1)), .ref (ad (10, 2)), .ref (ad (10, 3)), .ref (ad (10, 4)), .ref (ad (10, 5)), .ref (ad (10, 6)), .ref (ad (10, 7)), .ref (ad (10, 8)), .ref (ad (10, 9)), .int (nI rt), .int (nI ep), .ref (ad (10, 10)), .int (nI wn), .int (nI cn), .ref (ad (10, 11)), .ref (ad (10, 12)), .ref (ad (10, 13)), .ref (ad (10, 14)), .int (nI fo)]
def MDF (G : GG) (ad : Lb → Nat) (dm : Lb → Prop) (ct : Lb → va_E) (lv : Nat → Bool) (lev : Nat → Nat) (lo : Nat → Nat) (hi : Nat → Nat) (ri : Nat → Option Nat) (sz : Nat → Nat) (ky : Nat → Nat) (vl : Nat → Nat) (go : Nat → Option Nat) (rt : Nat) (ep : Nat) (wq : Nat → Nat) (wn : Nat) (cn : Nat) (op : Nat → Bool) (cl : Nat → Nat) (ca : Nat → Nat) (ce : Nat → Nat) (kc : Nat) (nb : Nat) (th fo : Nat) : Prop :=
  (∀ k, k < 15 → dm (10, k)) ∧
  ct (10, 0) = .inr (4, MF ad th rt ep wn cn fo) ∧
  ct (10, 1) = .inl (G.2.1 1, 800, .inl (fun n => bI (lv n))) ∧
  ct (10, 2) = .inl (G.2.1 0, 800, .inl (fun n => nI (lev n))) ∧
  ct (10, 3) = .inl (G.2.1 0, 800, .inl (fun n => nI (lo n))) ∧
  ct (10, 4) = .inl (G.2.1 0, 800, .inl (fun n => nI (hi n))) ∧
  ct (10, 5) = .inl (G.2.1 0, 800, .inl (fun n => oI (ri n))) ∧
  ct (10, 6) = .inl (G.2.1 0, 800, .inl (fun n => nI (sz n))) ∧
  ct (10, 7) = .inl (G.2.1 0, 4000, .inl (fun n => nI (ky n))) ∧
  ct (10, 8) = .inl (G.2.1 0, 4000, .inl (fun n => nI (vl n))) ∧
  ct (10, 9) = .inl (G.2.1 0, 800, .inl (fun n => oI (go n))) ∧
  ct (10, 10) = .inl (G.2.1 0, 800, .inl (fun n => nI (wq n))) ∧
  ct (10, 11) = .inl (G.2.1 1, 20, .inl (fun n => bI (op n))) ∧
  ct (10, 12) = .inl (G.2.1 0, 20, .inl (fun n => nI (cl n))) ∧
  ct (10, 13) = .inl (G.2.1 0, 20, .inl (fun n => lI (ca n))) ∧
  ct (10, 14) = .inl (G.2.1 0, 20, .inl (fun n => nI (ce n)))
def MD (G : GG) (ad : Lb → Nat) (dm : Lb → Prop) (ct : Lb → va_E) (s : SG) (th fo : Nat) : Prop := match s with
  | (lv, lev, lo, hi, ri, sz, ky, vl, go, rt, ep, wq, wn, cn, op, cl, ca, ce, kc, nb) => MDF G ad dm ct lv lev lo hi ri sz ky vl go rt ep wq wn cn op cl ca ce kc nb th fo
section MR
variable {p : Program} {l : Launch} {e : Env} {R : Room} {s : State} {m : MethodId} {args : Array Value} {below : List Frame} {meth : Method} {c : Code} {H : Heap} {locs : List Loc} {cells slots : Nat} {Q : State → Prop}
variable {cc : ByteArray} {pc nL index : Nat} {ls : Array Slot} {rest : List Value} {own : String} {G : GG} {A : Nat → Prop} {ad : Lb → Nat} {dm : Lb → Prop} {ct : Lb → va_E}
variable {lv : Nat → Bool} {lev lo hi : Nat → Nat} {ri : Nat → Option Nat} {sz ky vl : Nat → Nat} {go : Nat → Option Nat} {rt ep : Nat} {wq : Nat → Nat} {wn cn : Nat} {op : Nat → Bool} {cl ca ce : Nat → Nat} {kc nb : Nat} {th fo : Nat}
theorem ms_lv {i : Int32} {v : Bool} (F : Fx p m c cc nL s args own) (hE : VE G A s) (hW : wd G A (ad, dm, ct) H) (hS : va_S A s.heap H locs) (hM : MDF G ad dm ct lv lev lo hi ri sz ky vl go rt ep wq wn cn op cl ca ce kc nb th fo) (j : Nat) (hi0 : i = nI j) (hj : j < 800) (hdg : decode cc pc = .ok (.bastore, 1))
    (kk : ∀ (ct1 : Lb → va_E) (H1 : Heap) (locs1 : List Loc), wd G A (ad, dm, ct1) H1 → MDF G ad dm ct1 (va_up lv j v) lev lo hi ri sz ky vl go rt ep wq wn cn op cl ca ce kc nb th fo → XM ct ct1 → va_S A s.heap H1 locs1 → W p l e R s m args below meth c H1 locs1 cells slots Q (F0 m (pc + 1) ls rest)) :
    W p l e R s m args below meth c H locs cells slots Q (F0 m pc ls (.int (bI v) :: .int i :: .ref (ad (10, 1)) :: rest)) :=
  ks_z (v := bI v) (v' := bI v) F hE hW hS (10, 1) (hM.1 1 (by decide)) rfl hM.2.2.1 j hi0 hj (by decide) (by cases v <;> rfl) hdg fun ct1 H1 locs1 hW1 hc hf hS1 => kk ct1 H1 locs1 hW1 ⟨hM.1, (hf _ (lb_ne2 (by decide))).trans hM.2.1, hc.trans (by rw [up_bI]), (hf _ (lb_ne2 (by decide))).trans hM.2.2.2.1, (hf _ (lb_ne2 (by decide))).trans hM.2.2.2.2.1, (hf _ (lb_ne2 (by decide))).trans hM.2.2.2.2.2.1, (hf _ (lb_ne2 (by decide))).trans hM.2.2.2.2.2.2.1, (hf _ (lb_ne2 (by decide))).trans hM.2.2.2.2.2.2.2.1, (hf _ (lb_ne2 (by decide))).trans hM.2.2.2.2.2.2.2.2.1, (hf _ (lb_ne2 (by decide))).trans hM.2.2.2.2.2.2.2.2.2.1, (hf _ (lb_ne2 (by decide))).trans hM.2.2.2.2.2.2.2.2.2.2.1, (hf _ (lb_ne2 (by decide))).trans hM.2.2.2.2.2.2.2.2.2.2.2.1, (hf _ (lb_ne2 (by decide))).trans hM.2.2.2.2.2.2.2.2.2.2.2.2.1, (hf _ (lb_ne2 (by decide))).trans hM.2.2.2.2.2.2.2.2.2.2.2.2.2.1, (hf _ (lb_ne2 (by decide))).trans hM.2.2.2.2.2.2.2.2.2.2.2.2.2.2.1, (hf _ (lb_ne2 (by decide))).trans hM.2.2.2.2.2.2.2.2.2.2.2.2.2.2.2⟩ (XM.of hf) hS1
theorem ms_lev {i : Int32} {v : Nat} (F : Fx p m c cc nL s args own) (hE : VE G A s) (hW : wd G A (ad, dm, ct) H) (hS : va_S A s.heap H locs) (hM : MDF G ad dm ct lv lev lo hi ri sz ky vl go rt ep wq wn cn op cl ca ce kc nb th fo) (j : Nat) (hi0 : i = nI j) (hj : j < 800) (hdg : decode cc pc = .ok (.iastore, 1))
    (kk : ∀ (ct1 : Lb → va_E) (H1 : Heap) (locs1 : List Loc), wd G A (ad, dm, ct1) H1 → MDF G ad dm ct1 lv (va_up lev j v) lo hi ri sz ky vl go rt ep wq wn cn op cl ca ce kc nb th fo → XM ct ct1 → va_S A s.heap H1 locs1 → W p l e R s m args below meth c H1 locs1 cells slots Q (F0 m (pc + 1) ls rest)) :
    W p l e R s m args below meth c H locs cells slots Q (F0 m pc ls (.int (nI v) :: .int i :: .ref (ad (10, 2)) :: rest)) :=
  ks_i F hE hW hS (10, 2) (hM.1 2 (by decide)) rfl hM.2.2.2.1 j hi0 hj (by decide) hdg fun ct1 H1 locs1 hW1 hc hf hS1 => kk ct1 H1 locs1 hW1 ⟨hM.1, (hf _ (lb_ne2 (by decide))).trans hM.2.1, (hf _ (lb_ne2 (by decide))).trans hM.2.2.1, hc.trans (by rw [up_nI]), (hf _ (lb_ne2 (by decide))).trans hM.2.2.2.2.1, (hf _ (lb_ne2 (by decide))).trans hM.2.2.2.2.2.1, (hf _ (lb_ne2 (by decide))).trans hM.2.2.2.2.2.2.1, (hf _ (lb_ne2 (by decide))).trans hM.2.2.2.2.2.2.2.1, (hf _ (lb_ne2 (by decide))).trans hM.2.2.2.2.2.2.2.2.1, (hf _ (lb_ne2 (by decide))).trans hM.2.2.2.2.2.2.2.2.2.1, (hf _ (lb_ne2 (by decide))).trans hM.2.2.2.2.2.2.2.2.2.2.1, (hf _ (lb_ne2 (by decide))).trans hM.2.2.2.2.2.2.2.2.2.2.2.1, (hf _ (lb_ne2 (by decide))).trans hM.2.2.2.2.2.2.2.2.2.2.2.2.1, (hf _ (lb_ne2 (by decide))).trans hM.2.2.2.2.2.2.2.2.2.2.2.2.2.1, (hf _ (lb_ne2 (by decide))).trans hM.2.2.2.2.2.2.2.2.2.2.2.2.2.2.1, (hf _ (lb_ne2 (by decide))).trans hM.2.2.2.2.2.2.2.2.2.2.2.2.2.2.2⟩ (XM.of hf) hS1
theorem ms_lo {i : Int32} {v : Nat} (F : Fx p m c cc nL s args own) (hE : VE G A s) (hW : wd G A (ad, dm, ct) H) (hS : va_S A s.heap H locs) (hM : MDF G ad dm ct lv lev lo hi ri sz ky vl go rt ep wq wn cn op cl ca ce kc nb th fo) (j : Nat) (hi0 : i = nI j) (hj : j < 800) (hdg : decode cc pc = .ok (.iastore, 1))
    (kk : ∀ (ct1 : Lb → va_E) (H1 : Heap) (locs1 : List Loc), wd G A (ad, dm, ct1) H1 → MDF G ad dm ct1 lv lev (va_up lo j v) hi ri sz ky vl go rt ep wq wn cn op cl ca ce kc nb th fo → XM ct ct1 → va_S A s.heap H1 locs1 → W p l e R s m args below meth c H1 locs1 cells slots Q (F0 m (pc + 1) ls rest)) :
    W p l e R s m args below meth c H locs cells slots Q (F0 m pc ls (.int (nI v) :: .int i :: .ref (ad (10, 3)) :: rest)) :=
  ks_i F hE hW hS (10, 3) (hM.1 3 (by decide)) rfl hM.2.2.2.2.1 j hi0 hj (by decide) hdg fun ct1 H1 locs1 hW1 hc hf hS1 => kk ct1 H1 locs1 hW1 ⟨hM.1, (hf _ (lb_ne2 (by decide))).trans hM.2.1, (hf _ (lb_ne2 (by decide))).trans hM.2.2.1, (hf _ (lb_ne2 (by decide))).trans hM.2.2.2.1, hc.trans (by rw [up_nI]), (hf _ (lb_ne2 (by decide))).trans hM.2.2.2.2.2.1, (hf _ (lb_ne2 (by decide))).trans hM.2.2.2.2.2.2.1, (hf _ (lb_ne2 (by decide))).trans hM.2.2.2.2.2.2.2.1, (hf _ (lb_ne2 (by decide))).trans hM.2.2.2.2.2.2.2.2.1, (hf _ (lb_ne2 (by decide))).trans hM.2.2.2.2.2.2.2.2.2.1, (hf _ (lb_ne2 (by decide))).trans hM.2.2.2.2.2.2.2.2.2.2.1, (hf _ (lb_ne2 (by decide))).trans hM.2.2.2.2.2.2.2.2.2.2.2.1, (hf _ (lb_ne2 (by decide))).trans hM.2.2.2.2.2.2.2.2.2.2.2.2.1, (hf _ (lb_ne2 (by decide))).trans hM.2.2.2.2.2.2.2.2.2.2.2.2.2.1, (hf _ (lb_ne2 (by decide))).trans hM.2.2.2.2.2.2.2.2.2.2.2.2.2.2.1, (hf _ (lb_ne2 (by decide))).trans hM.2.2.2.2.2.2.2.2.2.2.2.2.2.2.2⟩ (XM.of hf) hS1
theorem ms_hi {i : Int32} {v : Nat} (F : Fx p m c cc nL s args own) (hE : VE G A s) (hW : wd G A (ad, dm, ct) H) (hS : va_S A s.heap H locs) (hM : MDF G ad dm ct lv lev lo hi ri sz ky vl go rt ep wq wn cn op cl ca ce kc nb th fo) (j : Nat) (hi0 : i = nI j) (hj : j < 800) (hdg : decode cc pc = .ok (.iastore, 1))
    (kk : ∀ (ct1 : Lb → va_E) (H1 : Heap) (locs1 : List Loc), wd G A (ad, dm, ct1) H1 → MDF G ad dm ct1 lv lev lo (va_up hi j v) ri sz ky vl go rt ep wq wn cn op cl ca ce kc nb th fo → XM ct ct1 → va_S A s.heap H1 locs1 → W p l e R s m args below meth c H1 locs1 cells slots Q (F0 m (pc + 1) ls rest)) :
    W p l e R s m args below meth c H locs cells slots Q (F0 m pc ls (.int (nI v) :: .int i :: .ref (ad (10, 4)) :: rest)) :=
  ks_i F hE hW hS (10, 4) (hM.1 4 (by decide)) rfl hM.2.2.2.2.2.1 j hi0 hj (by decide) hdg fun ct1 H1 locs1 hW1 hc hf hS1 => kk ct1 H1 locs1 hW1 ⟨hM.1, (hf _ (lb_ne2 (by decide))).trans hM.2.1, (hf _ (lb_ne2 (by decide))).trans hM.2.2.1, (hf _ (lb_ne2 (by decide))).trans hM.2.2.2.1, (hf _ (lb_ne2 (by decide))).trans hM.2.2.2.2.1, hc.trans (by rw [up_nI]), (hf _ (lb_ne2 (by decide))).trans hM.2.2.2.2.2.2.1, (hf _ (lb_ne2 (by decide))).trans hM.2.2.2.2.2.2.2.1, (hf _ (lb_ne2 (by decide))).trans hM.2.2.2.2.2.2.2.2.1, (hf _ (lb_ne2 (by decide))).trans hM.2.2.2.2.2.2.2.2.2.1, (hf _ (lb_ne2 (by decide))).trans hM.2.2.2.2.2.2.2.2.2.2.1, (hf _ (lb_ne2 (by decide))).trans hM.2.2.2.2.2.2.2.2.2.2.2.1, (hf _ (lb_ne2 (by decide))).trans hM.2.2.2.2.2.2.2.2.2.2.2.2.1, (hf _ (lb_ne2 (by decide))).trans hM.2.2.2.2.2.2.2.2.2.2.2.2.2.1, (hf _ (lb_ne2 (by decide))).trans hM.2.2.2.2.2.2.2.2.2.2.2.2.2.2.1, (hf _ (lb_ne2 (by decide))).trans hM.2.2.2.2.2.2.2.2.2.2.2.2.2.2.2⟩ (XM.of hf) hS1
theorem ms_ri {i : Int32} {v : Option Nat} (F : Fx p m c cc nL s args own) (hE : VE G A s) (hW : wd G A (ad, dm, ct) H) (hS : va_S A s.heap H locs) (hM : MDF G ad dm ct lv lev lo hi ri sz ky vl go rt ep wq wn cn op cl ca ce kc nb th fo) (j : Nat) (hi0 : i = nI j) (hj : j < 800) (hdg : decode cc pc = .ok (.iastore, 1))
    (kk : ∀ (ct1 : Lb → va_E) (H1 : Heap) (locs1 : List Loc), wd G A (ad, dm, ct1) H1 → MDF G ad dm ct1 lv lev lo hi (va_up ri j v) sz ky vl go rt ep wq wn cn op cl ca ce kc nb th fo → XM ct ct1 → va_S A s.heap H1 locs1 → W p l e R s m args below meth c H1 locs1 cells slots Q (F0 m (pc + 1) ls rest)) :
    W p l e R s m args below meth c H locs cells slots Q (F0 m pc ls (.int (oI v) :: .int i :: .ref (ad (10, 5)) :: rest)) :=
  ks_i F hE hW hS (10, 5) (hM.1 5 (by decide)) rfl hM.2.2.2.2.2.2.1 j hi0 hj (by decide) hdg fun ct1 H1 locs1 hW1 hc hf hS1 => kk ct1 H1 locs1 hW1 ⟨hM.1, (hf _ (lb_ne2 (by decide))).trans hM.2.1, (hf _ (lb_ne2 (by decide))).trans hM.2.2.1, (hf _ (lb_ne2 (by decide))).trans hM.2.2.2.1, (hf _ (lb_ne2 (by decide))).trans hM.2.2.2.2.1, (hf _ (lb_ne2 (by decide))).trans hM.2.2.2.2.2.1, hc.trans (by rw [up_oI]), (hf _ (lb_ne2 (by decide))).trans hM.2.2.2.2.2.2.2.1, (hf _ (lb_ne2 (by decide))).trans hM.2.2.2.2.2.2.2.2.1, (hf _ (lb_ne2 (by decide))).trans hM.2.2.2.2.2.2.2.2.2.1, (hf _ (lb_ne2 (by decide))).trans hM.2.2.2.2.2.2.2.2.2.2.1, (hf _ (lb_ne2 (by decide))).trans hM.2.2.2.2.2.2.2.2.2.2.2.1, (hf _ (lb_ne2 (by decide))).trans hM.2.2.2.2.2.2.2.2.2.2.2.2.1, (hf _ (lb_ne2 (by decide))).trans hM.2.2.2.2.2.2.2.2.2.2.2.2.2.1, (hf _ (lb_ne2 (by decide))).trans hM.2.2.2.2.2.2.2.2.2.2.2.2.2.2.1, (hf _ (lb_ne2 (by decide))).trans hM.2.2.2.2.2.2.2.2.2.2.2.2.2.2.2⟩ (XM.of hf) hS1
theorem ms_sz {i : Int32} {v : Nat} (F : Fx p m c cc nL s args own) (hE : VE G A s) (hW : wd G A (ad, dm, ct) H) (hS : va_S A s.heap H locs) (hM : MDF G ad dm ct lv lev lo hi ri sz ky vl go rt ep wq wn cn op cl ca ce kc nb th fo) (j : Nat) (hi0 : i = nI j) (hj : j < 800) (hdg : decode cc pc = .ok (.iastore, 1))
    (kk : ∀ (ct1 : Lb → va_E) (H1 : Heap) (locs1 : List Loc), wd G A (ad, dm, ct1) H1 → MDF G ad dm ct1 lv lev lo hi ri (va_up sz j v) ky vl go rt ep wq wn cn op cl ca ce kc nb th fo → XM ct ct1 → va_S A s.heap H1 locs1 → W p l e R s m args below meth c H1 locs1 cells slots Q (F0 m (pc + 1) ls rest)) :
    W p l e R s m args below meth c H locs cells slots Q (F0 m pc ls (.int (nI v) :: .int i :: .ref (ad (10, 6)) :: rest)) :=
  ks_i F hE hW hS (10, 6) (hM.1 6 (by decide)) rfl hM.2.2.2.2.2.2.2.1 j hi0 hj (by decide) hdg fun ct1 H1 locs1 hW1 hc hf hS1 => kk ct1 H1 locs1 hW1 ⟨hM.1, (hf _ (lb_ne2 (by decide))).trans hM.2.1, (hf _ (lb_ne2 (by decide))).trans hM.2.2.1, (hf _ (lb_ne2 (by decide))).trans hM.2.2.2.1, (hf _ (lb_ne2 (by decide))).trans hM.2.2.2.2.1, (hf _ (lb_ne2 (by decide))).trans hM.2.2.2.2.2.1, (hf _ (lb_ne2 (by decide))).trans hM.2.2.2.2.2.2.1, hc.trans (by rw [up_nI]), (hf _ (lb_ne2 (by decide))).trans hM.2.2.2.2.2.2.2.2.1, (hf _ (lb_ne2 (by decide))).trans hM.2.2.2.2.2.2.2.2.2.1, (hf _ (lb_ne2 (by decide))).trans hM.2.2.2.2.2.2.2.2.2.2.1, (hf _ (lb_ne2 (by decide))).trans hM.2.2.2.2.2.2.2.2.2.2.2.1, (hf _ (lb_ne2 (by decide))).trans hM.2.2.2.2.2.2.2.2.2.2.2.2.1, (hf _ (lb_ne2 (by decide))).trans hM.2.2.2.2.2.2.2.2.2.2.2.2.2.1, (hf _ (lb_ne2 (by decide))).trans hM.2.2.2.2.2.2.2.2.2.2.2.2.2.2.1, (hf _ (lb_ne2 (by decide))).trans hM.2.2.2.2.2.2.2.2.2.2.2.2.2.2.2⟩ (XM.of hf) hS1
theorem ms_ky {i : Int32} {v : Nat} (F : Fx p m c cc nL s args own) (hE : VE G A s) (hW : wd G A (ad, dm, ct) H) (hS : va_S A s.heap H locs) (hM : MDF G ad dm ct lv lev lo hi ri sz ky vl go rt ep wq wn cn op cl ca ce kc nb th fo) (j : Nat) (hi0 : i = nI j) (hj : j < 4000) (hdg : decode cc pc = .ok (.iastore, 1))
    (kk : ∀ (ct1 : Lb → va_E) (H1 : Heap) (locs1 : List Loc), wd G A (ad, dm, ct1) H1 → MDF G ad dm ct1 lv lev lo hi ri sz (va_up ky j v) vl go rt ep wq wn cn op cl ca ce kc nb th fo → XM ct ct1 → va_S A s.heap H1 locs1 → W p l e R s m args below meth c H1 locs1 cells slots Q (F0 m (pc + 1) ls rest)) :
    W p l e R s m args below meth c H locs cells slots Q (F0 m pc ls (.int (nI v) :: .int i :: .ref (ad (10, 7)) :: rest)) :=
  ks_i F hE hW hS (10, 7) (hM.1 7 (by decide)) rfl hM.2.2.2.2.2.2.2.2.1 j hi0 hj (by decide) hdg fun ct1 H1 locs1 hW1 hc hf hS1 => kk ct1 H1 locs1 hW1 ⟨hM.1, (hf _ (lb_ne2 (by decide))).trans hM.2.1, (hf _ (lb_ne2 (by decide))).trans hM.2.2.1, (hf _ (lb_ne2 (by decide))).trans hM.2.2.2.1, (hf _ (lb_ne2 (by decide))).trans hM.2.2.2.2.1, (hf _ (lb_ne2 (by decide))).trans hM.2.2.2.2.2.1, (hf _ (lb_ne2 (by decide))).trans hM.2.2.2.2.2.2.1, (hf _ (lb_ne2 (by decide))).trans hM.2.2.2.2.2.2.2.1, hc.trans (by rw [up_nI]), (hf _ (lb_ne2 (by decide))).trans hM.2.2.2.2.2.2.2.2.2.1, (hf _ (lb_ne2 (by decide))).trans hM.2.2.2.2.2.2.2.2.2.2.1, (hf _ (lb_ne2 (by decide))).trans hM.2.2.2.2.2.2.2.2.2.2.2.1, (hf _ (lb_ne2 (by decide))).trans hM.2.2.2.2.2.2.2.2.2.2.2.2.1, (hf _ (lb_ne2 (by decide))).trans hM.2.2.2.2.2.2.2.2.2.2.2.2.2.1, (hf _ (lb_ne2 (by decide))).trans hM.2.2.2.2.2.2.2.2.2.2.2.2.2.2.1, (hf _ (lb_ne2 (by decide))).trans hM.2.2.2.2.2.2.2.2.2.2.2.2.2.2.2⟩ (XM.of hf) hS1
theorem ms_vl {i : Int32} {v : Nat} (F : Fx p m c cc nL s args own) (hE : VE G A s) (hW : wd G A (ad, dm, ct) H) (hS : va_S A s.heap H locs) (hM : MDF G ad dm ct lv lev lo hi ri sz ky vl go rt ep wq wn cn op cl ca ce kc nb th fo) (j : Nat) (hi0 : i = nI j) (hj : j < 4000) (hdg : decode cc pc = .ok (.iastore, 1))
    (kk : ∀ (ct1 : Lb → va_E) (H1 : Heap) (locs1 : List Loc), wd G A (ad, dm, ct1) H1 → MDF G ad dm ct1 lv lev lo hi ri sz ky (va_up vl j v) go rt ep wq wn cn op cl ca ce kc nb th fo → XM ct ct1 → va_S A s.heap H1 locs1 → W p l e R s m args below meth c H1 locs1 cells slots Q (F0 m (pc + 1) ls rest)) :
    W p l e R s m args below meth c H locs cells slots Q (F0 m pc ls (.int (nI v) :: .int i :: .ref (ad (10, 8)) :: rest)) :=
  ks_i F hE hW hS (10, 8) (hM.1 8 (by decide)) rfl hM.2.2.2.2.2.2.2.2.2.1 j hi0 hj (by decide) hdg fun ct1 H1 locs1 hW1 hc hf hS1 => kk ct1 H1 locs1 hW1 ⟨hM.1, (hf _ (lb_ne2 (by decide))).trans hM.2.1, (hf _ (lb_ne2 (by decide))).trans hM.2.2.1, (hf _ (lb_ne2 (by decide))).trans hM.2.2.2.1, (hf _ (lb_ne2 (by decide))).trans hM.2.2.2.2.1, (hf _ (lb_ne2 (by decide))).trans hM.2.2.2.2.2.1, (hf _ (lb_ne2 (by decide))).trans hM.2.2.2.2.2.2.1, (hf _ (lb_ne2 (by decide))).trans hM.2.2.2.2.2.2.2.1, (hf _ (lb_ne2 (by decide))).trans hM.2.2.2.2.2.2.2.2.1, hc.trans (by rw [up_nI]), (hf _ (lb_ne2 (by decide))).trans hM.2.2.2.2.2.2.2.2.2.2.1, (hf _ (lb_ne2 (by decide))).trans hM.2.2.2.2.2.2.2.2.2.2.2.1, (hf _ (lb_ne2 (by decide))).trans hM.2.2.2.2.2.2.2.2.2.2.2.2.1, (hf _ (lb_ne2 (by decide))).trans hM.2.2.2.2.2.2.2.2.2.2.2.2.2.1, (hf _ (lb_ne2 (by decide))).trans hM.2.2.2.2.2.2.2.2.2.2.2.2.2.2.1, (hf _ (lb_ne2 (by decide))).trans hM.2.2.2.2.2.2.2.2.2.2.2.2.2.2.2⟩ (XM.of hf) hS1
theorem ms_go {i : Int32} {v : Option Nat} (F : Fx p m c cc nL s args own) (hE : VE G A s) (hW : wd G A (ad, dm, ct) H) (hS : va_S A s.heap H locs) (hM : MDF G ad dm ct lv lev lo hi ri sz ky vl go rt ep wq wn cn op cl ca ce kc nb th fo) (j : Nat) (hi0 : i = nI j) (hj : j < 800) (hdg : decode cc pc = .ok (.iastore, 1))
    (kk : ∀ (ct1 : Lb → va_E) (H1 : Heap) (locs1 : List Loc), wd G A (ad, dm, ct1) H1 → MDF G ad dm ct1 lv lev lo hi ri sz ky vl (va_up go j v) rt ep wq wn cn op cl ca ce kc nb th fo → XM ct ct1 → va_S A s.heap H1 locs1 → W p l e R s m args below meth c H1 locs1 cells slots Q (F0 m (pc + 1) ls rest)) :
    W p l e R s m args below meth c H locs cells slots Q (F0 m pc ls (.int (oI v) :: .int i :: .ref (ad (10, 9)) :: rest)) :=
  ks_i F hE hW hS (10, 9) (hM.1 9 (by decide)) rfl hM.2.2.2.2.2.2.2.2.2.2.1 j hi0 hj (by decide) hdg fun ct1 H1 locs1 hW1 hc hf hS1 => kk ct1 H1 locs1 hW1 ⟨hM.1, (hf _ (lb_ne2 (by decide))).trans hM.2.1, (hf _ (lb_ne2 (by decide))).trans hM.2.2.1, (hf _ (lb_ne2 (by decide))).trans hM.2.2.2.1, (hf _ (lb_ne2 (by decide))).trans hM.2.2.2.2.1, (hf _ (lb_ne2 (by decide))).trans hM.2.2.2.2.2.1, (hf _ (lb_ne2 (by decide))).trans hM.2.2.2.2.2.2.1, (hf _ (lb_ne2 (by decide))).trans hM.2.2.2.2.2.2.2.1, (hf _ (lb_ne2 (by decide))).trans hM.2.2.2.2.2.2.2.2.1, (hf _ (lb_ne2 (by decide))).trans hM.2.2.2.2.2.2.2.2.2.1, hc.trans (by rw [up_oI]), (hf _ (lb_ne2 (by decide))).trans hM.2.2.2.2.2.2.2.2.2.2.2.1, (hf _ (lb_ne2 (by decide))).trans hM.2.2.2.2.2.2.2.2.2.2.2.2.1, (hf _ (lb_ne2 (by decide))).trans hM.2.2.2.2.2.2.2.2.2.2.2.2.2.1, (hf _ (lb_ne2 (by decide))).trans hM.2.2.2.2.2.2.2.2.2.2.2.2.2.2.1, (hf _ (lb_ne2 (by decide))).trans hM.2.2.2.2.2.2.2.2.2.2.2.2.2.2.2⟩ (XM.of hf) hS1
theorem ms_wq {i : Int32} {v : Nat} (F : Fx p m c cc nL s args own) (hE : VE G A s) (hW : wd G A (ad, dm, ct) H) (hS : va_S A s.heap H locs) (hM : MDF G ad dm ct lv lev lo hi ri sz ky vl go rt ep wq wn cn op cl ca ce kc nb th fo) (j : Nat) (hi0 : i = nI j) (hj : j < 800) (hdg : decode cc pc = .ok (.iastore, 1))
    (kk : ∀ (ct1 : Lb → va_E) (H1 : Heap) (locs1 : List Loc), wd G A (ad, dm, ct1) H1 → MDF G ad dm ct1 lv lev lo hi ri sz ky vl go rt ep (va_up wq j v) wn cn op cl ca ce kc nb th fo → XM ct ct1 → va_S A s.heap H1 locs1 → W p l e R s m args below meth c H1 locs1 cells slots Q (F0 m (pc + 1) ls rest)) :
    W p l e R s m args below meth c H locs cells slots Q (F0 m pc ls (.int (nI v) :: .int i :: .ref (ad (10, 10)) :: rest)) :=
  ks_i F hE hW hS (10, 10) (hM.1 10 (by decide)) rfl hM.2.2.2.2.2.2.2.2.2.2.2.1 j hi0 hj (by decide) hdg fun ct1 H1 locs1 hW1 hc hf hS1 => kk ct1 H1 locs1 hW1 ⟨hM.1, (hf _ (lb_ne2 (by decide))).trans hM.2.1, (hf _ (lb_ne2 (by decide))).trans hM.2.2.1, (hf _ (lb_ne2 (by decide))).trans hM.2.2.2.1, (hf _ (lb_ne2 (by decide))).trans hM.2.2.2.2.1, (hf _ (lb_ne2 (by decide))).trans hM.2.2.2.2.2.1, (hf _ (lb_ne2 (by decide))).trans hM.2.2.2.2.2.2.1, (hf _ (lb_ne2 (by decide))).trans hM.2.2.2.2.2.2.2.1, (hf _ (lb_ne2 (by decide))).trans hM.2.2.2.2.2.2.2.2.1, (hf _ (lb_ne2 (by decide))).trans hM.2.2.2.2.2.2.2.2.2.1, (hf _ (lb_ne2 (by decide))).trans hM.2.2.2.2.2.2.2.2.2.2.1, hc.trans (by rw [up_nI]), (hf _ (lb_ne2 (by decide))).trans hM.2.2.2.2.2.2.2.2.2.2.2.2.1, (hf _ (lb_ne2 (by decide))).trans hM.2.2.2.2.2.2.2.2.2.2.2.2.2.1, (hf _ (lb_ne2 (by decide))).trans hM.2.2.2.2.2.2.2.2.2.2.2.2.2.2.1, (hf _ (lb_ne2 (by decide))).trans hM.2.2.2.2.2.2.2.2.2.2.2.2.2.2.2⟩ (XM.of hf) hS1
theorem ms_op {i : Int32} {v : Bool} (F : Fx p m c cc nL s args own) (hE : VE G A s) (hW : wd G A (ad, dm, ct) H) (hS : va_S A s.heap H locs) (hM : MDF G ad dm ct lv lev lo hi ri sz ky vl go rt ep wq wn cn op cl ca ce kc nb th fo) (j : Nat) (hi0 : i = nI j) (hj : j < 20) (hdg : decode cc pc = .ok (.bastore, 1))
    (kk : ∀ (ct1 : Lb → va_E) (H1 : Heap) (locs1 : List Loc), wd G A (ad, dm, ct1) H1 → MDF G ad dm ct1 lv lev lo hi ri sz ky vl go rt ep wq wn cn (va_up op j v) cl ca ce kc nb th fo → XM ct ct1 → va_S A s.heap H1 locs1 → W p l e R s m args below meth c H1 locs1 cells slots Q (F0 m (pc + 1) ls rest)) :
    W p l e R s m args below meth c H locs cells slots Q (F0 m pc ls (.int (bI v) :: .int i :: .ref (ad (10, 11)) :: rest)) :=
  ks_z (v := bI v) (v' := bI v) F hE hW hS (10, 11) (hM.1 11 (by decide)) rfl hM.2.2.2.2.2.2.2.2.2.2.2.2.1 j hi0 hj (by decide) (by cases v <;> rfl) hdg fun ct1 H1 locs1 hW1 hc hf hS1 => kk ct1 H1 locs1 hW1 ⟨hM.1, (hf _ (lb_ne2 (by decide))).trans hM.2.1, (hf _ (lb_ne2 (by decide))).trans hM.2.2.1, (hf _ (lb_ne2 (by decide))).trans hM.2.2.2.1, (hf _ (lb_ne2 (by decide))).trans hM.2.2.2.2.1, (hf _ (lb_ne2 (by decide))).trans hM.2.2.2.2.2.1, (hf _ (lb_ne2 (by decide))).trans hM.2.2.2.2.2.2.1, (hf _ (lb_ne2 (by decide))).trans hM.2.2.2.2.2.2.2.1, (hf _ (lb_ne2 (by decide))).trans hM.2.2.2.2.2.2.2.2.1, (hf _ (lb_ne2 (by decide))).trans hM.2.2.2.2.2.2.2.2.2.1, (hf _ (lb_ne2 (by decide))).trans hM.2.2.2.2.2.2.2.2.2.2.1, (hf _ (lb_ne2 (by decide))).trans hM.2.2.2.2.2.2.2.2.2.2.2.1, hc.trans (by rw [up_bI]), (hf _ (lb_ne2 (by decide))).trans hM.2.2.2.2.2.2.2.2.2.2.2.2.2.1, (hf _ (lb_ne2 (by decide))).trans hM.2.2.2.2.2.2.2.2.2.2.2.2.2.2.1, (hf _ (lb_ne2 (by decide))).trans hM.2.2.2.2.2.2.2.2.2.2.2.2.2.2.2⟩ (XM.of hf) hS1
theorem ms_cl {i : Int32} {v : Nat} (F : Fx p m c cc nL s args own) (hE : VE G A s) (hW : wd G A (ad, dm, ct) H) (hS : va_S A s.heap H locs) (hM : MDF G ad dm ct lv lev lo hi ri sz ky vl go rt ep wq wn cn op cl ca ce kc nb th fo) (j : Nat) (hi0 : i = nI j) (hj : j < 20) (hdg : decode cc pc = .ok (.iastore, 1))
    (kk : ∀ (ct1 : Lb → va_E) (H1 : Heap) (locs1 : List Loc), wd G A (ad, dm, ct1) H1 → MDF G ad dm ct1 lv lev lo hi ri sz ky vl go rt ep wq wn cn op (va_up cl j v) ca ce kc nb th fo → XM ct ct1 → va_S A s.heap H1 locs1 → W p l e R s m args below meth c H1 locs1 cells slots Q (F0 m (pc + 1) ls rest)) :
    W p l e R s m args below meth c H locs cells slots Q (F0 m pc ls (.int (nI v) :: .int i :: .ref (ad (10, 12)) :: rest)) :=
  ks_i F hE hW hS (10, 12) (hM.1 12 (by decide)) rfl hM.2.2.2.2.2.2.2.2.2.2.2.2.2.1 j hi0 hj (by decide) hdg fun ct1 H1 locs1 hW1 hc hf hS1 => kk ct1 H1 locs1 hW1 ⟨hM.1, (hf _ (lb_ne2 (by decide))).trans hM.2.1, (hf _ (lb_ne2 (by decide))).trans hM.2.2.1, (hf _ (lb_ne2 (by decide))).trans hM.2.2.2.1, (hf _ (lb_ne2 (by decide))).trans hM.2.2.2.2.1, (hf _ (lb_ne2 (by decide))).trans hM.2.2.2.2.2.1, (hf _ (lb_ne2 (by decide))).trans hM.2.2.2.2.2.2.1, (hf _ (lb_ne2 (by decide))).trans hM.2.2.2.2.2.2.2.1, (hf _ (lb_ne2 (by decide))).trans hM.2.2.2.2.2.2.2.2.1, (hf _ (lb_ne2 (by decide))).trans hM.2.2.2.2.2.2.2.2.2.1, (hf _ (lb_ne2 (by decide))).trans hM.2.2.2.2.2.2.2.2.2.2.1, (hf _ (lb_ne2 (by decide))).trans hM.2.2.2.2.2.2.2.2.2.2.2.1, (hf _ (lb_ne2 (by decide))).trans hM.2.2.2.2.2.2.2.2.2.2.2.2.1, hc.trans (by rw [up_nI]), (hf _ (lb_ne2 (by decide))).trans hM.2.2.2.2.2.2.2.2.2.2.2.2.2.2.1, (hf _ (lb_ne2 (by decide))).trans hM.2.2.2.2.2.2.2.2.2.2.2.2.2.2.2⟩ (XM.of hf) hS1
theorem ms_ca {i : Int32} {v : Nat} (F : Fx p m c cc nL s args own) (hE : VE G A s) (hW : wd G A (ad, dm, ct) H) (hS : va_S A s.heap H locs) (hM : MDF G ad dm ct lv lev lo hi ri sz ky vl go rt ep wq wn cn op cl ca ce kc nb th fo) (j : Nat) (hi0 : i = nI j) (hj : j < 20) (hdg : decode cc pc = .ok (.iastore, 1))
    (kk : ∀ (ct1 : Lb → va_E) (H1 : Heap) (locs1 : List Loc), wd G A (ad, dm, ct1) H1 → MDF G ad dm ct1 lv lev lo hi ri sz ky vl go rt ep wq wn cn op cl (va_up ca j v) ce kc nb th fo → XM ct ct1 → va_S A s.heap H1 locs1 → W p l e R s m args below meth c H1 locs1 cells slots Q (F0 m (pc + 1) ls rest)) :
    W p l e R s m args below meth c H locs cells slots Q (F0 m pc ls (.int (lI v) :: .int i :: .ref (ad (10, 13)) :: rest)) :=
  ks_i F hE hW hS (10, 13) (hM.1 13 (by decide)) rfl hM.2.2.2.2.2.2.2.2.2.2.2.2.2.2.1 j hi0 hj (by decide) hdg fun ct1 H1 locs1 hW1 hc hf hS1 => kk ct1 H1 locs1 hW1 ⟨hM.1, (hf _ (lb_ne2 (by decide))).trans hM.2.1, (hf _ (lb_ne2 (by decide))).trans hM.2.2.1, (hf _ (lb_ne2 (by decide))).trans hM.2.2.2.1, (hf _ (lb_ne2 (by decide))).trans hM.2.2.2.2.1, (hf _ (lb_ne2 (by decide))).trans hM.2.2.2.2.2.1, (hf _ (lb_ne2 (by decide))).trans hM.2.2.2.2.2.2.1, (hf _ (lb_ne2 (by decide))).trans hM.2.2.2.2.2.2.2.1, (hf _ (lb_ne2 (by decide))).trans hM.2.2.2.2.2.2.2.2.1, (hf _ (lb_ne2 (by decide))).trans hM.2.2.2.2.2.2.2.2.2.1, (hf _ (lb_ne2 (by decide))).trans hM.2.2.2.2.2.2.2.2.2.2.1, (hf _ (lb_ne2 (by decide))).trans hM.2.2.2.2.2.2.2.2.2.2.2.1, (hf _ (lb_ne2 (by decide))).trans hM.2.2.2.2.2.2.2.2.2.2.2.2.1, (hf _ (lb_ne2 (by decide))).trans hM.2.2.2.2.2.2.2.2.2.2.2.2.2.1, hc.trans (by rw [up_lI]), (hf _ (lb_ne2 (by decide))).trans hM.2.2.2.2.2.2.2.2.2.2.2.2.2.2.2⟩ (XM.of hf) hS1
theorem ms_ce {i : Int32} {v : Nat} (F : Fx p m c cc nL s args own) (hE : VE G A s) (hW : wd G A (ad, dm, ct) H) (hS : va_S A s.heap H locs) (hM : MDF G ad dm ct lv lev lo hi ri sz ky vl go rt ep wq wn cn op cl ca ce kc nb th fo) (j : Nat) (hi0 : i = nI j) (hj : j < 20) (hdg : decode cc pc = .ok (.iastore, 1))
    (kk : ∀ (ct1 : Lb → va_E) (H1 : Heap) (locs1 : List Loc), wd G A (ad, dm, ct1) H1 → MDF G ad dm ct1 lv lev lo hi ri sz ky vl go rt ep wq wn cn op cl ca (va_up ce j v) kc nb th fo → XM ct ct1 → va_S A s.heap H1 locs1 → W p l e R s m args below meth c H1 locs1 cells slots Q (F0 m (pc + 1) ls rest)) :
    W p l e R s m args below meth c H locs cells slots Q (F0 m pc ls (.int (nI v) :: .int i :: .ref (ad (10, 14)) :: rest)) :=
  ks_i F hE hW hS (10, 14) (hM.1 14 (by decide)) rfl hM.2.2.2.2.2.2.2.2.2.2.2.2.2.2.2 j hi0 hj (by decide) hdg fun ct1 H1 locs1 hW1 hc hf hS1 => kk ct1 H1 locs1 hW1 ⟨hM.1, (hf _ (lb_ne2 (by decide))).trans hM.2.1, (hf _ (lb_ne2 (by decide))).trans hM.2.2.1, (hf _ (lb_ne2 (by decide))).trans hM.2.2.2.1, (hf _ (lb_ne2 (by decide))).trans hM.2.2.2.2.1, (hf _ (lb_ne2 (by decide))).trans hM.2.2.2.2.2.1, (hf _ (lb_ne2 (by decide))).trans hM.2.2.2.2.2.2.1, (hf _ (lb_ne2 (by decide))).trans hM.2.2.2.2.2.2.2.1, (hf _ (lb_ne2 (by decide))).trans hM.2.2.2.2.2.2.2.2.1, (hf _ (lb_ne2 (by decide))).trans hM.2.2.2.2.2.2.2.2.2.1, (hf _ (lb_ne2 (by decide))).trans hM.2.2.2.2.2.2.2.2.2.2.1, (hf _ (lb_ne2 (by decide))).trans hM.2.2.2.2.2.2.2.2.2.2.2.1, (hf _ (lb_ne2 (by decide))).trans hM.2.2.2.2.2.2.2.2.2.2.2.2.1, (hf _ (lb_ne2 (by decide))).trans hM.2.2.2.2.2.2.2.2.2.2.2.2.2.1, (hf _ (lb_ne2 (by decide))).trans hM.2.2.2.2.2.2.2.2.2.2.2.2.2.2.1, hc.trans (by rw [up_nI])⟩ (XM.of hf) hS1
theorem mp_th {v : Nat} (F : Fx p m c cc nL s args own) (hE : VE G A s) (hW : wd G A (ad, dm, ct) H) (hS : va_S A s.heap H locs) (hM : MDF G ad dm ct lv lev lo hi ri sz ky vl go rt ep wq wn cn op cl ca ce kc nb th fo) (hlink : Cond.fieldLink own index "HighkeyModel" "thrown" "I" ∈ AL) (hdg : decode cc pc = .ok (.putfield index, 3))
    (kk : ∀ (ct1 : Lb → va_E) (H1 : Heap) (locs1 : List Loc), wd G A (ad, dm, ct1) H1 → MDF G ad dm ct1 lv lev lo hi ri sz ky vl go rt ep wq wn cn op cl ca ce kc nb v fo → XM ct ct1 → va_S A s.heap H1 locs1 → W p l e R s m args below meth c H1 locs1 cells slots Q (F0 m (pc + 3) ls rest)) :
    W p l e R s m args below meth c H locs cells slots Q (F0 m pc ls (.int (nI v) :: .ref (ad (10, 0)) :: rest)) :=
  kp F hE hW hS (10, 0) (hM.1 0 (by decide)) rfl hM.2.1 rfl inA_X3 tyX3 tyX3_ok nmX3 0 (by decide) hlink rfl rfl rfl (Nat.le_of_ble_eq_true rfl) hdg fun ct1 H1 locs1 hW1 hc hf hS1 => kk ct1 H1 locs1 hW1 ⟨hM.1, hc, (hf _ (lb_ne2 (by decide))).trans hM.2.2.1, (hf _ (lb_ne2 (by decide))).trans hM.2.2.2.1, (hf _ (lb_ne2 (by decide))).trans hM.2.2.2.2.1, (hf _ (lb_ne2 (by decide))).trans hM.2.2.2.2.2.1, (hf _ (lb_ne2 (by decide))).trans hM.2.2.2.2.2.2.1, (hf _ (lb_ne2 (by decide))).trans hM.2.2.2.2.2.2.2.1, (hf _ (lb_ne2 (by decide))).trans hM.2.2.2.2.2.2.2.2.1, (hf _ (lb_ne2 (by decide))).trans hM.2.2.2.2.2.2.2.2.2.1, (hf _ (lb_ne2 (by decide))).trans hM.2.2.2.2.2.2.2.2.2.2.1, (hf _ (lb_ne2 (by decide))).trans hM.2.2.2.2.2.2.2.2.2.2.2.1, (hf _ (lb_ne2 (by decide))).trans hM.2.2.2.2.2.2.2.2.2.2.2.2.1, (hf _ (lb_ne2 (by decide))).trans hM.2.2.2.2.2.2.2.2.2.2.2.2.2.1, (hf _ (lb_ne2 (by decide))).trans hM.2.2.2.2.2.2.2.2.2.2.2.2.2.2.1, (hf _ (lb_ne2 (by decide))).trans hM.2.2.2.2.2.2.2.2.2.2.2.2.2.2.2⟩ (XM.of hf) hS1
theorem mp_rt {v : Nat} (F : Fx p m c cc nL s args own) (hE : VE G A s) (hW : wd G A (ad, dm, ct) H) (hS : va_S A s.heap H locs) (hM : MDF G ad dm ct lv lev lo hi ri sz ky vl go rt ep wq wn cn op cl ca ce kc nb th fo) (hlink : Cond.fieldLink own index "HighkeyModel" "root" "I" ∈ AL) (hdg : decode cc pc = .ok (.putfield index, 3))
    (kk : ∀ (ct1 : Lb → va_E) (H1 : Heap) (locs1 : List Loc), wd G A (ad, dm, ct1) H1 → MDF G ad dm ct1 lv lev lo hi ri sz ky vl go (v) ep wq wn cn op cl ca ce kc nb th fo → XM ct ct1 → va_S A s.heap H1 locs1 → W p l e R s m args below meth c H1 locs1 cells slots Q (F0 m (pc + 3) ls rest)) :
    W p l e R s m args below meth c H locs cells slots Q (F0 m pc ls (.int (nI v) :: .ref (ad (10, 0)) :: rest)) :=
  kp F hE hW hS (10, 0) (hM.1 0 (by decide)) rfl hM.2.1 rfl inA_X3 tyX3 tyX3_ok nmX3 10 (by decide) hlink rfl rfl rfl (Nat.le_of_ble_eq_true rfl) hdg fun ct1 H1 locs1 hW1 hc hf hS1 => kk ct1 H1 locs1 hW1 ⟨hM.1, hc, (hf _ (lb_ne2 (by decide))).trans hM.2.2.1, (hf _ (lb_ne2 (by decide))).trans hM.2.2.2.1, (hf _ (lb_ne2 (by decide))).trans hM.2.2.2.2.1, (hf _ (lb_ne2 (by decide))).trans hM.2.2.2.2.2.1, (hf _ (lb_ne2 (by decide))).trans hM.2.2.2.2.2.2.1, (hf _ (lb_ne2 (by decide))).trans hM.2.2.2.2.2.2.2.1, (hf _ (lb_ne2 (by decide))).trans hM.2.2.2.2.2.2.2.2.1, (hf _ (lb_ne2 (by decide))).trans hM.2.2.2.2.2.2.2.2.2.1, (hf _ (lb_ne2 (by decide))).trans hM.2.2.2.2.2.2.2.2.2.2.1, (hf _ (lb_ne2 (by decide))).trans hM.2.2.2.2.2.2.2.2.2.2.2.1, (hf _ (lb_ne2 (by decide))).trans hM.2.2.2.2.2.2.2.2.2.2.2.2.1, (hf _ (lb_ne2 (by decide))).trans hM.2.2.2.2.2.2.2.2.2.2.2.2.2.1, (hf _ (lb_ne2 (by decide))).trans hM.2.2.2.2.2.2.2.2.2.2.2.2.2.2.1, (hf _ (lb_ne2 (by decide))).trans hM.2.2.2.2.2.2.2.2.2.2.2.2.2.2.2⟩ (XM.of hf) hS1
theorem mp_ep {v : Nat} (F : Fx p m c cc nL s args own) (hE : VE G A s) (hW : wd G A (ad, dm, ct) H) (hS : va_S A s.heap H locs) (hM : MDF G ad dm ct lv lev lo hi ri sz ky vl go rt ep wq wn cn op cl ca ce kc nb th fo) (hlink : Cond.fieldLink own index "HighkeyModel" "epoch" "I" ∈ AL) (hdg : decode cc pc = .ok (.putfield index, 3))
    (kk : ∀ (ct1 : Lb → va_E) (H1 : Heap) (locs1 : List Loc), wd G A (ad, dm, ct1) H1 → MDF G ad dm ct1 lv lev lo hi ri sz ky vl go rt (v) wq wn cn op cl ca ce kc nb th fo → XM ct ct1 → va_S A s.heap H1 locs1 → W p l e R s m args below meth c H1 locs1 cells slots Q (F0 m (pc + 3) ls rest)) :
    W p l e R s m args below meth c H locs cells slots Q (F0 m pc ls (.int (nI v) :: .ref (ad (10, 0)) :: rest)) :=
  kp F hE hW hS (10, 0) (hM.1 0 (by decide)) rfl hM.2.1 rfl inA_X3 tyX3 tyX3_ok nmX3 11 (by decide) hlink rfl rfl rfl (Nat.le_of_ble_eq_true rfl) hdg fun ct1 H1 locs1 hW1 hc hf hS1 => kk ct1 H1 locs1 hW1 ⟨hM.1, hc, (hf _ (lb_ne2 (by decide))).trans hM.2.2.1, (hf _ (lb_ne2 (by decide))).trans hM.2.2.2.1, (hf _ (lb_ne2 (by decide))).trans hM.2.2.2.2.1, (hf _ (lb_ne2 (by decide))).trans hM.2.2.2.2.2.1, (hf _ (lb_ne2 (by decide))).trans hM.2.2.2.2.2.2.1, (hf _ (lb_ne2 (by decide))).trans hM.2.2.2.2.2.2.2.1, (hf _ (lb_ne2 (by decide))).trans hM.2.2.2.2.2.2.2.2.1, (hf _ (lb_ne2 (by decide))).trans hM.2.2.2.2.2.2.2.2.2.1, (hf _ (lb_ne2 (by decide))).trans hM.2.2.2.2.2.2.2.2.2.2.1, (hf _ (lb_ne2 (by decide))).trans hM.2.2.2.2.2.2.2.2.2.2.2.1, (hf _ (lb_ne2 (by decide))).trans hM.2.2.2.2.2.2.2.2.2.2.2.2.1, (hf _ (lb_ne2 (by decide))).trans hM.2.2.2.2.2.2.2.2.2.2.2.2.2.1, (hf _ (lb_ne2 (by decide))).trans hM.2.2.2.2.2.2.2.2.2.2.2.2.2.2.1, (hf _ (lb_ne2 (by decide))).trans hM.2.2.2.2.2.2.2.2.2.2.2.2.2.2.2⟩ (XM.of hf) hS1
theorem mp_wn {v : Nat} (F : Fx p m c cc nL s args own) (hE : VE G A s) (hW : wd G A (ad, dm, ct) H) (hS : va_S A s.heap H locs) (hM : MDF G ad dm ct lv lev lo hi ri sz ky vl go rt ep wq wn cn op cl ca ce kc nb th fo) (hlink : Cond.fieldLink own index "HighkeyModel" "waits" "I" ∈ AL) (hdg : decode cc pc = .ok (.putfield index, 3))
    (kk : ∀ (ct1 : Lb → va_E) (H1 : Heap) (locs1 : List Loc), wd G A (ad, dm, ct1) H1 → MDF G ad dm ct1 lv lev lo hi ri sz ky vl go rt ep wq (v) cn op cl ca ce kc nb th fo → XM ct ct1 → va_S A s.heap H1 locs1 → W p l e R s m args below meth c H1 locs1 cells slots Q (F0 m (pc + 3) ls rest)) :
    W p l e R s m args below meth c H locs cells slots Q (F0 m pc ls (.int (nI v) :: .ref (ad (10, 0)) :: rest)) :=
  kp F hE hW hS (10, 0) (hM.1 0 (by decide)) rfl hM.2.1 rfl inA_X3 tyX3 tyX3_ok nmX3 13 (by decide) hlink rfl rfl rfl (Nat.le_of_ble_eq_true rfl) hdg fun ct1 H1 locs1 hW1 hc hf hS1 => kk ct1 H1 locs1 hW1 ⟨hM.1, hc, (hf _ (lb_ne2 (by decide))).trans hM.2.2.1, (hf _ (lb_ne2 (by decide))).trans hM.2.2.2.1, (hf _ (lb_ne2 (by decide))).trans hM.2.2.2.2.1, (hf _ (lb_ne2 (by decide))).trans hM.2.2.2.2.2.1, (hf _ (lb_ne2 (by decide))).trans hM.2.2.2.2.2.2.1, (hf _ (lb_ne2 (by decide))).trans hM.2.2.2.2.2.2.2.1, (hf _ (lb_ne2 (by decide))).trans hM.2.2.2.2.2.2.2.2.1, (hf _ (lb_ne2 (by decide))).trans hM.2.2.2.2.2.2.2.2.2.1, (hf _ (lb_ne2 (by decide))).trans hM.2.2.2.2.2.2.2.2.2.2.1, (hf _ (lb_ne2 (by decide))).trans hM.2.2.2.2.2.2.2.2.2.2.2.1, (hf _ (lb_ne2 (by decide))).trans hM.2.2.2.2.2.2.2.2.2.2.2.2.1, (hf _ (lb_ne2 (by decide))).trans hM.2.2.2.2.2.2.2.2.2.2.2.2.2.1, (hf _ (lb_ne2 (by decide))).trans hM.2.2.2.2.2.2.2.2.2.2.2.2.2.2.1, (hf _ (lb_ne2 (by decide))).trans hM.2.2.2.2.2.2.2.2.2.2.2.2.2.2.2⟩ (XM.of hf) hS1
theorem mp_cn {v : Nat} (F : Fx p m c cc nL s args own) (hE : VE G A s) (hW : wd G A (ad, dm, ct) H) (hS : va_S A s.heap H locs) (hM : MDF G ad dm ct lv lev lo hi ri sz ky vl go rt ep wq wn cn op cl ca ce kc nb th fo) (hlink : Cond.fieldLink own index "HighkeyModel" "cursors" "I" ∈ AL) (hdg : decode cc pc = .ok (.putfield index, 3))
    (kk : ∀ (ct1 : Lb → va_E) (H1 : Heap) (locs1 : List Loc), wd G A (ad, dm, ct1) H1 → MDF G ad dm ct1 lv lev lo hi ri sz ky vl go rt ep wq wn (v) op cl ca ce kc nb th fo → XM ct ct1 → va_S A s.heap H1 locs1 → W p l e R s m args below meth c H1 locs1 cells slots Q (F0 m (pc + 3) ls rest)) :
    W p l e R s m args below meth c H locs cells slots Q (F0 m pc ls (.int (nI v) :: .ref (ad (10, 0)) :: rest)) :=
  kp F hE hW hS (10, 0) (hM.1 0 (by decide)) rfl hM.2.1 rfl inA_X3 tyX3 tyX3_ok nmX3 14 (by decide) hlink rfl rfl rfl (Nat.le_of_ble_eq_true rfl) hdg fun ct1 H1 locs1 hW1 hc hf hS1 => kk ct1 H1 locs1 hW1 ⟨hM.1, hc, (hf _ (lb_ne2 (by decide))).trans hM.2.2.1, (hf _ (lb_ne2 (by decide))).trans hM.2.2.2.1, (hf _ (lb_ne2 (by decide))).trans hM.2.2.2.2.1, (hf _ (lb_ne2 (by decide))).trans hM.2.2.2.2.2.1, (hf _ (lb_ne2 (by decide))).trans hM.2.2.2.2.2.2.1, (hf _ (lb_ne2 (by decide))).trans hM.2.2.2.2.2.2.2.1, (hf _ (lb_ne2 (by decide))).trans hM.2.2.2.2.2.2.2.2.1, (hf _ (lb_ne2 (by decide))).trans hM.2.2.2.2.2.2.2.2.2.1, (hf _ (lb_ne2 (by decide))).trans hM.2.2.2.2.2.2.2.2.2.2.1, (hf _ (lb_ne2 (by decide))).trans hM.2.2.2.2.2.2.2.2.2.2.2.1, (hf _ (lb_ne2 (by decide))).trans hM.2.2.2.2.2.2.2.2.2.2.2.2.1, (hf _ (lb_ne2 (by decide))).trans hM.2.2.2.2.2.2.2.2.2.2.2.2.2.1, (hf _ (lb_ne2 (by decide))).trans hM.2.2.2.2.2.2.2.2.2.2.2.2.2.2.1, (hf _ (lb_ne2 (by decide))).trans hM.2.2.2.2.2.2.2.2.2.2.2.2.2.2.2⟩ (XM.of hf) hS1
theorem mp_fo {v : Nat} (F : Fx p m c cc nL s args own) (hE : VE G A s) (hW : wd G A (ad, dm, ct) H) (hS : va_S A s.heap H locs) (hM : MDF G ad dm ct lv lev lo hi ri sz ky vl go rt ep wq wn cn op cl ca ce kc nb th fo) (hlink : Cond.fieldLink own index "HighkeyModel" "followed" "I" ∈ AL) (hdg : decode cc pc = .ok (.putfield index, 3))
    (kk : ∀ (ct1 : Lb → va_E) (H1 : Heap) (locs1 : List Loc), wd G A (ad, dm, ct1) H1 → MDF G ad dm ct1 lv lev lo hi ri sz ky vl go rt ep wq wn cn op cl ca ce kc nb th v → XM ct ct1 → va_S A s.heap H1 locs1 → W p l e R s m args below meth c H1 locs1 cells slots Q (F0 m (pc + 3) ls rest)) :
    W p l e R s m args below meth c H locs cells slots Q (F0 m pc ls (.int (nI v) :: .ref (ad (10, 0)) :: rest)) :=
  kp F hE hW hS (10, 0) (hM.1 0 (by decide)) rfl hM.2.1 rfl inA_X3 tyX3 tyX3_ok nmX3 19 (by decide) hlink rfl rfl rfl (Nat.le_of_ble_eq_true rfl) hdg fun ct1 H1 locs1 hW1 hc hf hS1 => kk ct1 H1 locs1 hW1 ⟨hM.1, hc, (hf _ (lb_ne2 (by decide))).trans hM.2.2.1, (hf _ (lb_ne2 (by decide))).trans hM.2.2.2.1, (hf _ (lb_ne2 (by decide))).trans hM.2.2.2.2.1, (hf _ (lb_ne2 (by decide))).trans hM.2.2.2.2.2.1, (hf _ (lb_ne2 (by decide))).trans hM.2.2.2.2.2.2.1, (hf _ (lb_ne2 (by decide))).trans hM.2.2.2.2.2.2.2.1, (hf _ (lb_ne2 (by decide))).trans hM.2.2.2.2.2.2.2.2.1, (hf _ (lb_ne2 (by decide))).trans hM.2.2.2.2.2.2.2.2.2.1, (hf _ (lb_ne2 (by decide))).trans hM.2.2.2.2.2.2.2.2.2.2.1, (hf _ (lb_ne2 (by decide))).trans hM.2.2.2.2.2.2.2.2.2.2.2.1, (hf _ (lb_ne2 (by decide))).trans hM.2.2.2.2.2.2.2.2.2.2.2.2.1, (hf _ (lb_ne2 (by decide))).trans hM.2.2.2.2.2.2.2.2.2.2.2.2.2.1, (hf _ (lb_ne2 (by decide))).trans hM.2.2.2.2.2.2.2.2.2.2.2.2.2.2.1, (hf _ (lb_ne2 (by decide))).trans hM.2.2.2.2.2.2.2.2.2.2.2.2.2.2.2⟩ (XM.of hf) hS1
end MR
end
section
/-! The reference's small methods. -/
theorem cnt_s1 {n : Nat} {f : Nat → Nat} {c : Nat} (h : f n < c) : cnt (n + 1) f c = n + 1 := if_pos h
theorem cnt_s0 {n : Nat} {f : Nat → Nat} {c : Nat} (h : ¬ f n < c) : cnt (n + 1) f c = cnt n f c := if_neg h
set_option maxRecDepth 100000 in
set_option maxHeartbeats 4000000 in
theorem c_X3_thrown (l : Launch) (G : GG) (A : Nat → Prop) (ad : Lb → Nat) (dm : Lb → Prop) (ct0 : Lb → va_E) (lv : Nat → Bool) (lev : Nat → Nat) (lo : Nat → Nat) (hi : Nat → Nat) (ri : Nat → Option Nat) (sz : Nat → Nat) (ky : Nat → Nat) (vl : Nat → Nat) (go : Nat → Option Nat) (rt : Nat) (ep : Nat) (wq : Nat → Nat) (wn : Nat) (cn : Nat) (op : Nat → Bool) (cl : Nat → Nat) (ca : Nat → Nat) (ce : Nat → Nat) (kc : Nat) (nb : Nat) (th fo : Nat) (hM : MDF G ad dm ct0 lv lev lo hi ri sz ky vl go rt ep wq wn cn op cl ca ce kc nb th fo)  :
    CT l yX3_thrown cX3_thrown 1 (some FieldType.int) { frames := 0, cells := 0, slots := 0, locals := 0 } [.ref (ad (10, 0))] G A (ad, dm, ct0) (fun v w' => (ad, dm, ct0) = w' ∧ v = some (.int (nI th))) (fun _ => False) (0) (0) := by
  refine ct_of (by decide) (Nat.le_of_ble_eq_true rfl) ?_
  intro p e s m below meth c ls F hr hlk hnm hex hE hW hl
  have hx := F.1
  have hb := F.2.1
  have hS : va_S A s.heap s.heap [] := va_S.rf
  have hl : lv_has ls 1 [(0, .ref (ad (10, 0)))] := hl
  have hX : XM ct0 ct0 := XM.rf
  refine lv_aload_n hx hb dX3_thrown_0 rfl (lv_at hl 0 rfl) ?_
  refine kg F hE hW (10, 0) (hM.1 0 (by decide)) rfl hM.2.1 rfl inA_X3 0 (by decide) kw_606 (v := .int (nI th)) rfl dX3_thrown_1 ?_
  exact kr_i F hr hlk hE hW hS (Nat.le_of_ble_eq_true rfl) (Nat.le_of_ble_eq_true rfl) dX3_thrown_4 (⟨rfl, rfl⟩)
set_option maxRecDepth 100000 in
set_option maxHeartbeats 4000000 in
theorem c_X3_holds (l : Launch) (G : GG) (A : Nat → Prop) (ad : Lb → Nat) (dm : Lb → Prop) (ct0 : Lb → va_E) (lv : Nat → Bool) (lev : Nat → Nat) (lo : Nat → Nat) (hi : Nat → Nat) (ri : Nat → Option Nat) (sz : Nat → Nat) (ky : Nat → Nat) (vl : Nat → Nat) (go : Nat → Option Nat) (rt : Nat) (ep : Nat) (wq : Nat → Nat) (wn : Nat) (cn : Nat) (op : Nat → Bool) (cl : Nat → Nat) (ca : Nat → Nat) (ce : Nat → Nat) (kc : Nat) (nb : Nat) (th fo : Nat) (hM : MDF G ad dm ct0 lv lev lo hi ri sz ky vl go rt ep wq wn cn op cl ca ce kc nb th fo) (q : Nat) (hq : q < 100) :
    CT l yX3_holds cX3_holds 2 (some FieldType.boolean) { frames := 0, cells := 0, slots := 0, locals := 0 } [.ref (ad (10, 0)), .int (nI q)] G A (ad, dm, ct0) (fun v w' => ∃ ct', w' = (ad, dm, ct') ∧ MDF G ad dm ct' lv lev lo hi ri sz ky vl go rt ep wq wn cn op cl ca ce kc nb q fo ∧ XM ct0 ct' ∧ ((q = 0 ∧ v = some (.int (nI 1))) ∨ (0 < q ∧ v = some (.int (nI 0))))) (fun _ => False) (0) (0) := by
  refine ct_of (by decide) (Nat.le_of_ble_eq_true rfl) ?_
  intro p e s m below meth c ls F hr hlk hnm hex hE hW hl
  have hx := F.1
  have hb := F.2.1
  have hS : va_S A s.heap s.heap [] := va_S.rf
  have hl : lv_has ls 2 [(0, .ref (ad (10, 0))), (1, .int (nI q))] := hl
  have hX : XM ct0 ct0 := XM.rf
  refine lv_aload_n hx hb dX3_holds_0 rfl (lv_at hl 0 rfl) ?_
  refine lv_iload_n hx hb dX3_holds_1 rfl (lv_at hl 1 rfl) ?_
  refine mp_th (v := q) F hE hW hS hM kw_606 dX3_holds_2 (fun ct H locs hW hM hX0 hS => ?_)
  have hX := hX.tr hX0
  refine lv_iload_n hx hb dX3_holds_5 rfl (lv_at hl 1 rfl) ?_
  refine nz_ne (tgt := 13) hx hb dX3_holds_6 (by decide) (by omega) (fun c => ?_) (fun c => ?_)
  · refine lv_iconst (v := nI 0) hx hb dX3_holds_13 (by decide) ?_
    exact kr_z F hr hlk hE hW hS (Nat.le_of_ble_eq_true rfl) (Nat.le_of_ble_eq_true rfl) rfl dX3_holds_14 (⟨_, rfl, hM, hX, Or.inr ⟨Nat.pos_of_ne_zero c, rfl⟩⟩)
  · refine lv_iconst (v := nI 1) hx hb dX3_holds_9 (by decide) ?_
    refine lv_goto (tgt := 14) hx hb dX3_holds_10 (by decide) ?_
    exact kr_z F hr hlk hE hW hS (Nat.le_of_ble_eq_true rfl) (Nat.le_of_ble_eq_true rfl) rfl dX3_holds_14 (⟨_, rfl, hM, hX, Or.inl ⟨c, rfl⟩⟩)
set_option maxRecDepth 100000 in
set_option maxHeartbeats 4000000 in
theorem c_X3_in (l : Launch) (G : GG) (A : Nat → Prop) (ad : Lb → Nat) (dm : Lb → Prop) (ct : Lb → va_E) (x : Int32) (b : Nat) (hb9 : b < 100000) :
    CT l yX3_in cX3_in 3 (some FieldType.boolean) { frames := 0, cells := 0, slots := 0, locals := 0 } [.int x, .int (nI 0), .int (lI b)] G A (ad, dm, ct) (fun v w' => (ad, dm, ct) = w' ∧ ((v = some (.int (nI 1)) ∧ ∃ j, j < b ∧ x = nI j) ∨ (v = some (.int (nI 0)) ∧ ∀ j, j < b → x ≠ nI j))) (fun _ => False) (0) (0) := by
  refine ct_of (by decide) (Nat.le_of_ble_eq_true rfl) ?_
  intro p e s m below meth c ls F hr hlk hnm hex hE hW hl
  have hx := F.1
  have hb := F.2.1
  have hS : va_S A s.heap s.heap [] := va_S.rf
  have hl : lv_has ls 3 [(0, .int x), (1, .int (nI 0)), (2, .int (lI b))] := hl
  refine lv_iload_n hx hb dX3_in_0 rfl (lv_at hl 0 rfl) ?_
  refine lv_iload_n hx hb dX3_in_1 rfl (lv_at hl 1 rfl) ?_
  refine lv_icmp_lt (tgt := 14) hx hb dX3_in_2 (by decide) (fun c1 => ?_) (fun c1 => ?_)
  · refine lv_iconst (v := nI 0) hx hb dX3_in_14 (by decide) ?_
    exact kr_z F hr hlk hE hW hS (Nat.le_of_ble_eq_true rfl) (Nat.le_of_ble_eq_true rfl) rfl dX3_in_15 (⟨rfl, Or.inr ⟨rfl, fun j hj e => absurd c1 (by rw [e]; exact nI_nlt (Nat.zero_le _) (by omega))⟩⟩)
  · obtain ⟨j, hj, rfl⟩ := nI_of c1
    refine lv_iload_n hx hb dX3_in_5 rfl (lv_at hl 0 rfl) ?_
    refine lv_iload_n hx hb dX3_in_6 rfl (lv_at hl 2 rfl) ?_
    refine lv_icmp_gt (tgt := 14) hx hb dX3_in_7 (by decide) (fun c2 => ?_) (fun c2 => ?_)
    · refine lv_iconst (v := nI 0) hx hb dX3_in_14 (by decide) ?_
      exact kr_z F hr hlk hE hW hS (Nat.le_of_ble_eq_true rfl) (Nat.le_of_ble_eq_true rfl) rfl dX3_in_15 (⟨rfl, Or.inr ⟨rfl, fun i hi e => absurd c2 (by rw [e, Int32.not_lt]; exact (lI_nI_le (by omega) (by omega)).mpr hi)⟩⟩)
    · refine lv_iconst (v := nI 1) hx hb dX3_in_10 (by decide) ?_
      refine lv_goto (tgt := 15) hx hb dX3_in_11 (by decide) ?_
      exact kr_z F hr hlk hE hW hS (Nat.le_of_ble_eq_true rfl) (Nat.le_of_ble_eq_true rfl) rfl dX3_in_15 (⟨rfl, Or.inl ⟨rfl, j, (lI_nI_le (by omega) (by omega)).mp (Int32.not_lt.mp c2), rfl⟩⟩)
set_option maxRecDepth 100000 in
set_option maxHeartbeats 4000000 in
theorem c_X3_isKey (l : Launch) (G : GG) (A : Nat → Prop) (ad : Lb → Nat) (dm : Lb → Prop) (ct : Lb → va_E) (x : Int32) :
    CT l yX3_isKey cX3_isKey 1 (some FieldType.boolean) { frames := 1, cells := 0, slots := 0, locals := 22 } [.int x] G A (ad, dm, ct) (fun v w' => (ad, dm, ct) = w' ∧ ((v = some (.int (nI 1)) ∧ ∃ j, j < 200 ∧ x = nI j) ∨ (v = some (.int (nI 0)) ∧ ∀ j, j < 200 → x ≠ nI j))) (fun _ => False) (0) (0) := by
  refine ct_of (by decide) (Nat.le_of_ble_eq_true rfl) ?_
  intro p e s m below meth c ls F hr hlk hnm hex hE hW hl
  have hx := F.1
  have hb := F.2.1
  have hS : va_S A s.heap s.heap [] := va_S.rf
  have hl : lv_has ls 1 [(0, .int x)] := hl
  refine lv_iload_n hx hb dX3_isKey_0 rfl (lv_at hl 0 rfl) ?_
  refine lv_iconst (v := nI 0) hx hb dX3_isKey_1 (by decide) ?_
  refine lv_sipush (v := nI 199) hx hb dX3_isKey_2 (by decide) ?_
  refine ktop (y := lI 200) (by decide) ?_
  refine kc_S 3 (c_X3_in l G A ad dm ct x 200 (by decide)) F hE hW hS kw_679 kw_680 kw_6 kw_681 (by decide +kernel) rfl ⟨rfl, rfl⟩ ⟨Nat.le_of_ble_eq_true rfl, Nat.le_of_ble_eq_true rfl⟩ hl.1 rfl (Nat.le_of_ble_eq_true rfl) dX3_isKey_5 ⟨Nat.le_of_ble_eq_true rfl, Nat.le_of_ble_eq_true rfl⟩ (fun _ _ _ _ _ h => h.elim) (fun v w' H locs hp hW hS => ?_)
  obtain ⟨rfl, ⟨rfl, hp⟩ | ⟨rfl, hp⟩⟩ := hp
  · exact kr_z F hr hlk hE hW hS (Nat.le_of_ble_eq_true rfl) (Nat.le_of_ble_eq_true rfl) rfl dX3_isKey_8 (⟨rfl, Or.inl ⟨rfl, hp⟩⟩)
  · exact kr_z F hr hlk hE hW hS (Nat.le_of_ble_eq_true rfl) (Nat.le_of_ble_eq_true rfl) rfl dX3_isKey_8 (⟨rfl, Or.inr ⟨rfl, hp⟩⟩)
set_option maxRecDepth 100000 in
set_option maxHeartbeats 4000000 in
theorem c_X3_place (l : Launch) (G : GG) (A : Nat → Prop) (ad : Lb → Nat) (dm : Lb → Prop) (ct0 : Lb → va_E) (lv : Nat → Bool) (lev : Nat → Nat) (lo : Nat → Nat) (hi : Nat → Nat) (ri : Nat → Option Nat) (sz : Nat → Nat) (ky : Nat → Nat) (vl : Nat → Nat) (go : Nat → Option Nat) (rt : Nat) (ep : Nat) (wq : Nat → Nat) (wn : Nat) (cn : Nat) (op : Nat → Bool) (cl : Nat → Nat) (ca : Nat → Nat) (ce : Nat → Nat) (kc : Nat) (nb : Nat) (th fo : Nat) (hM : MDF G ad dm ct0 lv lev lo hi ri sz ky vl go rt ep wq wn cn op cl ca ce kc nb th fo) (pg c0 : Nat) (x : Int32) (hp0 : pg < 800) (hs : sz pg ≤ 5) (hx0 : x = lI c0) (hc0 : c0 < 2 ^ 30) (hky : ∀ i, i < sz pg → ky (5 * pg + i) < 2 ^ 30) :
    CT l yX3_place cX3_place 5 (some FieldType.int) { frames := 0, cells := 0, slots := 0, locals := 0 } [.ref (ad (10, 0)), .int (nI pg), .int x] G A (ad, dm, ct0) (fun v w' => (ad, dm, ct0) = w' ∧ v = some (.int (lI (cnt (sz pg) (pk ky pg) c0)))) (fun _ => False) (0) (0) := by
  refine ct_of (by decide) (Nat.le_of_ble_eq_true rfl) ?_
  intro p e s m below meth c ls F hr hlk hnm hex hE hW hl
  have hx := F.1
  have hb := F.2.1
  have hS : va_S A s.heap s.heap [] := va_S.rf
  have hl : lv_has ls 5 [(0, .ref (ad (10, 0))), (1, .int (nI pg)), (2, .int x)] := hl
  have hX : XM ct0 ct0 := XM.rf
  refine lv_iconst (v := (-1)) hx hb dX3_place_0 (by decide) ?_
  refine lv_istore_n (lv' := [(3, .int (-1)), (0, .ref (ad (10, 0))), (1, .int (nI pg)), (2, .int x)]) hx hb dX3_place_1 rfl hl (by decide) rfl (fun ls hl => ?_)
  refine lv_iconst (v := nI 0) hx hb dX3_place_2 (by decide) ?_
  refine lv_istore (lv' := [(4, .int (nI 0)), (3, .int (-1)), (0, .ref (ad (10, 0))), (1, .int (nI pg)), (2, .int x)]) hx hb dX3_place_3 hl (by decide) rfl (fun ls hl => ?_)
  suffices key : ∀ (d i : Nat) (H : Heap) (locs : List Loc) (ls : Array Slot) (y : Int32), i + d = sz pg → y = lI (cnt i (pk ky pg) c0) → wd G A (ad, dm, ct0) H → va_S A s.heap H locs → lv_has ls 5 [(4, .int (nI i)), (3, .int y), (0, .ref (ad (10, 0))), (1, .int (nI pg)), (2, .int x)] → W _ l e _ s m _ below meth c H locs 0 0 _ (F0 m 5 ls []) from
    key (sz pg) 0 _ _ ls _ (Nat.zero_add _) rfl hW hS hl
  intro d
  induction d with
  | zero =>
    intro i H locs ls y hi hy hW hS hl
    refine lv_iload hx hb dX3_place_5 (lv_at hl 0 rfl) ?_
    refine lv_aload_n hx hb dX3_place_7 rfl (lv_at hl 2 rfl) ?_
    refine kg F hE hW (10, 0) (hM.1 0 (by decide)) rfl hM.2.1 rfl inA_X3 6 (by decide) kw_612 (v := .ref (ad (10, 6))) rfl dX3_place_8 ?_
    refine lv_iload_n hx hb dX3_place_11 rfl (lv_at hl 3 rfl) ?_
    refine kl_i F hE hW (10, 6) (hM.1 6 (by decide)) rfl hM.2.2.2.2.2.2.2.1 pg rfl (by omega) (by decide) dX3_place_12 ?_
    refine nc_ge (tgt := 44) hx hb dX3_place_13 (by decide) (by omega) (by omega) (fun c1 => ?_) (fun c1 => ?_)
    · refine lv_iload_n hx hb dX3_place_44 rfl (lv_at hl 1 rfl) ?_
      exact kr_i F hr hlk hE hW hS (Nat.le_of_ble_eq_true rfl) (Nat.le_of_ble_eq_true rfl) dX3_place_45 (⟨rfl, by rw [hy, show i = sz pg by omega]⟩)
    · exact absurd c1 (by omega)
  | succ d ih =>
    intro i H locs ls y hi hy hW hS hl
    refine lv_iload hx hb dX3_place_5 (lv_at hl 0 rfl) ?_
    refine lv_aload_n hx hb dX3_place_7 rfl (lv_at hl 2 rfl) ?_
    refine kg F hE hW (10, 0) (hM.1 0 (by decide)) rfl hM.2.1 rfl inA_X3 6 (by decide) kw_612 (v := .ref (ad (10, 6))) rfl dX3_place_8 ?_
    refine lv_iload_n hx hb dX3_place_11 rfl (lv_at hl 3 rfl) ?_
    refine kl_i F hE hW (10, 6) (hM.1 6 (by decide)) rfl hM.2.2.2.2.2.2.2.1 pg rfl (by omega) (by decide) dX3_place_12 ?_
    refine nc_ge (tgt := 44) hx hb dX3_place_13 (by decide) (by omega) (by omega) (fun c1 => ?_) (fun c1 => ?_)
    · exact absurd c1 (by omega)
    · refine lv_aload_n hx hb dX3_place_16 rfl (lv_at hl 2 rfl) ?_
      refine kg F hE hW (10, 0) (hM.1 0 (by decide)) rfl hM.2.1 rfl inA_X3 7 (by decide) kw_613 (v := .ref (ad (10, 7))) rfl dX3_place_17 ?_
      refine lv_iconst (v := nI 5) hx hb dX3_place_20 (by decide) ?_
      refine lv_iload_n hx hb dX3_place_21 rfl (lv_at hl 3 rfl) ?_
      refine lv_imul hx hb dX3_place_22 ?_
      refine ktop (pk_mul _ _) ?_
      refine lv_iload hx hb dX3_place_23 (lv_at hl 0 rfl) ?_
      refine lv_iadd hx hb dX3_place_25 ?_
      refine ktop (nI_add _ _) ?_
      refine kl_i F hE hW (10, 7) (hM.1 7 (by decide)) rfl hM.2.2.2.2.2.2.2.2.1 ((5 * pg) + i) rfl (by omega) (by decide) dX3_place_26 ?_
      refine lv_iload_n hx hb dX3_place_27 rfl (lv_at hl 4 rfl) ?_
      refine lv_icmp_gt (tgt := 36) hx hb dX3_place_28 (by decide) (fun c2 => ?_) (fun c2 => ?_)
      · rw [hx0] at c2
        refine lv_iload_n hx hb dX3_place_36 rfl (lv_at hl 1 rfl) ?_
        refine lv_istore_n (lv' := [(3, .int y), (4, .int (nI i)), (0, .ref (ad (10, 0))), (1, .int (nI pg)), (2, .int x)]) hx hb dX3_place_37 rfl hl (by decide) rfl (fun ls hl => ?_)
        refine lv_iinc (v := nI (i + 1)) (lv' := [(4, .int (nI (i + 1))), (3, .int y), (0, .ref (ad (10, 0))), (1, .int (nI pg)), (2, .int x)]) hx hb dX3_place_38 hl (k := 1) rfl (ki1 _) (by decide) rfl (fun ls hl => ?_)
        refine lv_goto (tgt := 5) hx hb dX3_place_41 (by decide) ?_
        exact ih (i + 1) _ _ _ _ (by omega) (by rw [hy, cnt_s0 (f := pk ky pg) (fun qz => absurd c2 (by rw [Int32.not_lt]; exact (lI_nI_le (by have := hky i (by omega); omega) (by omega)).mpr qz))]) hW hS hl
      · rw [hx0] at c2
        refine lv_iload hx hb dX3_place_31 (lv_at hl 0 rfl) ?_
        refine lv_goto (tgt := 37) hx hb dX3_place_33 (by decide) ?_
        refine lv_istore_n (lv' := [(3, .int (nI i)), (4, .int (nI i)), (0, .ref (ad (10, 0))), (1, .int (nI pg)), (2, .int x)]) hx hb dX3_place_37 rfl hl (by decide) rfl (fun ls hl => ?_)
        refine lv_iinc (v := nI (i + 1)) (lv' := [(4, .int (nI (i + 1))), (3, .int (nI i)), (0, .ref (ad (10, 0))), (1, .int (nI pg)), (2, .int x)]) hx hb dX3_place_38 hl (k := 1) rfl (ki1 _) (by decide) rfl (fun ls hl => ?_)
        refine lv_goto (tgt := 5) hx hb dX3_place_41 (by decide) ?_
        exact ih (i + 1) _ _ _ _ (by omega) (by rw [cnt_s1 (f := pk ky pg) (show ky (5 * pg + i) < c0 from (lI_nI_le (by have := hky i (by omega); omega) (by omega)).mp (Int32.not_lt.mp c2)), lI_s]) hW hS hl
set_option maxRecDepth 100000 in
set_option maxHeartbeats 4000000 in
theorem c_X3_hasKey (l : Launch) (G : GG) (A : Nat → Prop) (ad : Lb → Nat) (dm : Lb → Prop) (ct0 : Lb → va_E) (lv : Nat → Bool) (lev : Nat → Nat) (lo : Nat → Nat) (hi : Nat → Nat) (ri : Nat → Option Nat) (sz : Nat → Nat) (ky : Nat → Nat) (vl : Nat → Nat) (go : Nat → Option Nat) (rt : Nat) (ep : Nat) (wq : Nat → Nat) (wn : Nat) (cn : Nat) (op : Nat → Bool) (cl : Nat → Nat) (ca : Nat → Nat) (ce : Nat → Nat) (kc : Nat) (nb : Nat) (th fo : Nat) (hM : MDF G ad dm ct0 lv lev lo hi ri sz ky vl go rt ep wq wn cn op cl ca ce kc nb th fo) (pg q k : Nat) (hp0 : pg < 800) (hq : q ≤ 5) (hk : k < 2 ^ 30) (hky : ky (5 * pg + (q - 1)) < 2 ^ 30) :
    CT l yX3_hasKey cX3_hasKey 4 (some FieldType.boolean) { frames := 0, cells := 0, slots := 0, locals := 0 } [.ref (ad (10, 0)), .int (nI pg), .int (lI q), .int (nI k)] G A (ad, dm, ct0) (fun v w' => (ad, dm, ct0) = w' ∧ ((0 < q ∧ ky (5 * pg + (q - 1)) = k ∧ v = some (.int (nI 1))) ∨ ((q = 0 ∨ ky (5 * pg + (q - 1)) ≠ k) ∧ v = some (.int (nI 0))))) (fun _ => False) (0) (0) := by
  refine ct_of (by decide) (Nat.le_of_ble_eq_true rfl) ?_
  intro p e s m below meth c ls F hr hlk hnm hex hE hW hl
  have hx := F.1
  have hb := F.2.1
  have hS : va_S A s.heap s.heap [] := va_S.rf
  have hl : lv_has ls 4 [(0, .ref (ad (10, 0))), (1, .int (nI pg)), (2, .int (lI q)), (3, .int (nI k))] := hl
  have hX : XM ct0 ct0 := XM.rf
  refine lv_iload_n hx hb dX3_hasKey_0 rfl (lv_at hl 2 rfl) ?_
  refine lv_iconst (v := (-1)) hx hb dX3_hasKey_1 (by decide) ?_
  refine lv_icmp_eq (tgt := 23) hx hb dX3_hasKey_2 (by decide) (fun c1 => ?_) (fun c1 => ?_)
  · refine lv_iconst (v := nI 0) hx hb dX3_hasKey_23 (by decide) ?_
    exact kr_z F hr hlk hE hW hS (Nat.le_of_ble_eq_true rfl) (Nat.le_of_ble_eq_true rfl) rfl dX3_hasKey_24 (⟨rfl, Or.inr ⟨Or.inl ((lI_eq (b := 0) (by omega) (by decide)).mp c1), rfl⟩⟩)
  · obtain ⟨q, rfl⟩ : ∃ z, q = z + 1 := ⟨q - 1, by rcases Nat.eq_zero_or_pos q with h | h; exact absurd (by rw [h]; rfl) c1; omega⟩
    have hl : lv_has ls 4 [(0, .ref (ad (10, 0))), (1, .int (nI pg)), (2, .int (nI q)), (3, .int (nI k))] := by rw [lI_s] at hl; exact hl
    refine lv_aload_n hx hb dX3_hasKey_5 rfl (lv_at hl 0 rfl) ?_
    refine kg F hE hW (10, 0) (hM.1 0 (by decide)) rfl hM.2.1 rfl inA_X3 7 (by decide) kw_613 (v := .ref (ad (10, 7))) rfl dX3_hasKey_6 ?_
    refine lv_iconst (v := nI 5) hx hb dX3_hasKey_9 (by decide) ?_
    refine lv_iload_n hx hb dX3_hasKey_10 rfl (lv_at hl 1 rfl) ?_
    refine lv_imul hx hb dX3_hasKey_11 ?_
    refine ktop (pk_mul _ _) ?_
    refine lv_iload_n hx hb dX3_hasKey_12 rfl (lv_at hl 2 rfl) ?_
    refine lv_iadd hx hb dX3_hasKey_13 ?_
    refine ktop (nI_add _ _) ?_
    refine kl_i F hE hW (10, 7) (hM.1 7 (by decide)) rfl hM.2.2.2.2.2.2.2.2.1 ((5 * pg) + q) rfl (by omega) (by decide) dX3_hasKey_14 ?_
    refine lv_iload_n hx hb dX3_hasKey_15 rfl (lv_at hl 3 rfl) ?_
    refine nc_ne (tgt := 23) hx hb dX3_hasKey_16 (by decide) (by simp at hky; omega) (by omega) (fun c2 => ?_) (fun c2 => ?_)
    · refine lv_iconst (v := nI 0) hx hb dX3_hasKey_23 (by decide) ?_
      exact kr_z F hr hlk hE hW hS (Nat.le_of_ble_eq_true rfl) (Nat.le_of_ble_eq_true rfl) rfl dX3_hasKey_24 (⟨rfl, Or.inr ⟨Or.inr (by simpa using c2), rfl⟩⟩)
    · refine lv_iconst (v := nI 1) hx hb dX3_hasKey_19 (by decide) ?_
      refine lv_goto (tgt := 24) hx hb dX3_hasKey_20 (by decide) ?_
      exact kr_z F hr hlk hE hW hS (Nat.le_of_ble_eq_true rfl) (Nat.le_of_ble_eq_true rfl) rfl dX3_hasKey_24 (⟨rfl, Or.inl ⟨Nat.succ_pos _, by simpa using c2, rfl⟩⟩)
set_option maxRecDepth 100000 in
set_option maxHeartbeats 4000000 in
theorem c_X3_sets (l : Launch) (G : GG) (A : Nat → Prop) (ad : Lb → Nat) (dm : Lb → Prop) (ct0 : Lb → va_E) (lv : Nat → Bool) (lev : Nat → Nat) (lo : Nat → Nat) (hi : Nat → Nat) (ri : Nat → Option Nat) (sz : Nat → Nat) (ky : Nat → Nat) (vl : Nat → Nat) (go : Nat → Option Nat) (rt : Nat) (ep : Nat) (wq : Nat → Nat) (wn : Nat) (cn : Nat) (op : Nat → Bool) (cl : Nat → Nat) (ca : Nat → Nat) (ce : Nat → Nat) (kc : Nat) (nb : Nat) (th fo : Nat) (hM : MDF G ad dm ct0 lv lev lo hi ri sz ky vl go rt ep wq wn cn op cl ca ce kc nb th fo) (pg k x y : Nat) (hp0 : pg < 800) (hk : k < 5) :
    CT l yX3_sets cX3_sets 5 none { frames := 0, cells := 0, slots := 0, locals := 0 } [.ref (ad (10, 0)), .int (nI pg), .int (nI k), .int (nI x), .int (nI y)] G A (ad, dm, ct0) (fun v w' => ∃ ct', w' = (ad, dm, ct') ∧ MDF G ad dm ct' lv lev lo hi ri sz (va_up ky (5 * pg + k) x) (va_up vl (5 * pg + k) y) go rt ep wq wn cn op cl ca ce kc nb th fo ∧ XM ct0 ct' ∧ v = none) (fun _ => False) (0) (0) := by
  refine ct_of (by decide) (Nat.le_of_ble_eq_true rfl) ?_
  intro p e s m below meth c ls F hr hlk hnm hex hE hW hl
  have hx := F.1
  have hb := F.2.1
  have hS : va_S A s.heap s.heap [] := va_S.rf
  have hl : lv_has ls 5 [(0, .ref (ad (10, 0))), (1, .int (nI pg)), (2, .int (nI k)), (3, .int (nI x)), (4, .int (nI y))] := hl
  have hX : XM ct0 ct0 := XM.rf
  refine lv_aload_n hx hb dX3_sets_0 rfl (lv_at hl 0 rfl) ?_
  refine kg F hE hW (10, 0) (hM.1 0 (by decide)) rfl hM.2.1 rfl inA_X3 7 (by decide) kw_613 (v := .ref (ad (10, 7))) rfl dX3_sets_1 ?_
  refine lv_iconst (v := nI 5) hx hb dX3_sets_4 (by decide) ?_
  refine lv_iload_n hx hb dX3_sets_5 rfl (lv_at hl 1 rfl) ?_
  refine lv_imul hx hb dX3_sets_6 ?_
  refine ktop (pk_mul _ _) ?_
  refine lv_iload_n hx hb dX3_sets_7 rfl (lv_at hl 2 rfl) ?_
  refine lv_iadd hx hb dX3_sets_8 ?_
  refine ktop (nI_add _ _) ?_
  refine lv_iload_n hx hb dX3_sets_9 rfl (lv_at hl 3 rfl) ?_
  refine ms_ky (v := x) F hE hW hS hM ((5 * pg) + k) rfl (by omega) dX3_sets_10 (fun ct H locs hW hM hX0 hS => ?_)
  have hX := hX.tr hX0
  refine lv_aload_n hx hb dX3_sets_11 rfl (lv_at hl 0 rfl) ?_
  refine kg F hE hW (10, 0) (hM.1 0 (by decide)) rfl hM.2.1 rfl inA_X3 8 (by decide) kw_614 (v := .ref (ad (10, 8))) rfl dX3_sets_12 ?_
  refine lv_iconst (v := nI 5) hx hb dX3_sets_15 (by decide) ?_
  refine lv_iload_n hx hb dX3_sets_16 rfl (lv_at hl 1 rfl) ?_
  refine lv_imul hx hb dX3_sets_17 ?_
  refine ktop (pk_mul _ _) ?_
  refine lv_iload_n hx hb dX3_sets_18 rfl (lv_at hl 2 rfl) ?_
  refine lv_iadd hx hb dX3_sets_19 ?_
  refine ktop (nI_add _ _) ?_
  refine lv_iload hx hb dX3_sets_20 (lv_at hl 4 rfl) ?_
  refine ms_vl (v := y) F hE hW hS hM ((5 * pg) + k) rfl (by omega) dX3_sets_22 (fun ct H locs hW hM hX0 hS => ?_)
  have hX := hX.tr hX0
  exact kr_v F hr hlk hE hW hS (Nat.le_of_ble_eq_true rfl) (Nat.le_of_ble_eq_true rfl) dX3_sets_23 (⟨_, rfl, hM, hX, rfl⟩)
set_option maxRecDepth 100000 in
set_option maxHeartbeats 4000000 in
theorem c_X3_made (l : Launch) (G : GG) (A : Nat → Prop) (ad : Lb → Nat) (dm : Lb → Prop) (ct0 : Lb → va_E) (lv : Nat → Bool) (lev : Nat → Nat) (lo : Nat → Nat) (hi : Nat → Nat) (ri : Nat → Option Nat) (sz : Nat → Nat) (ky : Nat → Nat) (vl : Nat → Nat) (go : Nat → Option Nat) (rt : Nat) (ep : Nat) (wq : Nat → Nat) (wn : Nat) (cn : Nat) (op : Nat → Bool) (cl : Nat → Nat) (ca : Nat → Nat) (ce : Nat → Nat) (kc : Nat) (nb : Nat) (th fo : Nat) (hM : MDF G ad dm ct0 lv lev lo hi ri sz ky vl go rt ep wq wn cn op cl ca ce kc nb th fo) (le0 lo0 hi0 : Nat) (x : Int32) (r0 : Option Nat) (hr0 : x = oI r0) (hlv : lv (fr lv) = false) (hlt : ∀ j, j < fr lv → lv j = true) (hf8 : fr lv < 800) :
    CT l yX3_made cX3_made 6 (some FieldType.int) { frames := 0, cells := 0, slots := 0, locals := 0 } [.ref (ad (10, 0)), .int (nI le0), .int (nI lo0), .int (nI hi0), .int x] G A (ad, dm, ct0) (fun v w' => ∃ ct', w' = (ad, dm, ct') ∧ MDF G ad dm ct' (va_up lv (fr lv) true) (va_up lev (fr lv) le0) (va_up lo (fr lv) lo0) (va_up hi (fr lv) hi0) (va_up ri (fr lv) r0) (va_up sz (fr lv) 0) ky vl (va_up go (fr lv) none) rt ep wq wn cn op cl ca ce kc nb th fo ∧ XM ct0 ct' ∧ v = some (.int (nI (fr lv)))) (fun _ => False) (0) (0) := by
  refine ct_of (by decide) (Nat.le_of_ble_eq_true rfl) ?_
  intro p e s m below meth c ls F hr hlk hnm hex hE hW hl
  have hx := F.1
  have hb := F.2.1
  have hS : va_S A s.heap s.heap [] := va_S.rf
  have hl : lv_has ls 6 [(0, .ref (ad (10, 0))), (1, .int (nI le0)), (2, .int (nI lo0)), (3, .int (nI hi0)), (4, .int x)] := hl
  have hX : XM ct0 ct0 := XM.rf
  refine lv_iconst (v := nI 0) hx hb dX3_made_0 (by decide) ?_
  refine lv_istore (lv' := [(5, .int (nI 0)), (0, .ref (ad (10, 0))), (1, .int (nI le0)), (2, .int (nI lo0)), (3, .int (nI hi0)), (4, .int x)]) hx hb dX3_made_1 hl (by decide) rfl (fun ls hl => ?_)
  suffices key : ∀ (d i : Nat) (H : Heap) (locs : List Loc) (ls : Array Slot), i + d = fr lv → wd G A (ad, dm, ct0) H → va_S A s.heap H locs → lv_has ls 6 [(5, .int (nI i)), (0, .ref (ad (10, 0))), (1, .int (nI le0)), (2, .int (nI lo0)), (3, .int (nI hi0)), (4, .int x)] → W _ l e _ s m _ below meth c H locs 0 0 _ (F0 m 3 ls []) from
    key (fr lv) 0 _ _ ls (Nat.zero_add _) hW hS hl
  intro d
  induction d with
  | zero =>
    intro i H locs ls hi2 hW hS hl
    obtain rfl : i = fr lv := by omega
    refine lv_aload_n hx hb dX3_made_3 rfl (lv_at hl 1 rfl) ?_
    refine kg F hE hW (10, 0) (hM.1 0 (by decide)) rfl hM.2.1 rfl inA_X3 1 (by decide) kw_607 (v := .ref (ad (10, 1))) rfl dX3_made_4 ?_
    refine lv_iload hx hb dX3_made_7 (lv_at hl 0 rfl) ?_
    refine kl_z F hE hW (10, 1) (hM.1 1 (by decide)) rfl hM.2.2.1 (fr lv) rfl (by omega) (by decide) dX3_made_9 ?_
    rw [hlv]
    refine nz_eq (tgt := 19) hx hb dX3_made_10 (by decide) (by decide) (fun c1 => ?_) (fun c1 => ?_)
    · subst hr0
      refine lv_aload_n hx hb dX3_made_19 rfl (lv_at hl 1 rfl) ?_
      refine kg F hE hW (10, 0) (hM.1 0 (by decide)) rfl hM.2.1 rfl inA_X3 1 (by decide) kw_607 (v := .ref (ad (10, 1))) rfl dX3_made_20 ?_
      refine lv_iload hx hb dX3_made_23 (lv_at hl 0 rfl) ?_
      refine lv_iconst (v := nI 1) hx hb dX3_made_25 (by decide) ?_
      refine ms_lv (v := true) F hE hW hS hM (fr lv) rfl (by omega) dX3_made_26 (fun ct H locs hW hM hX0 hS => ?_)
      have hX := hX.tr hX0
      refine lv_aload_n hx hb dX3_made_27 rfl (lv_at hl 1 rfl) ?_
      refine kg F hE hW (10, 0) (hM.1 0 (by decide)) rfl hM.2.1 rfl inA_X3 2 (by decide) kw_608 (v := .ref (ad (10, 2))) rfl dX3_made_28 ?_
      refine lv_iload hx hb dX3_made_31 (lv_at hl 0 rfl) ?_
      refine lv_iload_n hx hb dX3_made_33 rfl (lv_at hl 2 rfl) ?_
      refine ms_lev (v := le0) F hE hW hS hM (fr lv) rfl (by omega) dX3_made_34 (fun ct H locs hW hM hX0 hS => ?_)
      have hX := hX.tr hX0
      refine lv_aload_n hx hb dX3_made_35 rfl (lv_at hl 1 rfl) ?_
      refine kg F hE hW (10, 0) (hM.1 0 (by decide)) rfl hM.2.1 rfl inA_X3 3 (by decide) kw_609 (v := .ref (ad (10, 3))) rfl dX3_made_36 ?_
      refine lv_iload hx hb dX3_made_39 (lv_at hl 0 rfl) ?_
      refine lv_iload_n hx hb dX3_made_41 rfl (lv_at hl 3 rfl) ?_
      refine ms_lo (v := lo0) F hE hW hS hM (fr lv) rfl (by omega) dX3_made_42 (fun ct H locs hW hM hX0 hS => ?_)
      have hX := hX.tr hX0
      refine lv_aload_n hx hb dX3_made_43 rfl (lv_at hl 1 rfl) ?_
      refine kg F hE hW (10, 0) (hM.1 0 (by decide)) rfl hM.2.1 rfl inA_X3 4 (by decide) kw_610 (v := .ref (ad (10, 4))) rfl dX3_made_44 ?_
      refine lv_iload hx hb dX3_made_47 (lv_at hl 0 rfl) ?_
      refine lv_iload_n hx hb dX3_made_49 rfl (lv_at hl 4 rfl) ?_
      refine ms_hi (v := hi0) F hE hW hS hM (fr lv) rfl (by omega) dX3_made_50 (fun ct H locs hW hM hX0 hS => ?_)
      have hX := hX.tr hX0
      refine lv_aload_n hx hb dX3_made_51 rfl (lv_at hl 1 rfl) ?_
      refine kg F hE hW (10, 0) (hM.1 0 (by decide)) rfl hM.2.1 rfl inA_X3 5 (by decide) kw_611 (v := .ref (ad (10, 5))) rfl dX3_made_52 ?_
      refine lv_iload hx hb dX3_made_55 (lv_at hl 0 rfl) ?_
      refine lv_iload hx hb dX3_made_57 (lv_at hl 5 rfl) ?_
      refine ms_ri (v := r0) F hE hW hS hM (fr lv) rfl (by omega) dX3_made_59 (fun ct H locs hW hM hX0 hS => ?_)
      have hX := hX.tr hX0
      refine lv_aload_n hx hb dX3_made_60 rfl (lv_at hl 1 rfl) ?_
      refine kg F hE hW (10, 0) (hM.1 0 (by decide)) rfl hM.2.1 rfl inA_X3 6 (by decide) kw_612 (v := .ref (ad (10, 6))) rfl dX3_made_61 ?_
      refine lv_iload hx hb dX3_made_64 (lv_at hl 0 rfl) ?_
      refine lv_iconst (v := nI 0) hx hb dX3_made_66 (by decide) ?_
      refine ms_sz (v := 0) F hE hW hS hM (fr lv) rfl (by omega) dX3_made_67 (fun ct H locs hW hM hX0 hS => ?_)
      have hX := hX.tr hX0
      refine lv_aload_n hx hb dX3_made_68 rfl (lv_at hl 1 rfl) ?_
      refine kg F hE hW (10, 0) (hM.1 0 (by decide)) rfl hM.2.1 rfl inA_X3 9 (by decide) kw_615 (v := .ref (ad (10, 9))) rfl dX3_made_69 ?_
      refine lv_iload hx hb dX3_made_72 (lv_at hl 0 rfl) ?_
      refine lv_iconst (v := (-1)) hx hb dX3_made_74 (by decide) ?_
      refine ms_go (v := none) F hE hW hS hM (fr lv) rfl (by omega) dX3_made_75 (fun ct H locs hW hM hX0 hS => ?_)
      have hX := hX.tr hX0
      refine lv_iload hx hb dX3_made_76 (lv_at hl 0 rfl) ?_
      exact kr_i F hr hlk hE hW hS (Nat.le_of_ble_eq_true rfl) (Nat.le_of_ble_eq_true rfl) dX3_made_78 (⟨_, rfl, hM, hX, rfl⟩)
    · exact absurd rfl c1
  | succ d ih =>
    intro i H locs ls hi2 hW hS hl
    refine lv_aload_n hx hb dX3_made_3 rfl (lv_at hl 1 rfl) ?_
    refine kg F hE hW (10, 0) (hM.1 0 (by decide)) rfl hM.2.1 rfl inA_X3 1 (by decide) kw_607 (v := .ref (ad (10, 1))) rfl dX3_made_4 ?_
    refine lv_iload hx hb dX3_made_7 (lv_at hl 0 rfl) ?_
    refine kl_z F hE hW (10, 1) (hM.1 1 (by decide)) rfl hM.2.2.1 i rfl (by omega) (by decide) dX3_made_9 ?_
    rw [hlt i (by omega)]
    refine nz_eq (tgt := 19) hx hb dX3_made_10 (by decide) (by decide) (fun c1 => ?_) (fun c1 => ?_)
    · exact absurd c1 (by decide)
    · refine lv_iinc (v := nI (i + 1)) (lv' := [(5, .int (nI (i + 1))), (0, .ref (ad (10, 0))), (1, .int (nI le0)), (2, .int (nI lo0)), (3, .int (nI hi0)), (4, .int x)]) hx hb dX3_made_13 hl (k := 0) rfl (ki1 _) (by decide) rfl (fun ls hl => ?_)
      refine lv_goto (tgt := 3) hx hb dX3_made_16 (by decide) ?_
      exact ih (i + 1) _ _ _ (by omega) hW hS hl
end
section
/-! The reference: going down, adding, splitting. -/
theorem lI_p {c : Nat} (h : 0 < c) : lI c = nI (c - 1) := by
  obtain ⟨k, rfl⟩ : ∃ k, c = k + 1 := ⟨c - 1, by omega⟩
  rw [lI_s]; rfl
theorem pg_bd {lv : Nat → Bool} {lev lo hi : Nat → Nat} {ri : Nat → Option Nat} {sz ky vl : Nat → Nat} {go : Nat → Option Nat} {rt ep nb : Nat} {o n : Nat} (hP : PgI lv lev lo hi ri sz ky vl go rt ep nb o) (hb : nb ≤ 513) (hn : lv n = true) : n < 513 ∧ lev n < 513 ∧ hi n ≤ 200 ∧ lo n < hi n ∧ sz n ≤ 5 ∧ ∀ k, k < sz n → ky (5 * n + k) < 200 ∧ vl (5 * n + k) < 10000 := by
  obtain ⟨p1, p2, p3, p4, p5, p6, p7, p8, p9, p10⟩ := hP
  obtain ⟨a1, a2, a3, a4, a5⟩ := p1 n hn
  refine ⟨by omega, by omega, a4, a3, by split at a5 <;> omega, fun k hk => ?_⟩
  obtain ⟨b1, b2, b3, b4⟩ := p2 n hn k hk
  exact ⟨by omega, b3⟩
def shA (f : Nat → Nat) (pg k n : Nat) : Nat → Nat := fun i => if 5 * pg + k < i ∧ i ≤ 5 * pg + n then f (i - 1) else f i
theorem shA_0 (f : Nat → Nat) (pg n : Nat) : shA f pg n n = f := by
  funext i; unfold shA; rw [if_neg (by omega)]
theorem shA_at (f : Nat → Nat) (pg k n : Nat) : shA f pg (k + 1) n (5 * pg + (k + 1) - 1) = f (5 * pg + k) := by
  unfold shA; rw [if_neg (by omega)]; rfl
theorem shA_step (f : Nat → Nat) (pg k n : Nat) (h : k + 1 ≤ n) : va_up (shA f pg (k + 1) n) (5 * pg + (k + 1)) (f (5 * pg + k)) = shA f pg k n := by
  funext i
  by_cases e : i = 5 * pg + (k + 1)
  · subst e
    rw [va_up_self]; unfold shA; rw [if_pos (by omega)]; rfl
  · rw [va_up_ne _ _ e]; unfold shA
    by_cases q : 5 * pg + (k + 1) < i ∧ i ≤ 5 * pg + n
    · rw [if_pos q, if_pos (by omega)]
    · rw [if_neg q, if_neg (by omega)]
theorem shA_end (f : Nat → Nat) (pg q n x : Nat) : va_up (shA f pg q n) (5 * pg + q) x = insA f pg q n x := by
  funext i
  by_cases e : i = 5 * pg + q
  · subst e; rw [va_up_self]; unfold insA; rw [if_pos rfl]
  · rw [va_up_ne _ _ e]; unfold shA insA; rw [if_neg e]
set_option maxRecDepth 100000 in
set_option maxHeartbeats 4000000 in
theorem c_X3_down (l : Launch) (G : GG) (A : Nat → Prop) (ad : Lb → Nat) (dm : Lb → Prop) (ct0 : Lb → va_E) (lv : Nat → Bool) (lev : Nat → Nat) (lo : Nat → Nat) (hi : Nat → Nat) (ri : Nat → Option Nat) (sz : Nat → Nat) (ky : Nat → Nat) (vl : Nat → Nat) (go : Nat → Option Nat) (rt : Nat) (ep : Nat) (wq : Nat → Nat) (wn : Nat) (cn : Nat) (op : Nat → Bool) (cl : Nat → Nat) (ca : Nat → Nat) (ce : Nat → Nat) (kc : Nat) (nb : Nat) (th fo : Nat) (hM : MDF G ad dm ct0 lv lev lo hi ri sz ky vl go rt ep wq wn cn op cl ca ce kc nb th fo) (oo key lvl : Nat) (hP : PgI lv lev lo hi ri sz ky vl go rt ep nb oo) (hb9 : nb ≤ 513) (hk : key < 200) (hlv : lvl ≤ lev rt) :
    CT l yX3_down cX3_down 5 (some FieldType.int) { frames := 1, cells := 0, slots := 0, locals := 24 } [.ref (ad (10, 0)), .int (nI key), .int (nI lvl)] G A (ad, dm, ct0) (fun v w' => ∃ ct', w' = (ad, dm, ct') ∧ MDF G ad dm ct' lv lev lo hi ri sz ky vl go rt ep wq wn cn op cl ca ce kc nb th ((dnF lev hi ri sz ky vl key lvl 2000 rt).2) ∧ XM ct0 ct' ∧ v = some (.int (nI (dnF lev hi ri sz ky vl key lvl 2000 rt).1))) (fun _ => False) (0) (0) := by
  refine ct_of (by decide) (Nat.le_of_ble_eq_true rfl) ?_
  intro p e s m below meth c ls F hr hlk hnm hex hE hW hl
  have hx := F.1
  have hb := F.2.1
  have hS : va_S A s.heap s.heap [] := va_S.rf
  have hl : lv_has ls 5 [(0, .ref (ad (10, 0))), (1, .int (nI key)), (2, .int (nI lvl))] := hl
  have hX : XM ct0 ct0 := XM.rf
  refine lv_aload_n hx hb dX3_down_0 rfl (lv_at hl 0 rfl) ?_
  refine kg F hE hW (10, 0) (hM.1 0 (by decide)) rfl hM.2.1 rfl inA_X3 10 (by decide) kw_616 (v := .int (nI rt)) rfl dX3_down_1 ?_
  refine lv_istore_n (lv' := [(3, .int (nI rt)), (0, .ref (ad (10, 0))), (1, .int (nI key)), (2, .int (nI lvl))]) hx hb dX3_down_4 rfl hl (by decide) rfl (fun ls hl => ?_)
  refine lv_aload_n hx hb dX3_down_5 rfl (lv_at hl 1 rfl) ?_
  refine lv_iconst (v := nI 0) hx hb dX3_down_6 (by decide) ?_
  refine mp_fo (v := 0) F hE hW hS hM kw_625 dX3_down_7 (fun ct H locs hW hM hX0 hS => ?_)
  have hX := hX.tr hX0
  have hv0 := vp_root (key := key) hP hlv
  have hm0 := mu_root hP hb9
  generalize hRR : dnF lev hi ri sz ky vl key lvl 2000 rt = RR
  suffices key : ∀ (d pg f0 : Nat) (ct1 : Lb → va_E) (H : Heap) (locs : List Loc) (ls : Array Slot), VP lv lev lo go key lvl pg → mu lev lo pg < d → (dnF lev hi ri sz ky vl key lvl d pg).1 = RR.1 → f0 + (dnF lev hi ri sz ky vl key lvl d pg).2 = RR.2 → MDF G ad dm ct1 lv lev lo hi ri sz ky vl go rt ep wq wn cn op cl ca ce kc nb th f0 → XM ct0 ct1 → wd G A (ad, dm, ct1) H → va_S A s.heap H locs → lv_has ls 5 [(3, .int (nI pg)), (0, .ref (ad (10, 0))), (1, .int (nI key)), (2, .int (nI lvl))] → W _ l e _ s m _ below meth c H locs 0 0 _ (F0 m 10 ls []) from
    key 2000 rt 0 _ _ _ ls hv0 (by omega) (by rw [hRR]) (by rw [hRR]; exact Nat.zero_add _) hM hX hW hS hl
  clear hM hX hW hS hl
  intro d
  induction d with
  | zero => intro pg f0 ct1 H locs ls hv hm; omega
  | succ d ih =>
    intro pg f0 ct H locs ls hv hm hr1 hr2 hM hX hW hS hl
    obtain ⟨g1, g2, g3, g4, g5, g6⟩ := pg_bd hP hb9 hv.1.1
    have hlv9 : lvl < 513 := by have := hv.2.2; omega
    unfold dnF at hr1 hr2
    rcases nxt_vp hP hk hv with ⟨hn, h2, h3⟩ | ⟨rz, hn, hrz, hmz, hcase⟩
    · rw [hn] at hr1 hr2
      dsimp only at hr1 hr2
      refine lv_aload_n hx hb dX3_down_10 rfl (lv_at hl 1 rfl) ?_
      refine kg F hE hW (10, 0) (hM.1 0 (by decide)) rfl hM.2.1 rfl inA_X3 2 (by decide) kw_608 (v := .ref (ad (10, 2))) rfl dX3_down_11 ?_
      refine lv_iload_n hx hb dX3_down_14 rfl (lv_at hl 0 rfl) ?_
      refine kl_i F hE hW (10, 2) (hM.1 2 (by decide)) rfl hM.2.2.2.1 pg rfl (by omega) (by decide) dX3_down_15 ?_
      refine lv_iload_n hx hb dX3_down_16 rfl (lv_at hl 3 rfl) ?_
      refine nc_gt (tgt := 30) hx hb dX3_down_17 (by decide) (by omega) (by omega) (fun c1 => ?_) (fun c1 => ?_)
      · exact absurd c1 (by omega)
      · refine lv_iload_n hx hb dX3_down_20 rfl (lv_at hl 2 rfl) ?_
        refine lv_aload_n hx hb dX3_down_21 rfl (lv_at hl 1 rfl) ?_
        refine kg F hE hW (10, 0) (hM.1 0 (by decide)) rfl hM.2.1 rfl inA_X3 4 (by decide) kw_610 (v := .ref (ad (10, 4))) rfl dX3_down_22 ?_
        refine lv_iload_n hx hb dX3_down_25 rfl (lv_at hl 0 rfl) ?_
        refine kl_i F hE hW (10, 4) (hM.1 4 (by decide)) rfl hM.2.2.2.2.2.1 pg rfl (by omega) (by decide) dX3_down_26 ?_
        refine nc_lt (tgt := 99) hx hb dX3_down_27 (by decide) (by omega) (by omega) (fun c2 => ?_) (fun c2 => ?_)
        · refine lv_iload_n hx hb dX3_down_99 rfl (lv_at hl 0 rfl) ?_
          exact kr_i F hr hlk hE hW hS (Nat.le_of_ble_eq_true rfl) (Nat.le_of_ble_eq_true rfl) dX3_down_100 (⟨_, rfl, by rw [← hr2]; exact hM, hX, by rw [← hr1]⟩)
        · exact absurd c2 (by omega)
    · rw [hn] at hr1 hr2
      dsimp only at hr1 hr2
      rcases hcase with ⟨k1, k2, k3⟩ | ⟨k1, k2, k3, k4, k5⟩
      · refine lv_aload_n hx hb dX3_down_10 rfl (lv_at hl 1 rfl) ?_
        refine kg F hE hW (10, 0) (hM.1 0 (by decide)) rfl hM.2.1 rfl inA_X3 2 (by decide) kw_608 (v := .ref (ad (10, 2))) rfl dX3_down_11 ?_
        refine lv_iload_n hx hb dX3_down_14 rfl (lv_at hl 0 rfl) ?_
        refine kl_i F hE hW (10, 2) (hM.1 2 (by decide)) rfl hM.2.2.2.1 pg rfl (by omega) (by decide) dX3_down_15 ?_
        refine lv_iload_n hx hb dX3_down_16 rfl (lv_at hl 3 rfl) ?_
        refine nc_gt (tgt := 30) hx hb dX3_down_17 (by decide) (by omega) (by omega) (fun c1 => ?_) (fun c1 => ?_)
        · refine lv_iload_n hx hb dX3_down_30 rfl (lv_at hl 2 rfl) ?_
          refine lv_aload_n hx hb dX3_down_31 rfl (lv_at hl 1 rfl) ?_
          refine kg F hE hW (10, 0) (hM.1 0 (by decide)) rfl hM.2.1 rfl inA_X3 4 (by decide) kw_610 (v := .ref (ad (10, 4))) rfl dX3_down_32 ?_
          refine lv_iload_n hx hb dX3_down_35 rfl (lv_at hl 0 rfl) ?_
          refine kl_i F hE hW (10, 4) (hM.1 4 (by decide)) rfl hM.2.2.2.2.2.1 pg rfl (by omega) (by decide) dX3_down_36 ?_
          refine nc_lt (tgt := 44) hx hb dX3_down_37 (by decide) (by omega) (by omega) (fun c3 => ?_) (fun c3 => ?_)
          · exact absurd c3 (by omega)
          · refine lv_iconst (v := nI 1) hx hb dX3_down_40 (by decide) ?_
            refine lv_goto (tgt := 45) hx hb dX3_down_41 (by decide) ?_
            refine lv_istore (lv' := [(4, .int (nI 1)), (3, .int (nI pg)), (0, .ref (ad (10, 0))), (1, .int (nI key)), (2, .int (nI lvl))]) hx hb dX3_down_45 hl (by decide) rfl (fun ls hl => ?_)
            refine lv_aload_n hx hb dX3_down_47 rfl (lv_at hl 2 rfl) ?_
            refine lv_dup hx hb dX3_down_48 rfl ?_
            refine kg F hE hW (10, 0) (hM.1 0 (by decide)) rfl hM.2.1 rfl inA_X3 19 (by decide) kw_625 (v := .int (nI f0)) rfl dX3_down_49 ?_
            refine lv_iload hx hb dX3_down_52 (lv_at hl 0 rfl) ?_
            refine nz_eq (tgt := 61) hx hb dX3_down_54 (by decide) (by decide) (fun c4 => ?_) (fun c4 => ?_)
            · exact absurd c4 (by decide)
            · refine lv_iconst (v := nI 1) hx hb dX3_down_57 (by decide) ?_
              refine lv_goto (tgt := 62) hx hb dX3_down_58 (by decide) ?_
              refine lv_iadd hx hb dX3_down_62 ?_
              refine ktop (nI_add _ _) ?_
              refine mp_fo (v := f0 + 1) F hE hW hS hM kw_625 dX3_down_63 (fun ct H locs hW hM hX0 hS => ?_)
              have hX := hX.tr hX0
              refine lv_iload hx hb dX3_down_66 (lv_at hl 0 rfl) ?_
              refine nz_eq (tgt := 80) hx hb dX3_down_68 (by decide) (by decide) (fun c5 => ?_) (fun c5 => ?_)
              · exact absurd c5 (by decide)
              · refine lv_aload_n hx hb dX3_down_71 rfl (lv_at hl 2 rfl) ?_
                refine kg F hE hW (10, 0) (hM.1 0 (by decide)) rfl hM.2.1 rfl inA_X3 5 (by decide) kw_611 (v := .ref (ad (10, 5))) rfl dX3_down_72 ?_
                refine lv_iload_n hx hb dX3_down_75 rfl (lv_at hl 1 rfl) ?_
                refine kl_i F hE hW (10, 5) (hM.1 5 (by decide)) rfl hM.2.2.2.2.2.2.1 pg rfl (by omega) (by decide) dX3_down_76 ?_
                refine ktop (y := nI rz) (by rw [k2]; rfl) ?_
                refine lv_goto (tgt := 95) hx hb dX3_down_77 (by decide) ?_
                refine lv_istore_n (lv' := [(3, .int (nI rz)), (4, .int (nI 1)), (0, .ref (ad (10, 0))), (1, .int (nI key)), (2, .int (nI lvl))]) hx hb dX3_down_95 rfl hl (by decide) rfl (fun ls hl => ?_)
                refine lv_goto (tgt := 10) hx hb dX3_down_96 (by decide) ?_
                rw [if_pos k1] at hr2
                exact ih rz (f0 + 1) ct _ _ _ hrz (by omega) hr1 (by omega) hM hX hW hS (lv_sub hl [0, 2, 3, 4] rfl)
        · refine lv_iload_n hx hb dX3_down_20 rfl (lv_at hl 2 rfl) ?_
          refine lv_aload_n hx hb dX3_down_21 rfl (lv_at hl 1 rfl) ?_
          refine kg F hE hW (10, 0) (hM.1 0 (by decide)) rfl hM.2.1 rfl inA_X3 4 (by decide) kw_610 (v := .ref (ad (10, 4))) rfl dX3_down_22 ?_
          refine lv_iload_n hx hb dX3_down_25 rfl (lv_at hl 0 rfl) ?_
          refine kl_i F hE hW (10, 4) (hM.1 4 (by decide)) rfl hM.2.2.2.2.2.1 pg rfl (by omega) (by decide) dX3_down_26 ?_
          refine nc_lt (tgt := 99) hx hb dX3_down_27 (by decide) (by omega) (by omega) (fun c2 => ?_) (fun c2 => ?_)
          · exact absurd c2 (by omega)
          · refine lv_iload_n hx hb dX3_down_30 rfl (lv_at hl 2 rfl) ?_
            refine lv_aload_n hx hb dX3_down_31 rfl (lv_at hl 1 rfl) ?_
            refine kg F hE hW (10, 0) (hM.1 0 (by decide)) rfl hM.2.1 rfl inA_X3 4 (by decide) kw_610 (v := .ref (ad (10, 4))) rfl dX3_down_32 ?_
            refine lv_iload_n hx hb dX3_down_35 rfl (lv_at hl 0 rfl) ?_
            refine kl_i F hE hW (10, 4) (hM.1 4 (by decide)) rfl hM.2.2.2.2.2.1 pg rfl (by omega) (by decide) dX3_down_36 ?_
            refine nc_lt (tgt := 44) hx hb dX3_down_37 (by decide) (by omega) (by omega) (fun c3 => ?_) (fun c3 => ?_)
            · exact absurd c3 (by omega)
            · refine lv_iconst (v := nI 1) hx hb dX3_down_40 (by decide) ?_
              refine lv_goto (tgt := 45) hx hb dX3_down_41 (by decide) ?_
              refine lv_istore (lv' := [(4, .int (nI 1)), (3, .int (nI pg)), (0, .ref (ad (10, 0))), (1, .int (nI key)), (2, .int (nI lvl))]) hx hb dX3_down_45 hl (by decide) rfl (fun ls hl => ?_)
              refine lv_aload_n hx hb dX3_down_47 rfl (lv_at hl 2 rfl) ?_
              refine lv_dup hx hb dX3_down_48 rfl ?_
              refine kg F hE hW (10, 0) (hM.1 0 (by decide)) rfl hM.2.1 rfl inA_X3 19 (by decide) kw_625 (v := .int (nI f0)) rfl dX3_down_49 ?_
              refine lv_iload hx hb dX3_down_52 (lv_at hl 0 rfl) ?_
              refine nz_eq (tgt := 61) hx hb dX3_down_54 (by decide) (by decide) (fun c4 => ?_) (fun c4 => ?_)
              · exact absurd c4 (by decide)
              · refine lv_iconst (v := nI 1) hx hb dX3_down_57 (by decide) ?_
                refine lv_goto (tgt := 62) hx hb dX3_down_58 (by decide) ?_
                refine lv_iadd hx hb dX3_down_62 ?_
                refine ktop (nI_add _ _) ?_
                refine mp_fo (v := f0 + 1) F hE hW hS hM kw_625 dX3_down_63 (fun ct H locs hW hM hX0 hS => ?_)
                have hX := hX.tr hX0
                refine lv_iload hx hb dX3_down_66 (lv_at hl 0 rfl) ?_
                refine nz_eq (tgt := 80) hx hb dX3_down_68 (by decide) (by decide) (fun c5 => ?_) (fun c5 => ?_)
                · exact absurd c5 (by decide)
                · refine lv_aload_n hx hb dX3_down_71 rfl (lv_at hl 2 rfl) ?_
                  refine kg F hE hW (10, 0) (hM.1 0 (by decide)) rfl hM.2.1 rfl inA_X3 5 (by decide) kw_611 (v := .ref (ad (10, 5))) rfl dX3_down_72 ?_
                  refine lv_iload_n hx hb dX3_down_75 rfl (lv_at hl 1 rfl) ?_
                  refine kl_i F hE hW (10, 5) (hM.1 5 (by decide)) rfl hM.2.2.2.2.2.2.1 pg rfl (by omega) (by decide) dX3_down_76 ?_
                  refine ktop (y := nI rz) (by rw [k2]; rfl) ?_
                  refine lv_goto (tgt := 95) hx hb dX3_down_77 (by decide) ?_
                  refine lv_istore_n (lv' := [(3, .int (nI rz)), (4, .int (nI 1)), (0, .ref (ad (10, 0))), (1, .int (nI key)), (2, .int (nI lvl))]) hx hb dX3_down_95 rfl hl (by decide) rfl (fun ls hl => ?_)
                  refine lv_goto (tgt := 10) hx hb dX3_down_96 (by decide) ?_
                  rw [if_pos k1] at hr2
                  exact ih rz (f0 + 1) ct _ _ _ hrz (by omega) hr1 (by omega) hM hX hW hS (lv_sub hl [0, 2, 3, 4] rfl)
      · refine lv_aload_n hx hb dX3_down_10 rfl (lv_at hl 1 rfl) ?_
        refine kg F hE hW (10, 0) (hM.1 0 (by decide)) rfl hM.2.1 rfl inA_X3 2 (by decide) kw_608 (v := .ref (ad (10, 2))) rfl dX3_down_11 ?_
        refine lv_iload_n hx hb dX3_down_14 rfl (lv_at hl 0 rfl) ?_
        refine kl_i F hE hW (10, 2) (hM.1 2 (by decide)) rfl hM.2.2.2.1 pg rfl (by omega) (by decide) dX3_down_15 ?_
        refine lv_iload_n hx hb dX3_down_16 rfl (lv_at hl 3 rfl) ?_
        refine nc_gt (tgt := 30) hx hb dX3_down_17 (by decide) (by omega) (by omega) (fun c1 => ?_) (fun c1 => ?_)
        · refine lv_iload_n hx hb dX3_down_30 rfl (lv_at hl 2 rfl) ?_
          refine lv_aload_n hx hb dX3_down_31 rfl (lv_at hl 1 rfl) ?_
          refine kg F hE hW (10, 0) (hM.1 0 (by decide)) rfl hM.2.1 rfl inA_X3 4 (by decide) kw_610 (v := .ref (ad (10, 4))) rfl dX3_down_32 ?_
          refine lv_iload_n hx hb dX3_down_35 rfl (lv_at hl 0 rfl) ?_
          refine kl_i F hE hW (10, 4) (hM.1 4 (by decide)) rfl hM.2.2.2.2.2.1 pg rfl (by omega) (by decide) dX3_down_36 ?_
          refine nc_lt (tgt := 44) hx hb dX3_down_37 (by decide) (by omega) (by omega) (fun c3 => ?_) (fun c3 => ?_)
          · refine lv_iconst (v := nI 0) hx hb dX3_down_44 (by decide) ?_
            refine lv_istore (lv' := [(4, .int (nI 0)), (3, .int (nI pg)), (0, .ref (ad (10, 0))), (1, .int (nI key)), (2, .int (nI lvl))]) hx hb dX3_down_45 hl (by decide) rfl (fun ls hl => ?_)
            refine lv_aload_n hx hb dX3_down_47 rfl (lv_at hl 2 rfl) ?_
            refine lv_dup hx hb dX3_down_48 rfl ?_
            refine kg F hE hW (10, 0) (hM.1 0 (by decide)) rfl hM.2.1 rfl inA_X3 19 (by decide) kw_625 (v := .int (nI f0)) rfl dX3_down_49 ?_
            refine lv_iload hx hb dX3_down_52 (lv_at hl 0 rfl) ?_
            refine nz_eq (tgt := 61) hx hb dX3_down_54 (by decide) (by decide) (fun c4 => ?_) (fun c4 => ?_)
            · refine lv_iconst (v := nI 0) hx hb dX3_down_61 (by decide) ?_
              refine lv_iadd hx hb dX3_down_62 ?_
              refine ktop (nI_add _ _) ?_
              refine mp_fo (v := f0 + 0) F hE hW hS hM kw_625 dX3_down_63 (fun ct H locs hW hM hX0 hS => ?_)
              have hX := hX.tr hX0
              refine lv_iload hx hb dX3_down_66 (lv_at hl 0 rfl) ?_
              refine nz_eq (tgt := 80) hx hb dX3_down_68 (by decide) (by decide) (fun c5 => ?_) (fun c5 => ?_)
              · refine lv_aload_n hx hb dX3_down_80 rfl (lv_at hl 2 rfl) ?_
                refine kg F hE hW (10, 0) (hM.1 0 (by decide)) rfl hM.2.1 rfl inA_X3 8 (by decide) kw_614 (v := .ref (ad (10, 8))) rfl dX3_down_81 ?_
                refine lv_iconst (v := nI 5) hx hb dX3_down_84 (by decide) ?_
                refine lv_iload_n hx hb dX3_down_85 rfl (lv_at hl 1 rfl) ?_
                refine lv_imul hx hb dX3_down_86 ?_
                refine ktop (pk_mul _ _) ?_
                refine lv_aload_n hx hb dX3_down_87 rfl (lv_at hl 2 rfl) ?_
                refine lv_iload_n hx hb dX3_down_88 rfl (lv_at hl 1 rfl) ?_
                refine lv_iload_n hx hb dX3_down_89 rfl (lv_at hl 3 rfl) ?_
                refine kc_V 2 (c_X3_place l G A ad dm ct lv lev lo hi ri sz ky vl go rt ep wq wn cn op cl ca ce kc nb th (f0 + 0) hM pg (key + 1) (nI key) (by omega) g5 (lI_s key).symm (by omega) (fun k hk9 => by have := (g6 k hk9).1; omega)) F hE hW hS (10, 0) (hM.1 0 (by decide)) hM.2.1 rfl [.int (nI pg), .int (nI key)] rfl kw_690 kw_692 kp_18 kw_6 kw_693 (by decide +kernel) rfl ⟨rfl, rfl⟩ ⟨Nat.le_of_ble_eq_true rfl, Nat.le_of_ble_eq_true rfl⟩ hl.1 rfl (Nat.le_of_ble_eq_true rfl) dX3_down_90 ⟨Nat.le_of_ble_eq_true rfl, Nat.le_of_ble_eq_true rfl⟩ (fun _ _ _ _ _ h => h.elim) (fun v w' H locs hp hW hS => ?_)
                obtain ⟨rfl, rfl⟩ := hp
                have hcl := cnt_le (sz pg) (pk ky pg) (key + 1)
                refine ktop (lI_p k4) ?_
                refine lv_iadd hx hb dX3_down_93 ?_
                refine ktop (nI_add _ _) ?_
                refine kl_i F hE hW (10, 8) (hM.1 8 (by decide)) rfl hM.2.2.2.2.2.2.2.2.2.1 ((5 * pg) + (cnt (sz pg) (pk ky pg) (key + 1) - 1)) rfl (by omega) (by decide) dX3_down_94 ?_
                rw [← k5]
                refine lv_istore_n (lv' := [(3, .int (nI rz)), (4, .int (nI 0)), (0, .ref (ad (10, 0))), (1, .int (nI key)), (2, .int (nI lvl))]) hx hb dX3_down_95 rfl hl (by decide) rfl (fun ls hl => ?_)
                refine lv_goto (tgt := 10) hx hb dX3_down_96 (by decide) ?_
                rw [if_neg (by omega)] at hr2
                exact ih rz f0 ct _ _ _ hrz (by omega) hr1 (by omega) hM hX hW hS (lv_sub hl [0, 2, 3, 4] rfl)
              · exact absurd rfl c5
            · exact absurd rfl c4
          · exact absurd c3 (by omega)
        · exact absurd c1 (by omega)
end
section
/-! The reference: adding, splitting, posting, removing. -/
set_option maxRecDepth 100000 in
set_option maxHeartbeats 4000000 in
theorem c_X3_splits (l : Launch) (G : GG) (A : Nat → Prop) (ad : Lb → Nat) (dm : Lb → Prop) (ct0 : Lb → va_E) (lv : Nat → Bool) (lev : Nat → Nat) (lo : Nat → Nat) (hi : Nat → Nat) (ri : Nat → Option Nat) (sz : Nat → Nat) (ky : Nat → Nat) (vl : Nat → Nat) (go : Nat → Option Nat) (rt : Nat) (ep : Nat) (wq : Nat → Nat) (wn : Nat) (cn : Nat) (op : Nat → Bool) (cl : Nat → Nat) (ca : Nat → Nat) (ce : Nat → Nat) (kc : Nat) (nb : Nat) (th fo : Nat) (hM : MDF G ad dm ct0 lv lev lo hi ri sz ky vl go rt ep wq wn cn op cl ca ce kc nb th fo) (pg m0 : Nat) (hm0 : fr lv = m0) (hp0 : pg < 800) (hne0 : pg ≠ m0) (hwn : wn < 800) (hlv : lv (fr lv) = false) (hlt : ∀ j, j < fr lv → lv j = true) (hf8 : fr lv < 800) :
    CT l yX3_splits cX3_splits 3 none { frames := 1, cells := 0, slots := 0, locals := 25 } [.ref (ad (10, 0)), .int (nI pg)] G A (ad, dm, ct0) (fun v w' => ∃ ct', w' = (ad, dm, ct') ∧ MDF G ad dm ct' (va_up lv m0 true) (va_up lev m0 (lev pg)) (va_up lo m0 (ky (5 * pg + 3))) (va_up (va_up hi m0 (hi pg)) pg (ky (5 * pg + 3))) (va_up (va_up ri m0 (ri pg)) pg (some m0)) (va_up (va_up sz m0 2) pg 3) (va_up (va_up ky (5 * m0) (ky (5 * pg + 3))) (5 * m0 + 1) (ky (5 * pg + 4))) (va_up (va_up vl (5 * m0) (vl (5 * pg + 3))) (5 * m0 + 1) (vl (5 * pg + 4))) (va_up go m0 none) rt ep (va_up wq wn m0) (wn + 1) cn op cl ca ce kc nb th fo ∧ XM ct0 ct' ∧ v = none) (fun _ => False) (0) (0) := by
  refine ct_of (by decide) (Nat.le_of_ble_eq_true rfl) ?_
  intro p e s m below meth c ls F hr hlk hnm hex hE hW hl
  have hx := F.1
  have hb := F.2.1
  have hS : va_S A s.heap s.heap [] := va_S.rf
  have hl : lv_has ls 3 [(0, .ref (ad (10, 0))), (1, .int (nI pg))] := hl
  have hX : XM ct0 ct0 := XM.rf
  subst hm0
  refine lv_aload_n hx hb dX3_splits_0 rfl (lv_at hl 0 rfl) ?_
  refine lv_aload_n hx hb dX3_splits_1 rfl (lv_at hl 0 rfl) ?_
  refine kg F hE hW (10, 0) (hM.1 0 (by decide)) rfl hM.2.1 rfl inA_X3 2 (by decide) kw_608 (v := .ref (ad (10, 2))) rfl dX3_splits_2 ?_
  refine lv_iload_n hx hb dX3_splits_5 rfl (lv_at hl 1 rfl) ?_
  refine kl_i F hE hW (10, 2) (hM.1 2 (by decide)) rfl hM.2.2.2.1 pg rfl (by omega) (by decide) dX3_splits_6 ?_
  refine lv_aload_n hx hb dX3_splits_7 rfl (lv_at hl 0 rfl) ?_
  refine kg F hE hW (10, 0) (hM.1 0 (by decide)) rfl hM.2.1 rfl inA_X3 7 (by decide) kw_613 (v := .ref (ad (10, 7))) rfl dX3_splits_8 ?_
  refine lv_iconst (v := nI 5) hx hb dX3_splits_11 (by decide) ?_
  refine lv_iload_n hx hb dX3_splits_12 rfl (lv_at hl 1 rfl) ?_
  refine lv_imul hx hb dX3_splits_13 ?_
  refine ktop (pk_mul _ _) ?_
  refine lv_iconst (v := nI 3) hx hb dX3_splits_14 (by decide) ?_
  refine lv_iadd hx hb dX3_splits_15 ?_
  refine ktop (nI_add _ _) ?_
  refine kl_i F hE hW (10, 7) (hM.1 7 (by decide)) rfl hM.2.2.2.2.2.2.2.2.1 ((5 * pg) + 3) rfl (by omega) (by decide) dX3_splits_16 ?_
  refine lv_aload_n hx hb dX3_splits_17 rfl (lv_at hl 0 rfl) ?_
  refine kg F hE hW (10, 0) (hM.1 0 (by decide)) rfl hM.2.1 rfl inA_X3 4 (by decide) kw_610 (v := .ref (ad (10, 4))) rfl dX3_splits_18 ?_
  refine lv_iload_n hx hb dX3_splits_21 rfl (lv_at hl 1 rfl) ?_
  refine kl_i F hE hW (10, 4) (hM.1 4 (by decide)) rfl hM.2.2.2.2.2.1 pg rfl (by omega) (by decide) dX3_splits_22 ?_
  refine lv_aload_n hx hb dX3_splits_23 rfl (lv_at hl 0 rfl) ?_
  refine kg F hE hW (10, 0) (hM.1 0 (by decide)) rfl hM.2.1 rfl inA_X3 5 (by decide) kw_611 (v := .ref (ad (10, 5))) rfl dX3_splits_24 ?_
  refine lv_iload_n hx hb dX3_splits_27 rfl (lv_at hl 1 rfl) ?_
  refine kl_i F hE hW (10, 5) (hM.1 5 (by decide)) rfl hM.2.2.2.2.2.2.1 pg rfl (by omega) (by decide) dX3_splits_28 ?_
  refine kc_V 4 (c_X3_made l G A ad dm ct0 lv lev lo hi ri sz ky vl go rt ep wq wn cn op cl ca ce kc nb th fo hM (lev pg) (ky ((5 * pg) + 3)) (hi pg) (oI (ri pg)) (ri pg) rfl hlv hlt hf8) F hE hW hS (10, 0) (hM.1 0 (by decide)) hM.2.1 rfl [.int (nI (lev pg)), .int (nI (ky ((5 * pg) + 3))), .int (nI (hi pg)), .int (oI (ri pg))] rfl kw_602 kw_604 kp_15 kw_6 kw_605 (by decide +kernel) rfl ⟨rfl, rfl⟩ ⟨Nat.le_of_ble_eq_true rfl, Nat.le_of_ble_eq_true rfl⟩ hl.1 rfl (Nat.le_of_ble_eq_true rfl) dX3_splits_29 ⟨Nat.le_of_ble_eq_true rfl, Nat.le_of_ble_eq_true rfl⟩ (fun _ _ _ _ _ h => h.elim) (fun v w' H locs hp hW hS => ?_)
  obtain ⟨ct2, rfl, hM, hX0, rfl⟩ := hp
  have hX := hX.tr hX0
  refine lv_istore_n (lv' := [(2, .int (nI (fr lv))), (0, .ref (ad (10, 0))), (1, .int (nI pg))]) hx hb dX3_splits_32 rfl hl (by decide) rfl (fun ls hl => ?_)
  refine lv_aload_n hx hb dX3_splits_33 rfl (lv_at hl 1 rfl) ?_
  refine lv_iload_n hx hb dX3_splits_34 rfl (lv_at hl 0 rfl) ?_
  refine lv_iconst (v := nI 0) hx hb dX3_splits_35 (by decide) ?_
  refine lv_aload_n hx hb dX3_splits_36 rfl (lv_at hl 1 rfl) ?_
  refine kg F hE hW (10, 0) (hM.1 0 (by decide)) rfl hM.2.1 rfl inA_X3 7 (by decide) kw_613 (v := .ref (ad (10, 7))) rfl dX3_splits_37 ?_
  refine lv_iconst (v := nI 5) hx hb dX3_splits_40 (by decide) ?_
  refine lv_iload_n hx hb dX3_splits_41 rfl (lv_at hl 2 rfl) ?_
  refine lv_imul hx hb dX3_splits_42 ?_
  refine ktop (pk_mul _ _) ?_
  refine lv_iconst (v := nI 3) hx hb dX3_splits_43 (by decide) ?_
  refine lv_iadd hx hb dX3_splits_44 ?_
  refine ktop (nI_add _ _) ?_
  refine kl_i F hE hW (10, 7) (hM.1 7 (by decide)) rfl hM.2.2.2.2.2.2.2.2.1 ((5 * pg) + 3) rfl (by omega) (by decide) dX3_splits_45 ?_
  refine lv_aload_n hx hb dX3_splits_46 rfl (lv_at hl 1 rfl) ?_
  refine kg F hE hW (10, 0) (hM.1 0 (by decide)) rfl hM.2.1 rfl inA_X3 8 (by decide) kw_614 (v := .ref (ad (10, 8))) rfl dX3_splits_47 ?_
  refine lv_iconst (v := nI 5) hx hb dX3_splits_50 (by decide) ?_
  refine lv_iload_n hx hb dX3_splits_51 rfl (lv_at hl 2 rfl) ?_
  refine lv_imul hx hb dX3_splits_52 ?_
  refine ktop (pk_mul _ _) ?_
  refine lv_iconst (v := nI 3) hx hb dX3_splits_53 (by decide) ?_
  refine lv_iadd hx hb dX3_splits_54 ?_
  refine ktop (nI_add _ _) ?_
  refine kl_i F hE hW (10, 8) (hM.1 8 (by decide)) rfl hM.2.2.2.2.2.2.2.2.2.1 ((5 * pg) + 3) rfl (by omega) (by decide) dX3_splits_55 ?_
  refine kc_V 4 (c_X3_sets l G A ad dm ct2 (va_up lv (fr lv) true) (va_up lev (fr lv) (lev pg)) (va_up lo (fr lv) (ky (5 * pg + 3))) (va_up hi (fr lv) (hi pg)) (va_up ri (fr lv) (ri pg)) (va_up sz (fr lv) 0) ky vl (va_up go (fr lv) none) rt ep wq wn cn op cl ca ce kc nb th fo hM (fr lv) 0 (ky ((5 * pg) + 3)) (vl ((5 * pg) + 3)) hf8 (by decide)) F hE hW hS (10, 0) (hM.1 0 (by decide)) hM.2.1 rfl [.int (nI (fr lv)), .int (nI 0), .int (nI (ky ((5 * pg) + 3))), .int (nI (vl ((5 * pg) + 3)))] rfl kw_702 kw_704 kp_21 kw_6 kw_705 (by decide +kernel) rfl ⟨rfl, rfl⟩ ⟨Nat.le_of_ble_eq_true rfl, Nat.le_of_ble_eq_true rfl⟩ hl.1 rfl (Nat.le_of_ble_eq_true rfl) dX3_splits_56 ⟨Nat.le_of_ble_eq_true rfl, Nat.le_of_ble_eq_true rfl⟩ (fun _ _ _ _ _ h => h.elim) (fun v w' H locs hp hW hS => ?_)
  obtain ⟨ct2, rfl, hM, hX0, rfl⟩ := hp
  have hX := hX.tr hX0
  refine lv_aload_n hx hb dX3_splits_59 rfl (lv_at hl 1 rfl) ?_
  refine lv_iload_n hx hb dX3_splits_60 rfl (lv_at hl 0 rfl) ?_
  refine lv_iconst (v := nI 1) hx hb dX3_splits_61 (by decide) ?_
  refine lv_aload_n hx hb dX3_splits_62 rfl (lv_at hl 1 rfl) ?_
  refine kg F hE hW (10, 0) (hM.1 0 (by decide)) rfl hM.2.1 rfl inA_X3 7 (by decide) kw_613 (v := .ref (ad (10, 7))) rfl dX3_splits_63 ?_
  refine lv_iconst (v := nI 5) hx hb dX3_splits_66 (by decide) ?_
  refine lv_iload_n hx hb dX3_splits_67 rfl (lv_at hl 2 rfl) ?_
  refine lv_imul hx hb dX3_splits_68 ?_
  refine ktop (pk_mul _ _) ?_
  refine lv_iconst (v := nI 4) hx hb dX3_splits_69 (by decide) ?_
  refine lv_iadd hx hb dX3_splits_70 ?_
  refine ktop (nI_add _ _) ?_
  refine kl_i F hE hW (10, 7) (hM.1 7 (by decide)) rfl hM.2.2.2.2.2.2.2.2.1 ((5 * pg) + 4) rfl (by omega) (by decide) dX3_splits_71 ?_
  refine ktop (congrArg nI (va_up_ne _ _ (by omega))) ?_
  refine lv_aload_n hx hb dX3_splits_72 rfl (lv_at hl 1 rfl) ?_
  refine kg F hE hW (10, 0) (hM.1 0 (by decide)) rfl hM.2.1 rfl inA_X3 8 (by decide) kw_614 (v := .ref (ad (10, 8))) rfl dX3_splits_73 ?_
  refine lv_iconst (v := nI 5) hx hb dX3_splits_76 (by decide) ?_
  refine lv_iload_n hx hb dX3_splits_77 rfl (lv_at hl 2 rfl) ?_
  refine lv_imul hx hb dX3_splits_78 ?_
  refine ktop (pk_mul _ _) ?_
  refine lv_iconst (v := nI 4) hx hb dX3_splits_79 (by decide) ?_
  refine lv_iadd hx hb dX3_splits_80 ?_
  refine ktop (nI_add _ _) ?_
  refine kl_i F hE hW (10, 8) (hM.1 8 (by decide)) rfl hM.2.2.2.2.2.2.2.2.2.1 ((5 * pg) + 4) rfl (by omega) (by decide) dX3_splits_81 ?_
  refine ktop (congrArg nI (va_up_ne _ _ (by omega))) ?_
  refine kc_V 4 (c_X3_sets l G A ad dm ct2 (va_up lv (fr lv) true) (va_up lev (fr lv) (lev pg)) (va_up lo (fr lv) (ky (5 * pg + 3))) (va_up hi (fr lv) (hi pg)) (va_up ri (fr lv) (ri pg)) (va_up sz (fr lv) 0) (va_up ky (5 * fr lv + 0) (ky (5 * pg + 3))) (va_up vl (5 * fr lv + 0) (vl (5 * pg + 3))) (va_up go (fr lv) none) rt ep wq wn cn op cl ca ce kc nb th fo hM (fr lv) 1 (ky (5 * pg + 4)) (vl (5 * pg + 4)) hf8 (by decide)) F hE hW hS (10, 0) (hM.1 0 (by decide)) hM.2.1 rfl [.int (nI (fr lv)), .int (nI 1), .int (nI (ky (5 * pg + 4))), .int (nI (vl (5 * pg + 4)))] rfl kw_702 kw_704 kp_21 kw_6 kw_705 (by decide +kernel) rfl ⟨rfl, rfl⟩ ⟨Nat.le_of_ble_eq_true rfl, Nat.le_of_ble_eq_true rfl⟩ hl.1 rfl (Nat.le_of_ble_eq_true rfl) dX3_splits_82 ⟨Nat.le_of_ble_eq_true rfl, Nat.le_of_ble_eq_true rfl⟩ (fun _ _ _ _ _ h => h.elim) (fun v w' H locs hp hW hS => ?_)
  obtain ⟨ct2, rfl, hM, hX0, rfl⟩ := hp
  have hX := hX.tr hX0
  refine lv_aload_n hx hb dX3_splits_85 rfl (lv_at hl 1 rfl) ?_
  refine kg F hE hW (10, 0) (hM.1 0 (by decide)) rfl hM.2.1 rfl inA_X3 6 (by decide) kw_612 (v := .ref (ad (10, 6))) rfl dX3_splits_86 ?_
  refine lv_iload_n hx hb dX3_splits_89 rfl (lv_at hl 0 rfl) ?_
  refine lv_iconst (v := nI 2) hx hb dX3_splits_90 (by decide) ?_
  refine ms_sz (v := 2) F hE hW hS hM (fr lv) rfl (by omega) dX3_splits_91 (fun ct H locs hW hM hX0 hS => ?_)
  have hX := hX.tr hX0
  rw [bx_uu] at hM
  refine lv_aload_n hx hb dX3_splits_92 rfl (lv_at hl 1 rfl) ?_
  refine kg F hE hW (10, 0) (hM.1 0 (by decide)) rfl hM.2.1 rfl inA_X3 6 (by decide) kw_612 (v := .ref (ad (10, 6))) rfl dX3_splits_93 ?_
  refine lv_iload_n hx hb dX3_splits_96 rfl (lv_at hl 2 rfl) ?_
  refine lv_iconst (v := nI 3) hx hb dX3_splits_97 (by decide) ?_
  refine ms_sz (v := 3) F hE hW hS hM pg rfl (by omega) dX3_splits_98 (fun ct H locs hW hM hX0 hS => ?_)
  have hX := hX.tr hX0
  refine lv_aload_n hx hb dX3_splits_99 rfl (lv_at hl 1 rfl) ?_
  refine kg F hE hW (10, 0) (hM.1 0 (by decide)) rfl hM.2.1 rfl inA_X3 4 (by decide) kw_610 (v := .ref (ad (10, 4))) rfl dX3_splits_100 ?_
  refine lv_iload_n hx hb dX3_splits_103 rfl (lv_at hl 2 rfl) ?_
  refine lv_aload_n hx hb dX3_splits_104 rfl (lv_at hl 1 rfl) ?_
  refine kg F hE hW (10, 0) (hM.1 0 (by decide)) rfl hM.2.1 rfl inA_X3 3 (by decide) kw_609 (v := .ref (ad (10, 3))) rfl dX3_splits_105 ?_
  refine lv_iload_n hx hb dX3_splits_108 rfl (lv_at hl 0 rfl) ?_
  refine kl_i F hE hW (10, 3) (hM.1 3 (by decide)) rfl hM.2.2.2.2.1 (fr lv) rfl (by omega) (by decide) dX3_splits_109 ?_
  refine ktop (congrArg nI (va_up_self _ _ _)) ?_
  refine ms_hi (v := ky (5 * pg + 3)) F hE hW hS hM pg rfl (by omega) dX3_splits_110 (fun ct H locs hW hM hX0 hS => ?_)
  have hX := hX.tr hX0
  refine lv_aload_n hx hb dX3_splits_111 rfl (lv_at hl 1 rfl) ?_
  refine kg F hE hW (10, 0) (hM.1 0 (by decide)) rfl hM.2.1 rfl inA_X3 5 (by decide) kw_611 (v := .ref (ad (10, 5))) rfl dX3_splits_112 ?_
  refine lv_iload_n hx hb dX3_splits_115 rfl (lv_at hl 2 rfl) ?_
  refine lv_iload_n hx hb dX3_splits_116 rfl (lv_at hl 0 rfl) ?_
  refine ms_ri (v := some (fr lv)) F hE hW hS hM pg rfl (by omega) dX3_splits_117 (fun ct H locs hW hM hX0 hS => ?_)
  have hX := hX.tr hX0
  refine lv_aload_n hx hb dX3_splits_118 rfl (lv_at hl 1 rfl) ?_
  refine kg F hE hW (10, 0) (hM.1 0 (by decide)) rfl hM.2.1 rfl inA_X3 12 (by decide) kw_618 (v := .ref (ad (10, 10))) rfl dX3_splits_119 ?_
  refine lv_aload_n hx hb dX3_splits_122 rfl (lv_at hl 1 rfl) ?_
  refine kg F hE hW (10, 0) (hM.1 0 (by decide)) rfl hM.2.1 rfl inA_X3 13 (by decide) kw_619 (v := .int (nI wn)) rfl dX3_splits_123 ?_
  refine lv_iload_n hx hb dX3_splits_126 rfl (lv_at hl 0 rfl) ?_
  refine ms_wq (v := fr lv) F hE hW hS hM wn rfl (by omega) dX3_splits_127 (fun ct H locs hW hM hX0 hS => ?_)
  have hX := hX.tr hX0
  refine lv_aload_n hx hb dX3_splits_128 rfl (lv_at hl 1 rfl) ?_
  refine lv_dup hx hb dX3_splits_129 rfl ?_
  refine kg F hE hW (10, 0) (hM.1 0 (by decide)) rfl hM.2.1 rfl inA_X3 13 (by decide) kw_619 (v := .int (nI wn)) rfl dX3_splits_130 ?_
  refine lv_iconst (v := nI 1) hx hb dX3_splits_133 (by decide) ?_
  refine lv_iadd hx hb dX3_splits_134 ?_
  refine ktop (nI_add _ _) ?_
  refine mp_wn (v := wn + 1) F hE hW hS hM kw_619 dX3_splits_135 (fun ct H locs hW hM hX0 hS => ?_)
  have hX := hX.tr hX0
  exact kr_v F hr hlk hE hW hS (Nat.le_of_ble_eq_true rfl) (Nat.le_of_ble_eq_true rfl) dX3_splits_138 (⟨_, rfl, hM, hX, rfl⟩)
set_option maxRecDepth 100000 in
set_option maxHeartbeats 4000000 in
theorem c_X3_adds (l : Launch) (G : GG) (A : Nat → Prop) (ad : Lb → Nat) (dm : Lb → Prop) (ct0 : Lb → va_E) (lv : Nat → Bool) (lev : Nat → Nat) (lo : Nat → Nat) (hi : Nat → Nat) (ri : Nat → Option Nat) (sz : Nat → Nat) (ky : Nat → Nat) (vl : Nat → Nat) (go : Nat → Option Nat) (rt : Nat) (ep : Nat) (wq : Nat → Nat) (wn : Nat) (cn : Nat) (op : Nat → Bool) (cl : Nat → Nat) (ca : Nat → Nat) (ce : Nat → Nat) (kc : Nat) (nb : Nat) (th fo : Nat) (hM : MDF G ad dm ct0 lv lev lo hi ri sz ky vl go rt ep wq wn cn op cl ca ce kc nb th fo) (pg x y : Nat) (hp0 : pg < 800) (hs4 : sz pg ≤ 4) (hx9 : x < 1000) (hky : ∀ i, i < sz pg → ky (5 * pg + i) < 2 ^ 30) (hal : lv pg = true) (hwn : wn < 800) (hlv : lv (fr lv) = false) (hlt : ∀ j, j < fr lv → lv j = true) (hf8 : fr lv < 800) :
    CT l yX3_adds cX3_adds 6 none { frames := 2, cells := 0, slots := 0, locals := 47 } [.ref (ad (10, 0)), .int (nI pg), .int (nI x), .int (nI y)] G A (ad, dm, ct0) (fun v w' => ∃ ct', w' = (ad, dm, ct') ∧ MD G ad dm ct' (addS (lv, lev, lo, hi, ri, sz, ky, vl, go, rt, ep, wq, wn, cn, op, cl, ca, ce, kc, nb) pg x y) th fo ∧ XM ct0 ct' ∧ v = none) (fun _ => False) (0) (0) := by
  refine ct_of (by decide) (Nat.le_of_ble_eq_true rfl) ?_
  intro p e s m below meth c ls F hr hlk hnm hex hE hW hl
  have hx := F.1
  have hb := F.2.1
  have hS : va_S A s.heap s.heap [] := va_S.rf
  have hl : lv_has ls 6 [(0, .ref (ad (10, 0))), (1, .int (nI pg)), (2, .int (nI x)), (3, .int (nI y))] := hl
  have hX : XM ct0 ct0 := XM.rf
  refine lv_aload_n hx hb dX3_adds_0 rfl (lv_at hl 0 rfl) ?_
  refine lv_iload_n hx hb dX3_adds_1 rfl (lv_at hl 1 rfl) ?_
  refine lv_iload_n hx hb dX3_adds_2 rfl (lv_at hl 2 rfl) ?_
  refine kc_V 2 (c_X3_place l G A ad dm ct0 lv lev lo hi ri sz ky vl go rt ep wq wn cn op cl ca ce kc nb th fo hM pg (x + 1) (nI x) hp0 (by omega) (lI_s x).symm (by omega) hky) F hE hW hS (10, 0) (hM.1 0 (by decide)) hM.2.1 rfl [.int (nI pg), .int (nI x)] rfl kw_690 kw_692 kp_18 kw_6 kw_693 (by decide +kernel) rfl ⟨rfl, rfl⟩ ⟨Nat.le_of_ble_eq_true rfl, Nat.le_of_ble_eq_true rfl⟩ hl.1 rfl (Nat.le_of_ble_eq_true rfl) dX3_adds_3 ⟨Nat.le_of_ble_eq_true rfl, Nat.le_of_ble_eq_true rfl⟩ (fun _ _ _ _ _ h => h.elim) (fun v w' H locs hp hW hS => ?_)
  obtain ⟨rfl, rfl⟩ := hp
  have hcl := cnt_le (sz pg) (pk ky pg) (x + 1)
  obtain ⟨qz, hqz⟩ : ∃ z, cnt (sz pg) (pk ky pg) (x + 1) = z := ⟨_, rfl⟩
  rw [hqz] at hcl ⊢
  have hlI : lI qz + nI 1 = nI qz := by
    cases qz with
    | zero => decide
    | succ k => rw [lI_s, nI_add]
  refine lv_iconst (v := nI 1) hx hb dX3_adds_6 (by decide) ?_
  refine lv_iadd hx hb dX3_adds_7 ?_
  refine ktop hlI ?_
  refine lv_istore (lv' := [(4, .int (nI qz)), (0, .ref (ad (10, 0))), (1, .int (nI pg)), (2, .int (nI x)), (3, .int (nI y))]) hx hb dX3_adds_8 hl (by decide) rfl (fun ls hl => ?_)
  refine lv_aload_n hx hb dX3_adds_10 rfl (lv_at hl 1 rfl) ?_
  refine kg F hE hW (10, 0) (hM.1 0 (by decide)) rfl hM.2.1 rfl inA_X3 6 (by decide) kw_612 (v := .ref (ad (10, 6))) rfl dX3_adds_11 ?_
  refine lv_iload_n hx hb dX3_adds_14 rfl (lv_at hl 2 rfl) ?_
  refine kl_i F hE hW (10, 6) (hM.1 6 (by decide)) rfl hM.2.2.2.2.2.2.2.1 pg rfl (by omega) (by decide) dX3_adds_15 ?_
  refine lv_istore (lv' := [(5, .int (nI (sz pg))), (4, .int (nI qz)), (0, .ref (ad (10, 0))), (1, .int (nI pg)), (2, .int (nI x)), (3, .int (nI y))]) hx hb dX3_adds_16 hl (by decide) rfl (fun ls hl => ?_)
  suffices key : ∀ (d tz : Nat) (ct1 : Lb → va_E) (H : Heap) (locs : List Loc) (ls : Array Slot), tz = qz + d → tz ≤ sz pg → MDF G ad dm ct1 lv lev lo hi ri sz (shA ky pg tz (sz pg)) (shA vl pg tz (sz pg)) go rt ep wq wn cn op cl ca ce kc nb th fo → XM ct0 ct1 → wd G A (ad, dm, ct1) H → va_S A s.heap H locs → lv_has ls 6 [(5, .int (nI tz)), (4, .int (nI qz)), (0, .ref (ad (10, 0))), (1, .int (nI pg)), (2, .int (nI x)), (3, .int (nI y))] → W _ l e _ s m _ below meth c H locs 0 0 _ (F0 m 18 ls []) from
    key (sz pg - qz) (sz pg) _ _ _ ls (by omega) (Nat.le_refl _) (by rw [shA_0, shA_0]; exact hM) hX hW hS hl
  clear hM hX hW hS hl
  intro d
  induction d with
  | zero =>
    intro tz ct H locs ls htz hts hM hX hW hS hl
    obtain rfl : qz = tz := htz.symm
    refine lv_iload hx hb dX3_adds_18 (lv_at hl 0 rfl) ?_
    refine lv_iload hx hb dX3_adds_20 (lv_at hl 1 rfl) ?_
    refine nc_le (tgt := 64) hx hb dX3_adds_22 (by decide) (by omega) (by omega) (fun c1 => ?_) (fun c1 => ?_)
    · refine lv_aload_n hx hb dX3_adds_64 rfl (lv_at hl 2 rfl) ?_
      refine lv_iload_n hx hb dX3_adds_65 rfl (lv_at hl 3 rfl) ?_
      refine lv_iload hx hb dX3_adds_66 (lv_at hl 1 rfl) ?_
      refine lv_iload_n hx hb dX3_adds_68 rfl (lv_at hl 4 rfl) ?_
      refine lv_iload_n hx hb dX3_adds_69 rfl (lv_at hl 5 rfl) ?_
      refine kc_V 4 (c_X3_sets l G A ad dm ct lv lev lo hi ri sz (shA ky pg (qz) (sz pg)) (shA vl pg (qz) (sz pg)) go rt ep wq wn cn op cl ca ce kc nb th fo hM pg qz x y hp0 (by omega)) F hE hW hS (10, 0) (hM.1 0 (by decide)) hM.2.1 rfl [.int (nI pg), .int (nI qz), .int (nI x), .int (nI y)] rfl kw_702 kw_704 kp_21 kw_6 kw_705 (by decide +kernel) rfl ⟨rfl, rfl⟩ ⟨Nat.le_of_ble_eq_true rfl, Nat.le_of_ble_eq_true rfl⟩ hl.1 rfl (Nat.le_of_ble_eq_true rfl) dX3_adds_70 ⟨Nat.le_of_ble_eq_true rfl, Nat.le_of_ble_eq_true rfl⟩ (fun _ _ _ _ _ h => h.elim) (fun v w' H locs hp hW hS => ?_)
      obtain ⟨ct2, rfl, hM, hX0, rfl⟩ := hp
      have hX := hX.tr hX0
      rw [shA_end, shA_end] at hM
      refine lv_aload_n hx hb dX3_adds_73 rfl (lv_at hl 2 rfl) ?_
      refine kg F hE hW (10, 0) (hM.1 0 (by decide)) rfl hM.2.1 rfl inA_X3 6 (by decide) kw_612 (v := .ref (ad (10, 6))) rfl dX3_adds_74 ?_
      refine lv_iload_n hx hb dX3_adds_77 rfl (lv_at hl 3 rfl) ?_
      refine lv_dup2_11 hx hb dX3_adds_78 rfl rfl ?_
      refine kl_i F hE hW (10, 6) (hM.1 6 (by decide)) rfl hM.2.2.2.2.2.2.2.1 pg rfl (by omega) (by decide) dX3_adds_79 ?_
      refine lv_iconst (v := nI 1) hx hb dX3_adds_80 (by decide) ?_
      refine lv_iadd hx hb dX3_adds_81 ?_
      refine ktop (nI_add _ _) ?_
      refine ms_sz (v := sz pg + 1) F hE hW hS hM pg rfl (by omega) dX3_adds_82 (fun ct H locs hW hM hX0 hS => ?_)
      have hX := hX.tr hX0
      refine lv_aload_n hx hb dX3_adds_83 rfl (lv_at hl 2 rfl) ?_
      refine kg F hE hW (10, 0) (hM.1 0 (by decide)) rfl hM.2.1 rfl inA_X3 6 (by decide) kw_612 (v := .ref (ad (10, 6))) rfl dX3_adds_84 ?_
      refine lv_iload_n hx hb dX3_adds_87 rfl (lv_at hl 3 rfl) ?_
      refine kl_i F hE hW (10, 6) (hM.1 6 (by decide)) rfl hM.2.2.2.2.2.2.2.1 pg rfl (by omega) (by decide) dX3_adds_88 ?_
      refine lv_iconst (v := nI 5) hx hb dX3_adds_89 (by decide) ?_
      refine W.eq (g2 := F0 m 90 ls [.int (nI 5), .int (nI (sz pg + 1))]) (by rw [va_up_self]; rfl) ?_
      refine nc_ne (tgt := 98) hx hb dX3_adds_90 (by decide) (by omega) (by omega) (fun c2 => ?_) (fun c2 => ?_)
      · exact kr_v F hr hlk hE hW hS (Nat.le_of_ble_eq_true rfl) (Nat.le_of_ble_eq_true rfl) dX3_adds_98 (⟨_, rfl, by
            unfold addS
            dsimp only
            rw [if_neg (by omega)]
            unfold insS MD
            dsimp only
            rw [hqz]
            exact hM, hX, rfl⟩)
      · refine lv_aload_n hx hb dX3_adds_93 rfl (lv_at hl 2 rfl) ?_
        refine lv_iload_n hx hb dX3_adds_94 rfl (lv_at hl 3 rfl) ?_
        refine kc_V 1 (c_X3_splits l G A ad dm ct lv lev lo hi ri (va_up sz pg (sz pg + 1)) (insA ky pg qz (sz pg) x) (insA vl pg qz (sz pg) y) go rt ep wq wn cn op cl ca ce kc nb th fo hM pg (fr lv) rfl hp0 (by rintro rfl; rw [hlv] at hal; cases hal) hwn hlv hlt hf8) F hE hW hS (10, 0) (hM.1 0 (by decide)) hM.2.1 rfl [.int (nI pg)] rfl kw_706 kw_708 kp_22 kw_6 kw_709 (by decide +kernel) rfl ⟨rfl, rfl⟩ ⟨Nat.le_of_ble_eq_true rfl, Nat.le_of_ble_eq_true rfl⟩ hl.1 rfl (Nat.le_of_ble_eq_true rfl) dX3_adds_95 ⟨Nat.le_of_ble_eq_true rfl, Nat.le_of_ble_eq_true rfl⟩ (fun _ _ _ _ _ h => h.elim) (fun v w' H locs hp hW hS => ?_)
        obtain ⟨ct2, rfl, hM, hX0, rfl⟩ := hp
        have hX := hX.tr hX0
        exact kr_v F hr hlk hE hW hS (Nat.le_of_ble_eq_true rfl) (Nat.le_of_ble_eq_true rfl) dX3_adds_98 (⟨_, rfl, by
            unfold addS
            dsimp only
            rw [if_pos (by omega)]
            unfold insS splS MD
            dsimp only
            rw [hqz]
            exact hM, hX, rfl⟩)
    · exact absurd c1 (by omega)
  | succ d ih =>
    intro tz ct H locs ls htz hts hM hX hW hS hl
    subst htz
    refine lv_iload hx hb dX3_adds_18 (lv_at hl 0 rfl) ?_
    refine lv_iload hx hb dX3_adds_20 (lv_at hl 1 rfl) ?_
    refine nc_le (tgt := 64) hx hb dX3_adds_22 (by decide) (by omega) (by omega) (fun c1 => ?_) (fun c1 => ?_)
    · exact absurd c1 (by omega)
    · refine lv_aload_n hx hb dX3_adds_25 rfl (lv_at hl 2 rfl) ?_
      refine lv_iload_n hx hb dX3_adds_26 rfl (lv_at hl 3 rfl) ?_
      refine lv_iload hx hb dX3_adds_27 (lv_at hl 0 rfl) ?_
      refine lv_aload_n hx hb dX3_adds_29 rfl (lv_at hl 2 rfl) ?_
      refine kg F hE hW (10, 0) (hM.1 0 (by decide)) rfl hM.2.1 rfl inA_X3 7 (by decide) kw_613 (v := .ref (ad (10, 7))) rfl dX3_adds_30 ?_
      refine lv_iconst (v := nI 5) hx hb dX3_adds_33 (by decide) ?_
      refine lv_iload_n hx hb dX3_adds_34 rfl (lv_at hl 3 rfl) ?_
      refine lv_imul hx hb dX3_adds_35 ?_
      refine ktop (pk_mul _ _) ?_
      refine lv_iload hx hb dX3_adds_36 (lv_at hl 0 rfl) ?_
      refine lv_iadd hx hb dX3_adds_38 ?_
      refine ktop (nI_add _ _) ?_
      refine lv_iconst (v := nI 1) hx hb dX3_adds_39 (by decide) ?_
      refine lv_isub hx hb dX3_adds_40 ?_
      refine ktop (pk_sub (by omega)) ?_
      refine kl_i F hE hW (10, 7) (hM.1 7 (by decide)) rfl hM.2.2.2.2.2.2.2.2.1 (((5 * pg) + (qz + (d + 1))) - 1) rfl (by omega) (by decide) dX3_adds_41 ?_
      refine ktop (congrArg nI (shA_at _ _ (qz + d) _)) ?_
      refine lv_aload_n hx hb dX3_adds_42 rfl (lv_at hl 2 rfl) ?_
      refine kg F hE hW (10, 0) (hM.1 0 (by decide)) rfl hM.2.1 rfl inA_X3 8 (by decide) kw_614 (v := .ref (ad (10, 8))) rfl dX3_adds_43 ?_
      refine lv_iconst (v := nI 5) hx hb dX3_adds_46 (by decide) ?_
      refine lv_iload_n hx hb dX3_adds_47 rfl (lv_at hl 3 rfl) ?_
      refine lv_imul hx hb dX3_adds_48 ?_
      refine ktop (pk_mul _ _) ?_
      refine lv_iload hx hb dX3_adds_49 (lv_at hl 0 rfl) ?_
      refine lv_iadd hx hb dX3_adds_51 ?_
      refine ktop (nI_add _ _) ?_
      refine lv_iconst (v := nI 1) hx hb dX3_adds_52 (by decide) ?_
      refine lv_isub hx hb dX3_adds_53 ?_
      refine ktop (pk_sub (by omega)) ?_
      refine kl_i F hE hW (10, 8) (hM.1 8 (by decide)) rfl hM.2.2.2.2.2.2.2.2.2.1 (((5 * pg) + (qz + (d + 1))) - 1) rfl (by omega) (by decide) dX3_adds_54 ?_
      refine ktop (congrArg nI (shA_at _ _ (qz + d) _)) ?_
      refine kc_V 4 (c_X3_sets l G A ad dm ct lv lev lo hi ri sz (shA ky pg (qz + (d + 1)) (sz pg)) (shA vl pg (qz + (d + 1)) (sz pg)) go rt ep wq wn cn op cl ca ce kc nb th fo hM pg (qz + (d + 1)) (ky (5 * pg + (qz + d))) (vl (5 * pg + (qz + d))) hp0 (by omega)) F hE hW hS (10, 0) (hM.1 0 (by decide)) hM.2.1 rfl [.int (nI pg), .int (nI (qz + (d + 1))), .int (nI (ky (5 * pg + (qz + d)))), .int (nI (vl (5 * pg + (qz + d))))] rfl kw_702 kw_704 kp_21 kw_6 kw_705 (by decide +kernel) rfl ⟨rfl, rfl⟩ ⟨Nat.le_of_ble_eq_true rfl, Nat.le_of_ble_eq_true rfl⟩ hl.1 rfl (Nat.le_of_ble_eq_true rfl) dX3_adds_55 ⟨Nat.le_of_ble_eq_true rfl, Nat.le_of_ble_eq_true rfl⟩ (fun _ _ _ _ _ h => h.elim) (fun v w' H locs hp hW hS => ?_)
      obtain ⟨ct2, rfl, hM, hX0, rfl⟩ := hp
      have hX := hX.tr hX0
      refine lv_iinc (v := nI (qz + d)) (lv' := [(5, .int (nI (qz + d))), (4, .int (nI qz)), (0, .ref (ad (10, 0))), (1, .int (nI pg)), (2, .int (nI x)), (3, .int (nI y))]) hx hb dX3_adds_58 hl (k := 0) rfl (kim1 (qz + d)) (by decide) rfl (fun ls hl => ?_)
      refine lv_goto (tgt := 18) hx hb dX3_adds_61 (by decide) ?_
      have e1 := shA_step ky pg (qz + d) (sz pg) (by omega)
      have e2 := shA_step vl pg (qz + d) (sz pg) (by omega)
      exact ih (qz + d) _ _ _ _ rfl (by omega) (by rw [← e1, ← e2]; exact hM) hX hW hS hl
end
