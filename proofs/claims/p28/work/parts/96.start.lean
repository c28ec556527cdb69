/-! The law's start: what the tables and the statics give. -/
def srL : List (String × Nat) := [("Highkey", 167), ("Highkey", 170), ("Highkey", 84), ("Highkey", 147), ("Highkey", 179), ("Highkey", 177), ("Highkey", 174)]
def srB (w : Cond) : Bool := match w with
  | .stringRef o k _ => decide ((o, k) ∈ srL)
  | _ => true
set_option maxRecDepth 100000 in
theorem sr_ok : ∀ w ∈ lw_tbl, srB w = true := by decide +kernel
theorem arr_ty {s : State} {args : Array Value} {ty : FieldType} (h : (Cond.arrayClass ty).before args s = true) (hn : ∀ C, ty ≠ .object C) : ∃ cA, ArrOfT s cA ty ∧ s.vm.findClass ("[" ++ ty.toString) = some cA := by
  obtain ⟨c, k, comp, h1, h2, h3⟩ := Cond.arrayClass_spec h
  exact ⟨c, fun n z => ⟨fun k h => (by cases h), k, h2, comp, h3⟩, h1⟩
theorem arr_ov {s : State} {args : Array Value} {C : String} (h : (Cond.arrayOver (.object C)).before args s = true) : ∃ cA, ArrOfT s cA (.object C) ∧ va_RA s cA (.object C) := by
  obtain ⟨comp, c, k, f1, f2, f3, f4, f5⟩ := Cond.arrayOver_spec h
  exact ⟨c, fun n z => ⟨fun k h => (by cases h), k, f3, comp, f4⟩, k, comp, f3, f4, f1, f5⟩
set_option maxRecDepth 100000 in
set_option maxHeartbeats 4000000 in
theorem st_EN {s : State} {b : Nat} (hts : ∀ w ∈ lw_tbl, w.before #[Value.ref b] s = true) (hgv : (Jvm.Cond.and given_1 narrow_1).before #[Value.ref b] s = true) : ∃ e0, EN e0 (fun q : Nat => s.heap.size ≤ q) s := by
  have hs := flat_of_before _ hgv
  have hA : ∀ a : Nat, a < s.heap.size → ¬ (fun q : Nat => s.heap.size ≤ q) a := fun a h => Nat.not_le.mpr h
  obtain ⟨mi, hmi⟩ := va_Mi.of (hs (.isRef (.mirror "[Ljava/lang/Object;")) (by decide +kernel))
  obtain ⟨t, ht, hT⟩ := va_Tof (N := 0) (ty := .object "java/lang/Object") (f := fun _ => .null) (tm := .static "java/util/ArrayList" "DEFAULTCAPACITY_EMPTY_ELEMENTDATA" "[Ljava/lang/Object;") (by decide) (hs (.arrayOf (.static "java/util/ArrayList" "DEFAULTCAPACITY_EMPTY_ELEMENTDATA" "[Ljava/lang/Object;") (.object "java/lang/Object")) (by decide +kernel))
    (Cond.eq_int (hs (.eq (.length (.static "java/util/ArrayList" "DEFAULTCAPACITY_EMPTY_ELEMENTDATA" "[Ljava/lang/Object;")) (.int 0)) (by decide +kernel)) rfl) (fun j hj => absurd hj (Nat.not_lt_zero _)) hA
  refine ⟨(t, mi), fun x hx => va_Nw.of rfl (hts _ hx), fun C T hx => va_Nw.of rfl (hts _ hx), fun C hx => va_AO.of (hts _ hx), fun o k tx hx => ?_, hmi,
    ⟨va_Nc.of (hs (.not (.castable "java/lang/IllegalStateException" "java/lang/IllegalArgumentException")) (by decide +kernel)), va_Nc.of (hs (.not (.castable "java/lang/IndexOutOfBoundsException" "java/lang/IllegalArgumentException")) (by decide +kernel)), va_Nc.of (hs (.not (.castable "java/lang/IllegalStateException" "java/lang/IndexOutOfBoundsException")) (by decide +kernel))⟩,
    vx_Zqof (hts (.laysStatic "java/lang/Throwable" "UNASSIGNED_STACK" "[Ljava/lang/StackTraceElement;") (by decide +kernel)) (hts (.initialized "java/lang/Throwable") (by decide +kernel)) (hs (.isRef (.static "java/lang/Throwable" "UNASSIGNED_STACK" "[Ljava/lang/StackTraceElement;")) (by decide +kernel)) hA,
    vx_Zqof (hts (.laysStatic "java/lang/Throwable" "SUPPRESSED_SENTINEL" "Ljava/util/List;") (by decide +kernel)) (hts (.initialized "java/lang/Throwable") (by decide +kernel)) (hs (.isRef (.static "java/lang/Throwable" "SUPPRESSED_SENTINEL" "Ljava/util/List;")) (by decide +kernel)) hA,
    va_Zof (hts (.laysStatic "java/util/ArrayList" "DEFAULTCAPACITY_EMPTY_ELEMENTDATA" "[Ljava/lang/Object;") (by decide +kernel)) (hts (.initialized "java/util/ArrayList") (by decide +kernel)) ht hA, hT⟩
  have h1 : srB (.stringRef o k tx) = true := sr_ok _ hx
  have h2 : (o, k) ∈ srL := of_decide_eq_true h1
  have h3 : (Cond.exactly (.string o k) "java/lang/String").before #[Value.ref b] s = true := by
    simp only [srL, List.mem_cons, List.not_mem_nil, or_false, Prod.mk.injEq] at h2
    rcases h2 with ⟨rfl, rfl⟩ | ⟨rfl, rfl⟩ | ⟨rfl, rfl⟩ | ⟨rfl, rfl⟩ | ⟨rfl, rfl⟩ | ⟨rfl, rfl⟩ | ⟨rfl, rfl⟩ <;> exact hs _ (by decide +kernel)
  obtain ⟨a, cc, cell, kk, h4, -⟩ := Cond.exactly_spec h3
  exact ⟨a, vk_R.of (hts _ hx) h4⟩
set_option maxRecDepth 100000 in
set_option maxHeartbeats 4000000 in
theorem st_VE {s : State} {b : Nat} (hts : ∀ w ∈ lw_tbl, w.before #[Value.ref b] s = true) (hgv : (Jvm.Cond.and given_1 narrow_1).before #[Value.ref b] s = true) : ∃ G, VE G (fun q : Nat => s.heap.size ≤ q) s := by
  obtain ⟨e0, hEN⟩ := st_EN hts hgv
  have hal : ∀ w ∈ AL, w.before #[Value.ref b] s = true := fun w hw => hts w (al_sub hw)
  obtain ⟨k0, i0, hk0⟩ := u_known (C := RJx4a65c) (T := TJx4a65c) (N := 3) (n := 3) hal inA_JL (hal _ kw_30)
  obtain ⟨k1, i1, hk1⟩ := u_known (C := RX0) (T := TX0) (N := 4) (n := 4) hal inA_X0 (hal _ kw_413)
  obtain ⟨k2, i2, hk2⟩ := u_known (C := RX1) (T := TX1) (N := 11) (n := 11) hal inA_X1 (hal _ kw_57)
  obtain ⟨k3, i3, hk3⟩ := u_known (C := RX2) (T := TX2) (N := 8) (n := 8) hal inA_X2 (hal _ kw_20)
  obtain ⟨c0, y0, z0⟩ := arr_ty (hal _ kw_104) (fun C h => by cases h)
  obtain ⟨c2, y2, z2⟩ := arr_ov (hts _ kn_28)
  obtain ⟨c3, y3, z3⟩ := arr_ov (hts _ kn_56)
  obtain ⟨c4, y4, z4⟩ := arr_ov (hts _ kn_253)
  refine ⟨((fun k => match k with | 0 => k0 | 1 => k1 | 2 => k2 | _ => k3, fun k => match k with | 0 => i0 | 1 => i1 | 2 => i2 | _ => i3), (fun k => match k with | 0 => c0 | 1 => c0 | 2 => c2 | 3 => c3 | _ => c4), e0), ⟨fun k q hq => ?_, fun k q hq => ?_⟩, hEN, fun q hq => hq⟩
  · match k, hq with
    | 0, hq => cases hq; exact hk0
    | 1, hq => cases hq; exact hk1
    | 2, hq => cases hq; exact hk2
    | 3, hq => cases hq; exact hk3
    | k + 4, hq => simp [vwCl] at hq
  · match k, hq with
    | 0, hq => cases hq; exact ⟨y0, z0⟩
    | 1, hq => cases hq; exact ⟨y0, z0⟩
    | 2, hq => cases hq; exact ⟨y2, z2⟩
    | 3, hq => cases hq; exact ⟨y3, z3⟩
    | 4, hq => cases hq; exact ⟨y4, z4⟩
    | k + 5, hq => simp [tyG] at hq
