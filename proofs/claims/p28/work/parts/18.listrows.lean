/-! Rows for the list: Object arrays. -/
section LR
variable {p : Program} {l : Launch} {e : Env} {R : Room} {s : State} {m : MethodId} {args : Array Value} {below : List Frame} {meth : Method} {c : Code} {H : Heap} {locs : List Loc} {cells slots : Nat} {Q : State → Prop}
variable {cc : ByteArray} {pc nL index : Nat} {ls : Array Slot} {rest : List Value} {own : String} {G : GG} {A : Nat → Prop} {ad : Lb → Nat} {dm : Lb → Prop} {ct : Lb → va_E} {a a0 : Nat}
/-- an object of a class that can be cast to Object -/
theorem kAny {ci : Nat} {r : vw_C} {fs : List Value} (hE : VE G A s) (hW : wd G A (ad, dm, ct) H) (y : Lb) (hdy : dm y) {v : Nat} (hay : ad y = v) (hey : ct y = .inr (ci, fs)) (hc : vwCl[ci]? = some r) (hca : Cond.castable r.1 "java/lang/Object" ∈ lw_tbl) : va_Any "java/lang/Object" s H v := by
  refine va_rAny (tys := tyG G) (q0 := 0) hE.1 (wd_one hW hdy hay hey) rfl hc (fun comp c0 h1 h2 => ?_)
  obtain ⟨c1, t1, f1, f2, f3⟩ := Cond.castable_spec (va_Nw.use (A := #[]) rfl (hE.2.1.2.1 _ _ hca))
  cases h2.symm.trans f1
  cases h1.symm.trans f2
  exact f3
theorem ks_o (F : Fx p m c cc nL s args own) (hE : VE G A s) (hW : wd G A (ad, dm, ct) H) (hS : va_S A s.heap H locs) (x : Lb) (hd : dm x) (ha : ad x = a) {n : Nat} {f : Nat → Option Nat} (he : ct x = .inl (G.2.1 4, n, .inr (.inr (.inr (.inr f))))) {v : Nat} (hv : va_Any "java/lang/Object" s H v) {i : Int32} (j : Nat) (hi : i = nI j) (hj : j < n) (hn : n < 2 ^ 31) (hdg : decode cc pc = .ok (.aastore, 1))
    (kk : ∀ (ct1 : Lb → va_E) (H1 : Heap) (locs1 : List Loc), wd G A (ad, dm, ct1) H1 → ct1 x = .inl (G.2.1 4, n, .inr (.inr (.inr (.inr (va_up f j (some v)))))) → (∀ z, z ≠ x → ct1 z = ct z) → va_S A s.heap H1 locs1 → W p l e R s m args below meth c H1 locs1 cells slots Q (F0 m (pc + 1) ls rest)) :
    W p l e R s m args below meth c H locs cells slots Q (F0 m pc ls (.ref v :: .int i :: .ref a :: rest)) := by
  have he1 : H[a]? = some (vp_cell (G.2.1 4) (n, .inr (.inr (.inr (.inr f))))) := by have h := hW.1 x hd; dsimp only at h; rw [he, ha] at h; exact h
  obtain ⟨cellV, g1, g3, ⟨kC, hkC⟩, hasg⟩ := hv
  obtain ⟨kA, comp, k1, k2, k3, -⟩ := (hE.1.2 4 _ rfl).2
  obtain ⟨kE, hkE, -⟩ := Vm.findClass_spec k3
  have hin := nI_vp hi hj hn
  refine W.aast F.1 F.2.1 he1 (fun q h => by cases h) (fun h => by cases h) k1 k2 rfl hkE ⟨fun q => hin (Or.inl q), by show _ < (arrV _ _ _).slots.size; rw [arrV_size, nI_c hi hj hn]; exact hj⟩ g1 (fun q h => by rw [h] at g3; cases g3) hkC (hasg _ k3) rfl rfl hdg fun H1 e z oq => ?_
  refine kk _ H1 _ (wd_set hW hd ha ?_ oq) lu_s (fun z hz => lu_n hz) (hS.put z oq (by rw [← ha]; exact hW.2.2 x hd))
  show H1[a]? = some (vp_cell _ _)
  rw [e, nI_c hi hj hn]
  rw [vp_cell_q, vp_cell_q, arrV_store]
  congr 2
  funext q
  by_cases hq : q = j
  · subst hq; simp [updV, va_up, va_rf]
  · simp [updV, va_up, hq]
theorem kcp (F : Fx p m c cc nL s args own) (hml : c.maxLocals = ls.size) (hE : VE G A s) (hW : wd G A (ad, dm, ct) H) (hS : va_S A s.heap H locs) (hlink : Cond.methodLink own index arraycopyName ∈ AL) (hnat : Cond.native arraycopyName ∈ AL) (hstat : Cond.static arraycopyName ∈ AL) (hini : Cond.initialized "java/lang/System" ∈ AL)
    (x0 x1 : Lb) (hd0 : dm x0) (ha0 : ad x0 = a0) (hd1 : dm x1) (ha1 : ad x1 = a) {n0 n1 : Nat} {f g : Nat → Option Nat} (he0 : ct x0 = .inl (G.2.1 4, n0, .inr (.inr (.inr (.inr f))))) (he1 : ct x1 = .inl (G.2.1 4, n1, .inr (.inr (.inr (.inr g)))))
    {sp dp n : Nat} (hsp : sp < 2 ^ 31) (hdp : dp < 2 ^ 31) (hn : n < 2 ^ 31) (h4 : sp + n ≤ n0) (h5 : dp + n ≤ n1) (hel : ∀ i : Nat, i < n → ∀ y : Nat, f (sp + i) = some y → va_Any "java/lang/Object" s H y)
    (hframes : 1 ≤ R.frames) (hlocals : (rest.map fun v => v.category).sum + (nativeFrameWords "java/lang/System" "arraycopy" 5 + 11) ≤ R.locals) (hdg : decode cc pc = .ok (.invokestatic index, 3))
    (kk : ∀ (ct1 : Lb → va_E) (H1 : Heap) (locs1 : List Loc), wd G A (ad, dm, ct1) H1 → ct1 x1 = .inl (G.2.1 4, n1, .inr (.inr (.inr (.inr (va_cpy f g sp dp n))))) → (∀ z, z ≠ x1 → ct1 z = ct z) → va_S A s.heap H1 locs1 → W p l e R s m args below meth c H1 locs1 cells slots Q (F0 m (pc + 3) ls rest)) :
    W p l e R s m args below meth c H locs cells slots Q (F0 m pc ls (.int (nI n) :: .int (nI dp) :: .ref a :: .int (nI sp) :: .ref a0 :: rest)) := by
  intro T hT X
  have hc0 : H[a0]? = some (vp_cell (G.2.1 4) (n0, .inr (.inr (.inr (.inr f))))) := by have h := hW.1 x0 hd0; dsimp only at h; rw [he0, ha0] at h; exact h
  have hc1 : H[a]? = some (vp_cell (G.2.1 4) (n1, .inr (.inr (.inr (.inr g))))) := by have h := hW.1 x1 hd1; dsimp only at h; rw [he1, ha1] at h; exact h
  obtain ⟨-, k0, hk0, cm0, hkk0⟩ := (hE.1.2 4 _ rfl).1 n0 (fun j => va_rf (f j))
  obtain ⟨-, k1, hk1, cm1, hkk1⟩ := (hE.1.2 4 _ rfl).1 n1 (fun j => va_rf (g j))
  obtain ⟨vm', X', step⟩ := X.arraycopy F.1 F.2.2.2.1 (F.2.2.2.2 _ hlink) (F.2.2.2.2 _ hnat) (F.2.2.2.2 _ hstat) (F.2.2.2.2 _ hini) (src := a0) (dst := a) (cs := vp_cell (G.2.1 4) (n0, .inr (.inr (.inr (.inr f))))) (cd := vp_cell (G.2.1 4) (n1, .inr (.inr (.inr (.inr g))))) (srcPos := nI sp) (destPos := nI dp) (n := nI n) (by rw [hT]; exact hc0) (by rw [hT]; exact hc1)
    (fun _ h => by cases h) (fun _ h => by cases h) (fun h => by cases h) (fun h => by cases h) hk0 hk1 hkk0 hkk1 rfl (nI_pos hsp) (nI_pos hdp) (nI_pos hn)
    (by rw [nI_toInt hsp, nI_toInt hn]; show ¬ _ > ((arrV (G.2.1 4) n0 (fun j => va_rf (f j))).slots.size : Int); rw [arrV_size]; omega)
    (by rw [nI_toInt hdp, nI_toInt hn]; show ¬ _ > ((arrV (G.2.1 4) n1 (fun j => va_rf (g j))).slots.size : Int); rw [arrV_size]; omega)
    (fun vm₁ hal i hi => by
      rw [nI_clamp hn] at hi
      rw [nI_clamp hsp]
      have e : (vp_cell (G.2.1 4) (n0, .inr (.inr (.inr (.inr f))))).slots.getD (sp + i) .null = va_rf (f (sp + i)) := by
        show (arrV (G.2.1 4) n0 (fun j => va_rf (f j))).slots.getD _ _ = _
        rw [Array.getD_eq_getD_getElem?, arrV_read _ _ (by omega)]
        rfl
      rw [e]
      cases hy : f (sp + i) with
      | none => exact ⟨rfl, trivial⟩
      | some y =>
        obtain ⟨cellV, g1, g2, ⟨kC, hkC⟩, hasg⟩ := hel i hi y hy
        obtain ⟨kA, comp, r1, r2, r3, -⟩ := (hE.1.2 4 _ rfl).2
        cases hk1.symm.trans r1
        cases hkk1.symm.trans r2
        obtain ⟨kE, hkE, -⟩ := Vm.findClass_spec r3
        obtain ⟨kC', hkC', -⟩ := hal.2.2 _ _ hkC
        obtain ⟨kE', hkE', -⟩ := hal.2.2 _ _ hkE
        refine ⟨rfl, cellV, (show T.heap[y]? = some cellV by rw [hT]; exact g1), (fun q h => by rw [h] at g2; cases g2), ⟨kC', hkC'⟩, ?_, ?_⟩
        · exact ⟨kE', hkE'⟩
        · show vm₁.assignable _ _ = true
          rw [hal.assignable]
          exact hasg _ r3)
    (g := F0 m pc ls (.int (nI n) :: .int (nI dp) :: .ref a :: .int (nI sp) :: .ref a0 :: rest)) rfl (by rw [hml]) (rest := rest) rfl (by rw [F.2.1]; exact hdg) hframes (by show 2 * 0 + _ + _ ≤ _; omega)
  have e1 : copied (vp_cell (G.2.1 4) (n0, .inr (.inr (.inr (.inr f))))) (vp_cell (G.2.1 4) (n1, .inr (.inr (.inr (.inr g))))) (nI sp) (nI dp) (nI n) = vp_cell (G.2.1 4) (n1, .inr (.inr (.inr (.inr (va_cpy f g sp dp n))))) := by
    rw [vp_cell_q, vp_cell_q, vp_cell_q]
    have e2 : va_cpy f g sp dp n = va_cpy f g (nI sp).toNatClampNeg (nI dp).toNatClampNeg (nI n).toNatClampNeg := by rw [nI_clamp hsp, nI_clamp hdp, nI_clamp hn]
    rw [e2]
    exact va_copied (fun z => va_rf z) (G.2.1 4) (G.2.1 4) f g (by rw [nI_clamp hsp, nI_clamp hn]; exact h4)
  rw [e1] at X' step
  have hl : a < H.size := (Array.getElem?_eq_some_iff.mp hc1).1
  have hA : A a := by rw [← ha1]; exact hW.2.2 x1 hd1
  have hheap : ((T.setVm vm').setCell a (vp_cell (G.2.1 4) (n1, .inr (.inr (.inr (.inr (va_cpy f g sp dp n))))))).heap = H.setIfInBounds a (vp_cell (G.2.1 4) (n1, .inr (.inr (.inr (.inr (va_cpy f g sp dp n)))))) := by rw [← hT]; rfl
  have oq : ∀ q : Nat, q ≠ a → (H.setIfInBounds a (vp_cell (G.2.1 4) (n1, .inr (.inr (.inr (.inr (va_cpy f g sp dp n)))))))[q]? = H[q]? := fun q hq => by simp [Array.getElem?_setIfInBounds, Ne.symm hq]
  obtain ⟨t, a1, b1⟩ := kk _ _ _ (wd_set (e := .inl (G.2.1 4, n1, .inr (.inr (.inr (.inr (va_cpy f g sp dp n)))))) hW hd1 ha1 (show (H.setIfInBounds a _)[a]? = some _ by simp [Array.getElem?_setIfInBounds, hl]) oq) lu_s (fun z hz => lu_n hz) ⟨by simp; exact hS.1, fun q g1 g2 => by
      rw [oq q (fun e => g2 (by rw [e]; exact hA))]
      exact hS.2.1 q g1 g2, fun q hq => by
      rcases List.mem_append.mp hq with h | h
      · exact hS.2.2 q h
      · obtain ⟨z, -, hz⟩ := List.mem_map.mp h
        rw [← hz]
        exact hA⟩ _ hheap X'
  exact ⟨t, step t a1, b1⟩
end LR
