/-! Rows over the world of labels: fields, arrays, new cells. -/
/-- one label's content changed -/
def lu (f : Lb → va_E) (x : Lb) (e : va_E) : Lb → va_E := fun z => if z = x then e else f z
theorem lu_s {f : Lb → va_E} {x : Lb} {e : va_E} : lu f x e x = e := by simp [lu]
theorem lu_n {f : Lb → va_E} {x z : Lb} {e : va_E} (h : z ≠ x) : lu f x e z = f z := by simp [lu, h]
theorem wd_one {G : GG} {A : Nat → Prop} {w : WS} {H : Heap} {x : Lb} {a : Nat} {e : va_E} (hW : wd G A w H) (hd : w.2.1 x) (ha : w.1 x = a) (he : w.2.2 x = e) : va_P G.1 vwCl [(a, e)] H := by
  intro k q hq
  cases k with
  | zero => cases hq; subst ha; subst he; exact hW.1 x hd
  | succ k => simp at hq
theorem wd_set {G : GG} {A : Nat → Prop} {w : WS} {H H1 : Heap} {x : Lb} {a : Nat} {e : va_E} (hW : wd G A w H) (hd : w.2.1 x) (ha : w.1 x = a) (he : va_at G.1 vwCl (a, e) H1) (oq : ∀ q : Nat, q ≠ a → H1[q]? = H[q]?) : wd G A (w.1, w.2.1, lu w.2.2 x e) H1 := by
  subst ha
  refine ⟨fun z hz => ?_, hW.2.1, hW.2.2⟩
  by_cases h : z = x
  · subst h
    show va_at G.1 vwCl (w.1 z, lu w.2.2 z e z) H1
    rw [lu_s]; exact he
  · show va_at G.1 vwCl (w.1 z, lu w.2.2 x e z) H1
    rw [lu_n h]
    exact (hW.1 z hz).kept (oq _ (fun q => h (hW.2.1 z x hz hd q)))
theorem wd_new {G : GG} {A : Nat → Prop} {w : WS} {H H1 : Heap} (x : Lb) {q : Nat} {e : va_E} (hW : wd G A w H) (hx : ¬ w.2.1 x) (hq : H.size ≤ q) (hA : A q) (he : va_at G.1 vwCl (q, e) H1) (oq : ∀ q : Nat, q < H.size → H1[q]? = H[q]?) :
    wd G A (fun z => if z = x then q else w.1 z, fun z => z = x ∨ w.2.1 z, lu w.2.2 x e) H1 := by
  have hlt : ∀ z, w.2.1 z → w.1 z < H.size := fun z hz => (hW.1 z hz).lt
  refine ⟨fun z hz => ?_, fun y z hy hz hyz => ?_, fun z hz => ?_⟩
  · by_cases h : z = x
    · subst h
      show va_at G.1 vwCl (if z = z then q else w.1 z, lu w.2.2 z e z) H1
      rw [lu_s, if_pos rfl]; exact he
    · show va_at G.1 vwCl (if z = x then q else w.1 z, lu w.2.2 x e z) H1
      rw [lu_n h, if_neg h]
      have hz' : w.2.1 z := hz.resolve_left h
      exact (hW.1 z hz').kept (oq _ (hlt z hz'))
  · dsimp only at hyz
    by_cases h1 : y = x <;> by_cases h2 : z = x
    · rw [h1, h2]
    · rw [if_pos h1, if_neg h2] at hyz
      have := hlt z (hz.resolve_left h2)
      omega
    · rw [if_neg h1, if_pos h2] at hyz
      have := hlt y (hy.resolve_left h1)
      omega
    · rw [if_neg h1, if_neg h2] at hyz
      exact hW.2.1 y z (hy.resolve_left h1) (hz.resolve_left h2) hyz
  · dsimp only
    by_cases h : z = x
    · rw [if_pos h]; exact hA
    · rw [if_neg h]; exact hW.2.2 z (hz.resolve_left h)
theorem nI_vp {i : Int32} {j n : Nat} (hi : i = nI j) (hj : j < n) (hn : n < 2 ^ 31) : vp_in i n := by rw [hi]; exact vp_in_nI hj hn
theorem nI_c {i : Int32} {j n : Nat} (hi : i = nI j) (hj : j < n) (hn : n < 2 ^ 31) : i.toNatClampNeg = j := by rw [hi]; exact nI_clamp (Nat.lt_trans hj hn)
section KR
variable {p : Program} {l : Launch} {e : Env} {R : Room} {s : State} {m : MethodId} {args : Array Value} {below : List Frame} {meth : Method} {c : Code} {H : Heap} {locs : List Loc} {cells slots : Nat} {Q : State → Prop}
variable {cc : ByteArray} {pc nL index : Nat} {ls : Array Slot} {rest : List Value} {own : String} {G : GG} {A : Nat → Prop} {w : WS} {a : Nat}
theorem kgS (F : Fx p m c cc nL s args own) (hE : VE G A s) (hW : wd G A w H) (x : Lb) (hd : w.2.1 x) (ha : w.1 x = a) {ci : Nat} {fs : List Value} (he : w.2.2 x = .inr (ci, fs)) {C : String} {T : u_T} {N : Nat} (hc : vwCl[ci]? = some (C, T, N)) (hin : ∀ u ∈ u_ws C T N, u ∈ AL) (k : Nat) (hk : k < N) {ref : String} (hlink : Cond.fieldLink own index ref (T k).2.1 (T k).2.2.1 ∈ AL)
    (hsame : ∀ x, s.fieldFound? (T k).1 (T k).2.1 (T k).2.2.1 = some x → s.fieldFound? ref (T k).2.1 (T k).2.2.1 = some x) {v : Value} (hv : fs[k]? = some v) (hdg : decode cc pc = .ok (.getfield index, 3))
    (kk : W p l e R s m args below meth c H locs cells slots Q (F0 m (pc + 3) ls (v :: rest))) : W p l e R s m args below meth c H locs cells slots Q (F0 m pc ls (.ref a :: rest)) :=
  va_get F.1 F.2.1 F.2.2.2.2 hin F.2.2.2.1 hE.1 (wd_one hW hd ha he) 0 rfl hc k hk (F.2.2.2.2 _ hlink) hsame hv hdg kk
theorem kg (F : Fx p m c cc nL s args own) (hE : VE G A s) (hW : wd G A w H) (x : Lb) (hd : w.2.1 x) (ha : w.1 x = a) {ci : Nat} {fs : List Value} (he : w.2.2 x = .inr (ci, fs)) {C : String} {T : u_T} {N : Nat} (hc : vwCl[ci]? = some (C, T, N)) (hin : ∀ u ∈ u_ws C T N, u ∈ AL) (k : Nat) (hk : k < N) (hlink : Cond.fieldLink own index (T k).1 (T k).2.1 (T k).2.2.1 ∈ AL)
    {v : Value} (hv : fs[k]? = some v) (hdg : decode cc pc = .ok (.getfield index, 3))
    (kk : W p l e R s m args below meth c H locs cells slots Q (F0 m (pc + 3) ls (v :: rest))) : W p l e R s m args below meth c H locs cells slots Q (F0 m pc ls (.ref a :: rest)) :=
  kgS F hE hW x hd ha he hc hin k hk hlink (fun _ h => h) hv hdg kk
theorem kpS (F : Fx p m c cc nL s args own) (hE : VE G A s) (hW : wd G A w H) (hS : va_S A s.heap H locs) (x : Lb) (hd : w.2.1 x) (ha : w.1 x = a) {ci : Nat} {fs : List Value} (he : w.2.2 x = .inr (ci, fs)) {C : String} {T : u_T} {N : Nat} (hc : vwCl[ci]? = some (C, T, N)) (hin : ∀ u ∈ u_ws C T N, u ∈ AL)
    (ty0 : Nat → FieldType) (hty : ∀ k, k < N → parseFieldDescriptor (T k).2.2.1 = some (ty0 k)) (hnm : ∀ a, a < N → ∀ b, b < N → a ≠ b → (T a).2.1 ≠ (T b).2.1) (k : Nat) (hk : k < N) {ref : String} (hlink : Cond.fieldLink own index ref (T k).2.1 (T k).2.2.1 ∈ AL)
    (hsame : ∀ x, s.fieldFound? (T k).1 (T k).2.1 (T k).2.2.1 = some x → s.fieldFound? ref (T k).2.1 (T k).2.2.1 = some x) (hfin : (T k).2.2.2 = false) {v : Value} (hn : narrow (ty0 k) v = v) (hfit : fits (ty0 k) v = true) (hl : k < fs.length) (hdg : decode cc pc = .ok (.putfield index, 3))
    (kk : ∀ (ct : Lb → va_E) (H1 : Heap) (locs1 : List Loc), wd G A (w.1, w.2.1, ct) H1 → ct x = .inr (ci, fs.set k v) → (∀ z, z ≠ x → ct z = w.2.2 z) → va_S A s.heap H1 locs1 → W p l e R s m args below meth c H1 locs1 cells slots Q (F0 m (pc + 3) ls rest)) :
    W p l e R s m args below meth c H locs cells slots Q (F0 m pc ls (v :: .ref a :: rest)) := by
  have hts := F.2.2.2.2
  have hK := hE.1
  have hap := va_apart (own := own) hts hin ty0 hty hnm hK hc
  have he1 : va_at G.1 vwCl (a, .inr (ci, fs)) H := by rw [← he, ← ha]; exact hW.1 x hd
  obtain ⟨r, h1, cell, q1, q2, q3, q4⟩ := he1
  have hr : r = (C, T, N) := Option.some.inj (h1.symm.trans hc)
  subst hr
  obtain ⟨hS0, hfc, kC, hkC, hkind⟩ := hK.1 ci _ hc
  obtain ⟨cf, kf, fi, f, hi, hsl⟩ := hS0 k hk
  have hlay := hts _ (hin _ (u_in_lay hk))
  unfold u_lay at hlay
  rw [if_neg (by rw [hfin]; decide)] at hlay
  have hst := (u_facts hfc hkC (u_lays hts hin hk) hi).1
  have h6 := u_store hfc hkC hkind hlay hi (hty k hk) hn hfit
  refine W.putK F.1 F.2.1 (f := f) ⟨F.2.2.2.1, hts _ hlink, ⟨_, _, _, hsame _ hi⟩, hst⟩ (by rw [q2]; exact h6) q1 q3 (by rw [hsl]; exact k2_hasslot (q4 k hk)) rfl rfl hdg fun H' e1 e2 e3 => ?_
  rw [hsl] at e1 ⊢
  exact kk _ H' _ (wd_set hW hd ha (e := .inr (ci, fs.set k v)) ⟨_, hc, t_OB.to (V := updV (vp_V fs) k v) ⟨_, e1, q2, q3, t_set q4 hap hk v⟩ (fun j _ => vp_updV_set hl v j)⟩ e3) lu_s (fun z hz => lu_n hz) (hS.put e2 e3 (by rw [← ha]; exact hW.2.2 x hd))
theorem kp (F : Fx p m c cc nL s args own) (hE : VE G A s) (hW : wd G A w H) (hS : va_S A s.heap H locs) (x : Lb) (hd : w.2.1 x) (ha : w.1 x = a) {ci : Nat} {fs : List Value} (he : w.2.2 x = .inr (ci, fs)) {C : String} {T : u_T} {N : Nat} (hc : vwCl[ci]? = some (C, T, N)) (hin : ∀ u ∈ u_ws C T N, u ∈ AL)
    (ty0 : Nat → FieldType) (hty : ∀ k, k < N → parseFieldDescriptor (T k).2.2.1 = some (ty0 k)) (hnm : ∀ a, a < N → ∀ b, b < N → a ≠ b → (T a).2.1 ≠ (T b).2.1) (k : Nat) (hk : k < N) (hlink : Cond.fieldLink own index (T k).1 (T k).2.1 (T k).2.2.1 ∈ AL)
    (hfin : (T k).2.2.2 = false) {v : Value} (hn : narrow (ty0 k) v = v) (hfit : fits (ty0 k) v = true) (hl : k < fs.length) (hdg : decode cc pc = .ok (.putfield index, 3))
    (kk : ∀ (ct : Lb → va_E) (H1 : Heap) (locs1 : List Loc), wd G A (w.1, w.2.1, ct) H1 → ct x = .inr (ci, fs.set k v) → (∀ z, z ≠ x → ct z = w.2.2 z) → va_S A s.heap H1 locs1 → W p l e R s m args below meth c H1 locs1 cells slots Q (F0 m (pc + 3) ls rest)) :
    W p l e R s m args below meth c H locs cells slots Q (F0 m pc ls (v :: .ref a :: rest)) :=
  kpS F hE hW hS x hd ha he hc hin ty0 hty hnm k hk hlink (fun _ h => h) hfin hn hfit hl hdg kk
theorem kpF (F : Fx p m c cc nL s args own) (hE : VE G A s) (hW : wd G A w H) (hS : va_S A s.heap H locs) (hin2 : meth.name = "<init>") (x : Lb) (hd : w.2.1 x) (ha : w.1 x = a) {ci : Nat} {fs : List Value} (he : w.2.2 x = .inr (ci, fs)) {C : String} {T : u_T} {N : Nat} (hc : vwCl[ci]? = some (C, T, N)) (hin : ∀ u ∈ u_ws C T N, u ∈ AL)
    (ty0 : Nat → FieldType) (hty : ∀ k, k < N → parseFieldDescriptor (T k).2.2.1 = some (ty0 k)) (hnm : ∀ a, a < N → ∀ b, b < N → a ≠ b → (T a).2.1 ≠ (T b).2.1) (k : Nat) (hk : k < N) (hlink : Cond.fieldLink own index (T k).1 (T k).2.1 (T k).2.2.1 ∈ AL)
    (hfin : (T k).2.2.2 = true) (hdecl : (T k).1 = own) {v : Value} (hn : narrow (ty0 k) v = v) (hfit : fits (ty0 k) v = true) (hl : k < fs.length) (hdg : decode cc pc = .ok (.putfield index, 3))
    (kk : ∀ (ct : Lb → va_E) (H1 : Heap) (locs1 : List Loc), wd G A (w.1, w.2.1, ct) H1 → ct x = .inr (ci, fs.set k v) → (∀ z, z ≠ x → ct z = w.2.2 z) → va_S A s.heap H1 locs1 → W p l e R s m args below meth c H1 locs1 cells slots Q (F0 m (pc + 3) ls rest)) :
    W p l e R s m args below meth c H locs cells slots Q (F0 m pc ls (v :: .ref a :: rest)) := by
  have hts := F.2.2.2.2
  have hK := hE.1
  have hap := va_apart (own := own) hts hin ty0 hty hnm hK hc
  have he1 : va_at G.1 vwCl (a, .inr (ci, fs)) H := by rw [← he, ← ha]; exact hW.1 x hd
  obtain ⟨r, h1, cell, q1, q2, q3, q4⟩ := he1
  have hr : r = (C, T, N) := Option.some.inj (h1.symm.trans hc)
  subst hr
  obtain ⟨hS0, hfc, kC, hkC, hkind⟩ := hK.1 ci _ hc
  obtain ⟨cf, kf, fi, f, hi, hsl⟩ := hS0 k hk
  have hlay := hts _ (hin _ (u_in_lay hk))
  unfold u_lay at hlay
  rw [if_pos hfin] at hlay
  have hst := (u_facts hfc hkC (u_lays hts hin hk) hi).1
  have hcf : m.cls = cf := by
    obtain ⟨_, _, c', _, _, _, -, -, hf', -, -, -, hown2, -⟩ := Cond.laysFinal_spec hlay
    have e1 : c' = cf := by have := hi.symm.trans hf'; simp at this; exact this.1.symm
    rw [hdecl] at hown2
    rw [← e1]; exact Option.some.inj (F.2.2.2.1.symm.trans hown2)
  have h6 := u_fits hfc hkC hkind (Or.inr hlay) hi (hty k hk) hn hfit
  refine W.putFinK F.1 F.2.1 F.2.2.2.1 (hts _ hlink) hi hst hcf hin2 (by rw [q2]; exact h6) q1 q3 (by rw [hsl]; exact k2_hasslot (q4 k hk)) rfl rfl hdg fun H' e1 e2 e3 => ?_
  rw [hsl] at e1 ⊢
  exact kk _ H' _ (wd_set hW hd ha (e := .inr (ci, fs.set k v)) ⟨_, hc, t_OB.to (V := updV (vp_V fs) k v) ⟨_, e1, q2, q3, t_set q4 hap hk v⟩ (fun j _ => vp_updV_set hl v j)⟩ e3) lu_s (fun z hz => lu_n hz) (hS.put e2 e3 (by rw [← ha]; exact hW.2.2 x hd))
-- arrays
theorem kl_i (F : Fx p m c cc nL s args own) (hE : VE G A s) (hW : wd G A w H) (x : Lb) (hd : w.2.1 x) (ha : w.1 x = a) {n : Nat} {f : Nat → Int32} (he : w.2.2 x = .inl (G.2.1 0, n, .inl f)) {i : Int32} (j : Nat) (hi : i = nI j) (hj : j < n) (hn : n < 2 ^ 31) (hdg : decode cc pc = .ok (.iaload, 1))
    (kk : W p l e R s m args below meth c H locs cells slots Q (F0 m (pc + 1) ls (.int (f j) :: rest))) : W p l e R s m args below meth c H locs cells slots Q (F0 m pc ls (.int i :: .ref a :: rest)) :=
  va_iald F.1 F.2.1 hE.1 (wd_one hW hd ha he) 0 0 rfl rfl (nI_vp hi hj hn) hdg (by rw [nI_c hi hj hn]; exact kk)
theorem kl_a (t0 : Nat) {C : String} (F : Fx p m c cc nL s args own) (hE : VE G A s) (hW : wd G A w H) (x : Lb) (hd : w.2.1 x) (ha : w.1 x = a) {cA : ClassId} (ht : (tyG G)[t0]? = some (cA, .object C)) {n : Nat} {f : Nat → Option Nat} (he : w.2.2 x = .inl (cA, n, .inr (.inr (.inr (.inr f))))) {i : Int32} (j : Nat) (hi : i = nI j) (hj : j < n) (hn : n < 2 ^ 31) {v : Value} (hv : va_rf (f j) = v) (hdg : decode cc pc = .ok (.aaload, 1))
    (kk : W p l e R s m args below meth c H locs cells slots Q (F0 m (pc + 1) ls (v :: rest))) : W p l e R s m args below meth c H locs cells slots Q (F0 m pc ls (.int i :: .ref a :: rest)) :=
  va_aldq F.1 F.2.1 hE.1 (wd_one hW hd ha he) 0 t0 rfl ht (nI_vp hi hj hn) hdg (by rw [nI_c hi hj hn, hv]; exact kk)
theorem kal (t0 : Nat) {ty : FieldType} (F : Fx p m c cc nL s args own) (hE : VE G A s) (hW : wd G A w H) (x : Lb) (hd : w.2.1 x) (ha : w.1 x = a) {cA : ClassId} (ht : (tyG G)[t0]? = some (cA, ty)) {z : vp_A} (he : w.2.2 x = .inl (cA, z)) (hdg : decode cc pc = .ok (.arraylength, 1))
    (kk : W p l e R s m args below meth c H locs cells slots Q (F0 m (pc + 1) ls (.int (nI z.1) :: rest))) : W p l e R s m args below meth c H locs cells slots Q (F0 m pc ls (.ref a :: rest)) :=
  va_alen F.1 F.2.1 hE.1 (wd_one hW hd ha he) 0 t0 rfl ht rfl hdg kk
theorem ks_i (F : Fx p m c cc nL s args own) (hE : VE G A s) (hW : wd G A w H) (hS : va_S A s.heap H locs) (x : Lb) (hd : w.2.1 x) (ha : w.1 x = a) {n : Nat} {f : Nat → Int32} (he : w.2.2 x = .inl (G.2.1 0, n, .inl f)) {i v : Int32} (j : Nat) (hi : i = nI j) (hj : j < n) (hn : n < 2 ^ 31) (hdg : decode cc pc = .ok (.iastore, 1))
    (kk : ∀ (ct : Lb → va_E) (H1 : Heap) (locs1 : List Loc), wd G A (w.1, w.2.1, ct) H1 → ct x = .inl (G.2.1 0, n, .inl (va_up f j v)) → (∀ z, z ≠ x → ct z = w.2.2 z) → va_S A s.heap H1 locs1 → W p l e R s m args below meth c H1 locs1 cells slots Q (F0 m (pc + 1) ls rest)) :
    W p l e R s m args below meth c H locs cells slots Q (F0 m pc ls (.int v :: .int i :: .ref a :: rest)) := by
  have he1 : H[a]? = some (vp_cell (G.2.1 0) (n, .inl f)) := by have h := hW.1 x hd; rw [he, ha] at h; exact h
  refine W.iast F.1 F.2.1 he1 ((hE.1.2 0 _ rfl).1 n (fun j => .int (f j))) (fun q => by cases q) (by show ¬ (i < 0 ∨ (arrV _ _ _).slots.size ≤ _); rw [arrV_size]; exact nI_vp hi hj hn) rfl rfl hdg fun H1 e z oq => ?_
  refine kk _ H1 _ (wd_set hW hd ha ?_ oq) lu_s (fun z hz => lu_n hz) (hS.put z oq (by rw [← ha]; exact hW.2.2 x hd))
  show H1[a]? = some (vp_cell _ _)
  rw [e, nI_c hi hj hn]
  rw [vp_cell_i, vp_cell_i, arrV_store]
  congr 2
  funext q
  by_cases hq : q = j
  · subst hq; simp [updV, va_up]
  · simp [updV, va_up, hq]
/-- a reference into an array of its own class -/
theorem ks_a (t0 : Nat) {r : vw_C} (F : Fx p m c cc nL s args own) (hE : VE G A s) (hW : wd G A w H) (hS : va_S A s.heap H locs) (x : Lb) (hd : w.2.1 x) (ha : w.1 x = a) {cA : ClassId} (ht : (tyG G)[t0]? = some (cA, .object r.1)) {n : Nat} {f : Nat → Option Nat} (he : w.2.2 x = .inl (cA, n, .inr (.inr (.inr (.inr f)))))
    (y : Lb) (hdy : w.2.1 y) {v : Nat} (hay : w.1 y = v) {ci : Nat} {vs : List Value} (hey : w.2.2 y = .inr (ci, vs)) (hc : vwCl[ci]? = some r) {i : Int32} (j : Nat) (hi : i = nI j) (hj : j < n) (hn : n < 2 ^ 31) (hdg : decode cc pc = .ok (.aastore, 1))
    (kk : ∀ (ct : Lb → va_E) (H1 : Heap) (locs1 : List Loc), wd G A (w.1, w.2.1, ct) H1 → ct x = .inl (cA, n, .inr (.inr (.inr (.inr (va_up f j (some v)))))) → (∀ z, z ≠ x → ct z = w.2.2 z) → va_S A s.heap H1 locs1 → W p l e R s m args below meth c H1 locs1 cells slots Q (F0 m (pc + 1) ls rest)) :
    W p l e R s m args below meth c H locs cells slots Q (F0 m pc ls (.ref v :: .int i :: .ref a :: rest)) := by
  have he1 : H[a]? = some (vp_cell cA (n, .inr (.inr (.inr (.inr f))))) := by have h := hW.1 x hd; rw [he, ha] at h; exact h
  have he2 : va_at G.1 vwCl (v, .inr (ci, vs)) H := by have h := hW.1 y hdy; rw [hey, hay] at h; exact h
  obtain ⟨r', hr', cellV, g1, g2, g3, -⟩ := he2
  have hcls := (hE.1.1 ci r hc).2
  obtain ⟨kA, comp, k1, k2, k3, -⟩ := (hE.1.2 t0 _ ht).2
  have hcomp : comp = G.1.1 ci := Option.some.inj (k3.symm.trans hcls.1)
  subst hcomp
  obtain ⟨kC, hkC, -⟩ := hcls.2
  have hin := nI_vp hi hj hn
  refine W.aast F.1 F.2.1 he1 (fun q h => by cases h) (fun h => by cases h) k1 k2 rfl hkC ⟨fun q => hin (Or.inl q), by show _ < (arrV _ _ _).slots.size; rw [arrV_size, nI_c hi hj hn]; exact hj⟩ g1 (fun q h => by rw [g3] at h; cases h) (by rw [g2]; exact hkC) (by rw [g2]; exact va_assign hcls) rfl rfl hdg fun H1 e z oq => ?_
  refine kk _ H1 _ (wd_set hW hd ha ?_ oq) lu_s (fun z hz => lu_n hz) (hS.put z oq (by rw [← ha]; exact hW.2.2 x hd))
  show H1[a]? = some (vp_cell _ _)
  rw [e, nI_c hi hj hn]
  rw [vp_cell_q, vp_cell_q, arrV_store]
  congr 2
  funext q
  by_cases hq : q = j
  · subst hq; simp [updV, va_up, va_rf]
  · simp [updV, va_up, hq]
theorem ks_n (t0 : Nat) {C : String} (F : Fx p m c cc nL s args own) (hE : VE G A s) (hW : wd G A w H) (hS : va_S A s.heap H locs) (x : Lb) (hd : w.2.1 x) (ha : w.1 x = a) {cA : ClassId} (ht : (tyG G)[t0]? = some (cA, .object C)) {n : Nat} {f : Nat → Option Nat} (he : w.2.2 x = .inl (cA, n, .inr (.inr (.inr (.inr f)))))
    {i : Int32} (j : Nat) (hi : i = nI j) (hj : j < n) (hn : n < 2 ^ 31) (hdg : decode cc pc = .ok (.aastore, 1))
    (kk : ∀ (ct : Lb → va_E) (H1 : Heap) (locs1 : List Loc), wd G A (w.1, w.2.1, ct) H1 → ct x = .inl (cA, n, .inr (.inr (.inr (.inr (va_up f j none))))) → (∀ z, z ≠ x → ct z = w.2.2 z) → va_S A s.heap H1 locs1 → W p l e R s m args below meth c H1 locs1 cells slots Q (F0 m (pc + 1) ls rest)) :
    W p l e R s m args below meth c H locs cells slots Q (F0 m pc ls (.null :: .int i :: .ref a :: rest)) := by
  have he1 : H[a]? = some (vp_cell cA (n, .inr (.inr (.inr (.inr f))))) := by have h := hW.1 x hd; rw [he, ha] at h; exact h
  refine va_WaastN (C := C) F.1 F.2.1 he1 ((hE.1.2 t0 _ ht).1 n (fun j => va_rf (f j))) (fun h => by cases h) (by show ¬ (i < 0 ∨ (arrV _ _ _).slots.size ≤ _); rw [arrV_size]; exact nI_vp hi hj hn) rfl rfl hdg fun H1 e z oq => ?_
  refine kk _ H1 _ (wd_set hW hd ha ?_ oq) lu_s (fun z hz => lu_n hz) (hS.put z oq (by rw [← ha]; exact hW.2.2 x hd))
  show H1[a]? = some (vp_cell _ _)
  rw [e, nI_c hi hj hn]
  rw [vp_cell_q, vp_cell_q, arrV_store]
  congr 2
  funext q
  by_cases hq : q = j
  · subst hq; simp [updV, va_up, va_rf]
  · simp [updV, va_up, hq]
/-- new cells, with labels that none had -/
abbrev wnew (w : WS) (x : Lb) (q : Nat) (e : va_E) : WS := (fun z => if z = x then q else w.1 z, fun z => z = x ∨ w.2.1 z, lu w.2.2 x e)
theorem kn_o (F : Fx p m c cc nL s args own) (hE : VE G A s) (hW : wd G A w H) (hS : va_S A s.heap H locs) (x : Lb) (hx : ¬ w.2.1 x) {ci : Nat} {C : String} {T : u_T} {N : Nat} (hc : vwCl[ci]? = some (C, T, N)) (hin : ∀ u ∈ u_ws C T N, u ∈ AL) (ty0 : Nat → FieldType) (hty : ∀ k, k < N → parseFieldDescriptor (T k).2.2.1 = some (ty0 k))
    (hcl : Cond.classLink own index C ∈ AL) (hinst : Cond.instantiable C N ∈ AL) (hini : Cond.initialized C ∈ AL) {fs : List Value} (hfs : ∀ j, j < N → defaultValue (ty0 j) = vp_V fs j) (hcells : cells + 1 ≤ R.cells) (hslots : slots + N ≤ R.slots) (hdg : decode cc pc = .ok (.new index, 3))
    (kk : ∀ (q : Nat) (H1 : Heap), wd G A (wnew w x q (.inr (ci, fs))) H1 → va_S A s.heap H1 locs → H.size ≤ q → W p l e R s m args below meth c H1 locs (cells + 1) (slots + N) Q (F0 m (pc + 3) ls (.ref q :: rest))) :
    W p l e R s m args below meth c H locs cells slots Q (F0 m pc ls rest) := by
  have hts := F.2.2.2.2
  have hKn := hE.1.1 ci _ hc
  refine W.newcK F.1 F.2.1 F.2.2.2.1 (hts _ hcl) (hts _ hinst) (hts _ hini) rfl hdg hcells hslots hKn.2.1 rfl fun H1 kC hkC e1 z1 o1 => ?_
  refine kk H.size H1 (wd_new x hW hx (Nat.le_refl _) (hE.2.2 _ hS.1) ⟨_, hc, (u_born ty0 hts hin hKn hkC e1 hty).to hfs⟩ o1) ⟨Nat.le_trans hS.1 (by omega), fun x h1 h2 => (o1 x (Nat.lt_of_lt_of_le h1 hS.1)).trans (hS.2.1 x h1 h2), hS.2.2⟩ (Nat.le_refl _)
/-- the array class of a new array is the one that the tables name -/
theorem ra_eq {cA cB : ClassId} {ty : FieldType} (h1 : va_RA s cA ty) (h2 : va_RA s cB ty) : cA = cB := by
  cases ty with
  | object C =>
    obtain ⟨_, _, -, -, -, e1⟩ := h1
    obtain ⟨_, _, -, -, -, e2⟩ := h2
    exact Option.some.inj (e1.symm.trans e2)
  | _ => exact Option.some.inj (Eq.trans (Eq.symm h1) h2)
theorem kn_a (t0 : Nat) {atype : ArrayType} (F : Fx p m c cc nL s args own) (hE : VE G A s) (hW : wd G A w H) (hS : va_S A s.heap H locs) (x : Lb) (hx : ¬ w.2.1 x) (harr : Cond.arrayClass (newarray.typeOf atype) ∈ AL) {ty : FieldType} (hty : newarray.typeOf atype = ty) {cA : ClassId} (ht : (tyG G)[t0]? = some (cA, ty))
    {i : Int32} {N : Nat} {a0 : vp_A} (ha : ∀ cA : ClassId, vp_cell cA a0 = arrV cA N (fun _ => defaultValue ty)) (hi : i = nI N) (hN : N < 2 ^ 31) (hbytes : N * componentBytes ty ≤ 536870912) (hcells : cells + 1 ≤ R.cells) (hslots : slots + N ≤ R.slots) (hdg : decode cc pc = .ok (.newarray atype, 2))
    (kk : ∀ (q : Nat) (H1 : Heap), wd G A (wnew w x q (.inl (cA, a0))) H1 → va_S A s.heap H1 locs → H.size ≤ q → W p l e R s m args below meth c H1 locs (cells + 1) (slots + N) Q (F0 m (pc + 2) ls (.ref q :: rest))) :
    W p l e R s m args below meth c H locs cells slots Q (F0 m pc ls (.int i :: rest)) := by
  subst hty
  subst hi
  refine va_newaK F.1 F.2.1 (F.2.2.2.2 _ harr) rfl hdg rfl (nI_pos hN) (nI_clamp hN) hbytes hcells hslots rfl fun H1 cB e1 z1 o1 hAr hNm => ?_
  have hc : cB = cA := by
    refine ra_eq (s := s) (ty := newarray.typeOf atype) ?_ (hE.1.2 t0 _ ht).2
    cases atype <;> exact hNm
  subst hc
  refine kk H.size H1 (wd_new x hW hx (Nat.le_refl _) (hE.2.2 _ hS.1) (by show H1[H.size]? = some (vp_cell _ _); rw [ha]; exact e1) o1) ⟨Nat.le_trans hS.1 (by omega), fun x h1 h2 => (o1 x (Nat.lt_of_lt_of_le h1 hS.1)).trans (hS.2.1 x h1 h2), hS.2.2⟩ (Nat.le_refl _)
theorem kn_q (t0 : Nat) {C : String} (F : Fx p m c cc nL s args own) (hE : VE G A s) (hW : wd G A w H) (hS : va_S A s.heap H locs) (x : Lb) (hx : ¬ w.2.1 x) (hcl : Cond.classLink own index C ∈ AL) (hov : Cond.arrayOver (.object C) ∈ lw_tbl) {cA : ClassId} (ht : (tyG G)[t0]? = some (cA, .object C))
    {i : Int32} {N : Nat} (hi : i = nI N) (hN : N < 2 ^ 31) (hbytes : N * 4 ≤ 536870912) (hcells : cells + 1 ≤ R.cells) (hslots : slots + N ≤ R.slots) (hdg : decode cc pc = .ok (.anewarray index, 3))
    (kk : ∀ (q : Nat) (H1 : Heap), wd G A (wnew w x q (.inl (cA, N, .inr (.inr (.inr (.inr (fun _ => none))))))) H1 → va_S A s.heap H1 locs → H.size ≤ q → W p l e R s m args below meth c H1 locs (cells + 1) (slots + N) Q (F0 m (pc + 3) ls (.ref q :: rest))) :
    W p l e R s m args below meth c H locs cells slots Q (F0 m pc ls (.int i :: rest)) := by
  subst hi
  have hNN := nI_clamp hN
  refine W.anew F.1 F.2.1 F.2.2.2.1 (F.2.2.2.2 _ hcl) (va_AO.use (hE.2.1.2.2.1 C hov)) rfl hdg rfl (nI_pos hN) (by rw [hNN]; exact hbytes) hcells (by rw [hNN]; exact hslots) fun cB kA comp f1 f2 f3 f4 => ?_
  rw [hNN]
  generalize hH1 : H.push ({ cls := cB, slots := Array.replicate N .null, vm := .none } : Cell) = H1
  have z1 : H1.size = H.size + 1 := by rw [← hH1, Array.size_push]
  have e1 : H1[H.size]? = some (arrV cB N (fun _ => .null)) := by rw [← hH1, Array.getElem?_push_size, ← arrV_new]
  have o1 : ∀ q : Nat, q < H.size → H1[q]? = H[q]? := fun q hq => by rw [← hH1, Array.getElem?_push, if_neg (Nat.ne_of_lt hq)]
  have hc : cB = cA := ra_eq (s := s) (ty := .object C) ⟨kA, comp, f2, f3, f4, f1⟩ (hE.1.2 t0 _ ht).2
  subst hc
  refine kk H.size H1 (wd_new x hW hx (Nat.le_refl _) (hE.2.2 _ hS.1) ?_ o1) ⟨Nat.le_trans hS.1 (by omega), fun x h1 h2 => (o1 x (Nat.lt_of_lt_of_le h1 hS.1)).trans (hS.2.1 x h1 h2), hS.2.2⟩ (Nat.le_refl _)
  show H1[H.size]? = some (vp_cell _ _)
  rw [vp_cell_q]
  exact e1
end KR
