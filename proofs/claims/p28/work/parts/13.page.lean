/-! A page: its object and its three arrays, by the labels (1..4, n); rows that write it. -/
theorem inA_X0 : ∀ w ∈ u_ws RX0 TX0 4, w ∈ AL := fun w h => al_of ((by decide +kernel : ∀ w ∈ u_ws RX0 TX0 4, w ∈ lw_tbl) w h) ((by decide +kernel : ∀ w ∈ u_ws RX0 TX0 4, goodWord w = true) w h)
theorem inA_X1 : ∀ w ∈ u_ws RX1 TX1 11, w ∈ AL := fun w h => al_of ((by decide +kernel : ∀ w ∈ u_ws RX1 TX1 11, w ∈ lw_tbl) w h) ((by decide +kernel : ∀ w ∈ u_ws RX1 TX1 11, goodWord w = true) w h)
theorem inA_X2 : ∀ w ∈ u_ws RX2 TX2 8, w ∈ AL := fun w h => al_of ((by decide +kernel : ∀ w ∈ u_ws RX2 TX2 8, w ∈ lw_tbl) w h) ((by decide +kernel : ∀ w ∈ u_ws RX2 TX2 8, goodWord w = true) w h)
theorem inA_JL : ∀ w ∈ u_ws RJx4a65c TJx4a65c 3, w ∈ AL := fun w h => al_of ((by decide +kernel : ∀ w ∈ u_ws RJx4a65c TJx4a65c 3, w ∈ lw_tbl) w h) ((by decide +kernel : ∀ w ∈ u_ws RJx4a65c TJx4a65c 3, goodWord w = true) w h)
def pgF (ad : Lb → Nat) (n le lo sz hi : Nat) (ri : Option Nat) (de ta : Nat) : List Value := [.int (nI n), .int (nI le), .int (nI lo), .ref (ad (2, n)), .ref (ad (3, n)), .ref (ad (4, n)), .int (nI sz), .int (nI hi), va_rf ri, .int (nI de), .int (nI ta)]
def PG (G : GG) (ad : Lb → Nat) (dm : Lb → Prop) (ct : Lb → va_E) (n le lo sz hi : Nat) (ri : Option Nat) (de ta : Nat) (kf vf : Nat → Int32) (cf : Nat → Option Nat) : Prop :=
  (dm (1, n) ∧ dm (2, n) ∧ dm (3, n) ∧ dm (4, n)) ∧ ct (1, n) = .inr (2, pgF ad n le lo sz hi ri de ta) ∧ ct (2, n) = .inl (G.2.1 0, 5, .inl kf) ∧ ct (3, n) = .inl (G.2.1 0, 5, .inl vf) ∧ ct (4, n) = .inl (G.2.1 2, 5, .inr (.inr (.inr (.inr cf))))
/-- nothing changed but the page n -/
def XP (n : Nat) (ct ct1 : Lb → va_E) : Prop := ∀ x : Lb, (x.1 = 0 ∨ 4 < x.1 ∨ x.2 ≠ n) → ct1 x = ct x
theorem XP.rf {n : Nat} {ct : Lb → va_E} : XP n ct ct := fun _ _ => rfl
theorem XP.tr {n : Nat} {ct ct1 ct2 : Lb → va_E} (h1 : XP n ct ct1) (h2 : XP n ct1 ct2) : XP n ct ct2 := fun x hx => (h2 x hx).trans (h1 x hx)
theorem XP.of {n k : Nat} {ct ct1 : Lb → va_E} (hk : 1 ≤ k) (hk4 : k ≤ 4) (h : ∀ z : Lb, z ≠ (k, n) → ct1 z = ct z) : XP n ct ct1 := fun x hx => h x (by rintro rfl; simp at hx; omega)
theorem lb_ne {j k n i : Nat} (h : j ≠ k) : ((j, n) : Lb) ≠ (k, i) := fun e => h (congrArg Prod.fst e)
theorem PG.other {G : GG} {ad : Lb → Nat} {dm : Lb → Prop} {ct ct1 : Lb → va_E} {n k le lo sz hi : Nat} {ri : Option Nat} {de ta : Nat} {kf vf : Nat → Int32} {cf : Nat → Option Nat} (h : PG G ad dm ct k le lo sz hi ri de ta kf vf cf) (hX : XP n ct ct1) (hk : k ≠ n) : PG G ad dm ct1 k le lo sz hi ri de ta kf vf cf :=
  ⟨h.1, (hX _ (Or.inr (Or.inr hk))).trans h.2.1, (hX _ (Or.inr (Or.inr hk))).trans h.2.2.1, (hX _ (Or.inr (Or.inr hk))).trans h.2.2.2.1, (hX _ (Or.inr (Or.inr hk))).trans h.2.2.2.2⟩
section PR
variable {p : Program} {l : Launch} {e : Env} {R : Room} {s : State} {m : MethodId} {args : Array Value} {below : List Frame} {meth : Method} {c : Code} {H : Heap} {locs : List Loc} {cells slots : Nat} {Q : State → Prop}
variable {cc : ByteArray} {pc nL index : Nat} {ls : Array Slot} {rest : List Value} {own : String} {G : GG} {A : Nat → Prop} {ad : Lb → Nat} {dm : Lb → Prop} {ct : Lb → va_E}
variable {n le lo sz hi : Nat} {ri : Option Nat} {de ta : Nat} {kf vf : Nat → Int32} {cf : Nat → Option Nat}
theorem pg_o {ct1 : Lb → va_E} {sz' hi' : Nat} {ri' : Option Nat} {de' ta' : Nat} (hP : PG G ad dm ct n le lo sz hi ri de ta kf vf cf) (h1 : ct1 (1, n) = .inr (2, pgF ad n le lo sz' hi' ri' de' ta')) (hf : ∀ z : Lb, z ≠ (1, n) → ct1 z = ct z) : PG G ad dm ct1 n le lo sz' hi' ri' de' ta' kf vf cf ∧ XP n ct ct1 :=
  ⟨⟨hP.1, h1, (hf _ (lb_ne (by decide))).trans hP.2.2.1, (hf _ (lb_ne (by decide))).trans hP.2.2.2.1, (hf _ (lb_ne (by decide))).trans hP.2.2.2.2⟩, XP.of (by decide) (by decide) hf⟩
theorem pg_size {v : Nat} (F : Fx p m c cc nL s args own) (hE : VE G A s) (hW : wd G A (ad, dm, ct) H) (hS : va_S A s.heap H locs) (hP : PG G ad dm ct n le lo sz hi ri de ta kf vf cf) (hlink : Cond.fieldLink own index "Highkey$Page" "size" "I" ∈ AL) (hdg : decode cc pc = .ok (.putfield index, 3))
    (kk : ∀ (ct1 : Lb → va_E) (H1 : Heap) (locs1 : List Loc), wd G A (ad, dm, ct1) H1 → PG G ad dm ct1 n le lo v hi ri de ta kf vf cf → XP n ct ct1 → va_S A s.heap H1 locs1 → W p l e R s m args below meth c H1 locs1 cells slots Q (F0 m (pc + 3) ls rest)) :
    W p l e R s m args below meth c H locs cells slots Q (F0 m pc ls (.int (nI v) :: .ref (ad (1, n)) :: rest)) :=
  kp F hE hW hS (1, n) hP.1.1 rfl hP.2.1 rfl inA_X1 tyX1 tyX1_ok nmX1 6 (by decide) hlink rfl rfl rfl (Nat.le_of_ble_eq_true rfl) hdg fun ct1 H1 locs1 hW1 hc hf hS1 => kk ct1 H1 locs1 hW1 (pg_o hP hc hf).1 (pg_o (sz' := v) hP hc hf).2 hS1
theorem pg_high {v : Nat} (F : Fx p m c cc nL s args own) (hE : VE G A s) (hW : wd G A (ad, dm, ct) H) (hS : va_S A s.heap H locs) (hP : PG G ad dm ct n le lo sz hi ri de ta kf vf cf) (hlink : Cond.fieldLink own index "Highkey$Page" "high" "I" ∈ AL) (hdg : decode cc pc = .ok (.putfield index, 3))
    (kk : ∀ (ct1 : Lb → va_E) (H1 : Heap) (locs1 : List Loc), wd G A (ad, dm, ct1) H1 → PG G ad dm ct1 n le lo sz v ri de ta kf vf cf → XP n ct ct1 → va_S A s.heap H1 locs1 → W p l e R s m args below meth c H1 locs1 cells slots Q (F0 m (pc + 3) ls rest)) :
    W p l e R s m args below meth c H locs cells slots Q (F0 m pc ls (.int (nI v) :: .ref (ad (1, n)) :: rest)) :=
  kp F hE hW hS (1, n) hP.1.1 rfl hP.2.1 rfl inA_X1 tyX1 tyX1_ok nmX1 7 (by decide) hlink rfl rfl rfl (Nat.le_of_ble_eq_true rfl) hdg fun ct1 H1 locs1 hW1 hc hf hS1 => kk ct1 H1 locs1 hW1 (pg_o hP hc hf).1 (pg_o (hi' := v) hP hc hf).2 hS1
theorem pg_right {v : Option Nat} {vv : Value} (hv : va_rf v = vv) (F : Fx p m c cc nL s args own) (hE : VE G A s) (hW : wd G A (ad, dm, ct) H) (hS : va_S A s.heap H locs) (hP : PG G ad dm ct n le lo sz hi ri de ta kf vf cf) (hlink : Cond.fieldLink own index "Highkey$Page" "right" "LHighkey$Page;" ∈ AL) (hdg : decode cc pc = .ok (.putfield index, 3))
    (kk : ∀ (ct1 : Lb → va_E) (H1 : Heap) (locs1 : List Loc), wd G A (ad, dm, ct1) H1 → PG G ad dm ct1 n le lo sz hi v de ta kf vf cf → XP n ct ct1 → va_S A s.heap H1 locs1 → W p l e R s m args below meth c H1 locs1 cells slots Q (F0 m (pc + 3) ls rest)) :
    W p l e R s m args below meth c H locs cells slots Q (F0 m pc ls (vv :: .ref (ad (1, n)) :: rest)) := by
  subst hv
  exact kp F hE hW hS (1, n) hP.1.1 rfl hP.2.1 rfl inA_X1 tyX1 tyX1_ok nmX1 8 (by decide) hlink rfl (by cases v <;> rfl) (by cases v <;> rfl) (Nat.le_of_ble_eq_true rfl) hdg fun ct1 H1 locs1 hW1 hc hf hS1 => kk ct1 H1 locs1 hW1 (pg_o hP hc hf).1 (pg_o (ri' := v) hP hc hf).2 hS1
theorem pg_dead (F : Fx p m c cc nL s args own) (hE : VE G A s) (hW : wd G A (ad, dm, ct) H) (hS : va_S A s.heap H locs) (hP : PG G ad dm ct n le lo sz hi ri de ta kf vf cf) (hlink : Cond.fieldLink own index "Highkey$Page" "dead" "Z" ∈ AL) (hdg : decode cc pc = .ok (.putfield index, 3))
    (kk : ∀ (ct1 : Lb → va_E) (H1 : Heap) (locs1 : List Loc), wd G A (ad, dm, ct1) H1 → PG G ad dm ct1 n le lo sz hi ri 1 ta kf vf cf → XP n ct ct1 → va_S A s.heap H1 locs1 → W p l e R s m args below meth c H1 locs1 cells slots Q (F0 m (pc + 3) ls rest)) :
    W p l e R s m args below meth c H locs cells slots Q (F0 m pc ls (.int (nI 1) :: .ref (ad (1, n)) :: rest)) :=
  kp F hE hW hS (1, n) hP.1.1 rfl hP.2.1 rfl inA_X1 tyX1 tyX1_ok nmX1 9 (by decide) hlink rfl rfl rfl (Nat.le_of_ble_eq_true rfl) hdg fun ct1 H1 locs1 hW1 hc hf hS1 => kk ct1 H1 locs1 hW1 (pg_o hP hc hf).1 (pg_o (de' := 1) hP hc hf).2 hS1
theorem pg_tak {v : Nat} (F : Fx p m c cc nL s args own) (hE : VE G A s) (hW : wd G A (ad, dm, ct) H) (hS : va_S A s.heap H locs) (hP : PG G ad dm ct n le lo sz hi ri de ta kf vf cf) (hlink : Cond.fieldLink own index "Highkey$Page" "takenOutIn" "I" ∈ AL) (hdg : decode cc pc = .ok (.putfield index, 3))
    (kk : ∀ (ct1 : Lb → va_E) (H1 : Heap) (locs1 : List Loc), wd G A (ad, dm, ct1) H1 → PG G ad dm ct1 n le lo sz hi ri de v kf vf cf → XP n ct ct1 → va_S A s.heap H1 locs1 → W p l e R s m args below meth c H1 locs1 cells slots Q (F0 m (pc + 3) ls rest)) :
    W p l e R s m args below meth c H locs cells slots Q (F0 m pc ls (.int (nI v) :: .ref (ad (1, n)) :: rest)) :=
  kp F hE hW hS (1, n) hP.1.1 rfl hP.2.1 rfl inA_X1 tyX1 tyX1_ok nmX1 10 (by decide) hlink rfl rfl rfl (Nat.le_of_ble_eq_true rfl) hdg fun ct1 H1 locs1 hW1 hc hf hS1 => kk ct1 H1 locs1 hW1 (pg_o hP hc hf).1 (pg_o (ta' := v) hP hc hf).2 hS1
theorem pg_key {i v : Int32} (F : Fx p m c cc nL s args own) (hE : VE G A s) (hW : wd G A (ad, dm, ct) H) (hS : va_S A s.heap H locs) (hP : PG G ad dm ct n le lo sz hi ri de ta kf vf cf) (j : Nat) (hi0 : i = nI j) (hj : j < 5) (hdg : decode cc pc = .ok (.iastore, 1))
    (kk : ∀ (ct1 : Lb → va_E) (H1 : Heap) (locs1 : List Loc), wd G A (ad, dm, ct1) H1 → PG G ad dm ct1 n le lo sz hi ri de ta (va_up kf j v) vf cf → XP n ct ct1 → va_S A s.heap H1 locs1 → W p l e R s m args below meth c H1 locs1 cells slots Q (F0 m (pc + 1) ls rest)) :
    W p l e R s m args below meth c H locs cells slots Q (F0 m pc ls (.int v :: .int i :: .ref (ad (2, n)) :: rest)) :=
  ks_i F hE hW hS (2, n) hP.1.2.1 rfl hP.2.2.1 j hi0 hj (by decide) hdg fun ct1 H1 locs1 hW1 hc hf hS1 => kk ct1 H1 locs1 hW1 ⟨hP.1, (hf _ (lb_ne (by decide))).trans hP.2.1, hc, (hf _ (lb_ne (by decide))).trans hP.2.2.2.1, (hf _ (lb_ne (by decide))).trans hP.2.2.2.2⟩ (XP.of (by decide) (by decide) hf) hS1
theorem pg_val {i v : Int32} (F : Fx p m c cc nL s args own) (hE : VE G A s) (hW : wd G A (ad, dm, ct) H) (hS : va_S A s.heap H locs) (hP : PG G ad dm ct n le lo sz hi ri de ta kf vf cf) (j : Nat) (hi0 : i = nI j) (hj : j < 5) (hdg : decode cc pc = .ok (.iastore, 1))
    (kk : ∀ (ct1 : Lb → va_E) (H1 : Heap) (locs1 : List Loc), wd G A (ad, dm, ct1) H1 → PG G ad dm ct1 n le lo sz hi ri de ta kf (va_up vf j v) cf → XP n ct ct1 → va_S A s.heap H1 locs1 → W p l e R s m args below meth c H1 locs1 cells slots Q (F0 m (pc + 1) ls rest)) :
    W p l e R s m args below meth c H locs cells slots Q (F0 m pc ls (.int v :: .int i :: .ref (ad (3, n)) :: rest)) :=
  ks_i F hE hW hS (3, n) hP.1.2.2.1 rfl hP.2.2.2.1 j hi0 hj (by decide) hdg fun ct1 H1 locs1 hW1 hc hf hS1 => kk ct1 H1 locs1 hW1 ⟨hP.1, (hf _ (lb_ne (by decide))).trans hP.2.1, (hf _ (lb_ne (by decide))).trans hP.2.2.1, hc, (hf _ (lb_ne (by decide))).trans hP.2.2.2.2⟩ (XP.of (by decide) (by decide) hf) hS1
/-- a child: none, or any object of the world that is a page -/
def isPg (ad : Lb → Nat) (dm : Lb → Prop) (ct : Lb → va_E) (r : Option Nat) : Prop := ∀ v, r = some v → ∃ (k : Nat) (vs : List Value), dm (1, k) ∧ ad (1, k) = v ∧ ct (1, k) = .inr (2, vs)
theorem pg_child {i : Int32} {r : Option Nat} {vv : Value} (hv : va_rf r = vv) (hr : isPg ad dm ct r) (F : Fx p m c cc nL s args own) (hE : VE G A s) (hW : wd G A (ad, dm, ct) H) (hS : va_S A s.heap H locs) (hP : PG G ad dm ct n le lo sz hi ri de ta kf vf cf) (j : Nat) (hi0 : i = nI j) (hj : j < 5) (hdg : decode cc pc = .ok (.aastore, 1))
    (kk : ∀ (ct1 : Lb → va_E) (H1 : Heap) (locs1 : List Loc), wd G A (ad, dm, ct1) H1 → PG G ad dm ct1 n le lo sz hi ri de ta kf vf (va_up cf j r) → XP n ct ct1 → va_S A s.heap H1 locs1 → W p l e R s m args below meth c H1 locs1 cells slots Q (F0 m (pc + 1) ls rest)) :
    W p l e R s m args below meth c H locs cells slots Q (F0 m pc ls (vv :: .int i :: .ref (ad (4, n)) :: rest)) := by
  subst hv
  cases r with
  | none =>
    exact ks_n 2 F hE hW hS (4, n) hP.1.2.2.2 rfl rfl hP.2.2.2.2 j hi0 hj (by decide) hdg fun ct1 H1 locs1 hW1 hc hf hS1 => kk ct1 H1 locs1 hW1 ⟨hP.1, (hf _ (lb_ne (by decide))).trans hP.2.1, (hf _ (lb_ne (by decide))).trans hP.2.2.1, (hf _ (lb_ne (by decide))).trans hP.2.2.2.1, hc⟩ (XP.of (by decide) (by decide) hf) hS1
  | some v =>
    obtain ⟨y, vs, hy1, hy2, hy3⟩ := hr v rfl
    exact ks_a (r := (RX1, TX1, 11)) 2 F hE hW hS (4, n) hP.1.2.2.2 rfl rfl hP.2.2.2.2 (1, y) hy1 hy2 hy3 rfl j hi0 hj (by decide) hdg fun ct1 H1 locs1 hW1 hc hf hS1 => kk ct1 H1 locs1 hW1 ⟨hP.1, (hf _ (lb_ne (by decide))).trans hP.2.1, (hf _ (lb_ne (by decide))).trans hP.2.2.1, (hf _ (lb_ne (by decide))).trans hP.2.2.2.1, hc⟩ (XP.of (by decide) (by decide) hf) hS1
theorem isPg.keep {ct1 : Lb → va_E} {r : Option Nat} (h : isPg ad dm ct r) (hP : PG G ad dm ct1 n le lo sz hi ri de ta kf vf cf) (hX : XP n ct ct1) : isPg ad dm ct1 r := by
  intro v hv
  obtain ⟨k, vs, h1, h2, h3⟩ := h v hv
  by_cases q : k = n
  · subst q
    exact ⟨k, _, h1, h2, hP.2.1⟩
  · exact ⟨k, vs, h1, h2, (hX (1, k) (Or.inr (Or.inr q))).trans h3⟩
theorem isPg.no : isPg ad dm ct none := fun v h => by cases h
theorem PG.isPg (hP : PG G ad dm ct n le lo sz hi ri de ta kf vf cf) : isPg ad dm ct (some (ad (1, n))) := fun v h => ⟨n, _, hP.1.1, Option.some.inj h, hP.2.1⟩
end PR
