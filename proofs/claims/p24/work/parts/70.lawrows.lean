/-! the law's own methods: rows over whole numbers, joins of paths, static calls with a world -/
def anI (x y : Int) : Int := (zi x &&& zi y).toInt
def srI (x y : Int) : Int := (zi x >>> (zi y &&& 31)).toInt
def dvI (x y : Int) : Int := (zi x / zi y).toInt
def rmI (x y : Int) : Int := (zi x - zi x / zi y * zi y).toInt
def chI (x : Int) : Int := ((zi x).toUInt32 % 65536).toInt32.toInt
def nzb (y : Int) : Bool := rg y && decide (y ≠ 0)
theorem zi_of (x : Int32) : zi x.toInt = x := Int32.ofInt_toInt x
theorem rg_32 (x : Int32) : rg x.toInt = true := by
  have h1 := x.toInt_lt
  have h2 := x.le_toInt
  exact rg_of (by omega)
theorem nzb_i {y : Int} (h : nzb y = true) : ¬ zi y = 0 := by
  simp only [nzb, Bool.and_eq_true, decide_eq_true_eq] at h
  intro z
  exact h.2 ((zi_eq h.1 rg_0).mp (by rw [zi_0]; exact z))
def jn1 {α β γ : Type} (f : α → β) (k : (α → β) → Option γ) : Option γ := k f
def jn2 {α β δ γ : Type} (f : α → β → δ) (k : (α → β → δ) → Option γ) : Option γ := k f
theorem jn1_t {α β γ : Type} {f : α → β} {k : (α → β) → Option γ} {r : γ} (h : jn1 f k = some r) : ∃ j : α → β, (∀ x, j x = f x) ∧ k j = some r := ⟨f, fun _ => rfl, h⟩
theorem jn2_t {α β δ γ : Type} {f : α → β → δ} {k : (α → β → δ) → Option γ} {r : γ} (h : jn2 f k = some r) : ∃ j : α → β → δ, (∀ x y, j x y = f x y) ∧ k j = some r := ⟨f, fun _ _ => rfl, h⟩
theorem jn1_q {α β γ : Type} {f : α → β} {k : (α → β) → Option γ} {r : Option γ} (h : k f = r) : jn1 f k = r := h
theorem jn2_q {α β δ γ : Type} {f : α → β → δ} {k : (α → β → δ) → Option γ} {r : Option γ} (h : k f = r) : jn2 f k = r := h
section LR
variable {p : Program} {l : Launch} {e : Env} {R : Room} {s : State} {m : MethodId} {args : Array Value} {below : List Frame} {meth : Method} {c : Code} {H : Heap} {locs : List Loc} {cells slots : Nat} {Q : State → Prop}
variable {cc bytes : ByteArray} {pc nL maxL n index : Nat} {ls : Array Slot} {rest As : List Value} {E : wE} {A : Nat → Prop} {b : Nat} {ws ws1 wc wr w1 : va_W} {H0 : Heap} {Ts wt : List Cond} {own C : String} {y : MethodName} {ret : Option FieldType} {rm : Room} {r : Int}
theorem iv_iand (hx : p.tables.exec = Jvm.exec) (hb : c.code = cc) {x y : Int} (hdg : decode cc pc = .ok (.iand, 1)) (k : W p l e R s m args below meth c H locs cells slots Q (F0 m (pc + 1) ls (.int (zi (anI x y)) :: rest))) : W p l e R s m args below meth c H locs cells slots Q (F0 m pc ls (.int (zi y) :: .int (zi x) :: rest)) := lv_iand hx hb hdg (by rw [anI, zi_of] at k; exact k)
theorem iv_ishr (hx : p.tables.exec = Jvm.exec) (hb : c.code = cc) {x y : Int} (hdg : decode cc pc = .ok (.ishr, 1)) (k : W p l e R s m args below meth c H locs cells slots Q (F0 m (pc + 1) ls (.int (zi (srI x y)) :: rest))) : W p l e R s m args below meth c H locs cells slots Q (F0 m pc ls (.int (zi y) :: .int (zi x) :: rest)) := lv_ishr hx hb hdg (by rw [srI, zi_of] at k; exact k)
theorem iv_idiv (hx : p.tables.exec = Jvm.exec) (hb : c.code = cc) {x y : Int} (g : nzb y = true) (hdg : decode cc pc = .ok (.idiv, 1)) (k : W p l e R s m args below meth c H locs cells slots Q (F0 m (pc + 1) ls (.int (zi (dvI x y)) :: rest))) : W p l e R s m args below meth c H locs cells slots Q (F0 m pc ls (.int (zi y) :: .int (zi x) :: rest)) := lv_idiv hx hb hdg (nzb_i g) (by rw [dvI, zi_of] at k; exact k)
theorem iv_irem (hx : p.tables.exec = Jvm.exec) (hb : c.code = cc) {x y : Int} (g : nzb y = true) (hdg : decode cc pc = .ok (.irem, 1)) (k : W p l e R s m args below meth c H locs cells slots Q (F0 m (pc + 1) ls (.int (zi (rmI x y)) :: rest))) : W p l e R s m args below meth c H locs cells slots Q (F0 m pc ls (.int (zi y) :: .int (zi x) :: rest)) := lv_irem hx hb hdg (nzb_i g) (by rw [rmI, zi_of] at k; exact k)
theorem iv_i2c (hx : p.tables.exec = Jvm.exec) (hb : c.code = cc) {x : Int} (hdg : decode cc pc = .ok (.i2c, 1)) (k : W p l e R s m args below meth c H locs cells slots Q (F0 m (pc + 1) ls (.int (zi (chI x)) :: rest))) : W p l e R s m args below meth c H locs cells slots Q (F0 m pc ls (.int (zi x) :: rest)) := lv_i2c hx hb hdg (by rw [chI, zi_of]) k
theorem iv_ldc {n : Int} {v : Int32} (hv : v = zi n) (hx : p.tables.exec = Jvm.exec) (hb : c.code = cc) (hown : s.vm.findClass own = some m.cls) (hconst : (Jvm.Cond.constant own index v).before args s = true) (hdg : decode cc pc = .ok (.ldc index, 2)) (k : W p l e R s m args below meth c H locs cells slots Q (F0 m (pc + 2) ls (.int (zi n) :: rest))) : W p l e R s m args below meth c H locs cells slots Q (F0 m pc ls rest) := by
  subst hv
  exact lv_ldc hx hb hown hconst hdg k
theorem iv_callWI (S : CallFix p m c cc nL s args Ts own) (hM : cI l y wt rm E H.size As wc w1 r) (cw : CallB R s args own index y bytes maxL ret wt rm 0 0 n ∧ (Cond.static y).before args s = true)
    (hK : KK E s) (hP : va_P E.1 vwCl ws H) (hD : va_D A ws) (hS : va_S A H0 H locs) (hA : ∀ q, H0.size ≤ q → A q) (hw : ws.Perm (wr ++ wc)) (hw1 : ws1.Perm (wr ++ w1))
    (hlen : As.length = n) (hl : ls.size = nL) (hroom : (rest.map fun v => v.category).sum ≤ 8) (hf : cells ≤ R.cells ∧ slots ≤ R.slots) (hdg : decode cc pc = .ok (.invokestatic index, 3))
    (kk : ∀ (H1 : Heap) (locs1 : List Loc), va_P E.1 vwCl ws1 H1 → va_D A ws1 → va_S A H0 H1 locs1 → W p l e R s m args below meth c H1 locs1 cells slots Q (F0 m (pc + 3) ls (.int (zi r) :: rest))) : W p l e R s m args below meth c H locs cells slots Q (F0 m pc ls (As.reverse ++ rest)) := by
  have hP' := pm_P hw hP
  have hD' := pm_D hw hD
  have hFc := va_wcF hD' hS hA
  refine va_calli (va_runS (As := As) (rest := rest) S hM cw ⟨mPre_blind, fun U hU hW => ⟨rfl, by rw [hU], by rw [hU]; exact va_wc hP', KK.warm hW hK, (va_wcD hD').weaken (fun _ _ _ _ => trivial)⟩⟩ rfl hlen hl rfl (lv_room hroom) hdg hf) hS (fun q _ h => hFc q h) hFc (fun r0 u t H1 locs1 ht hvm hw hB hz1 hk1 hS1 => ?_)
  obtain ⟨hP1, hK1, hD1⟩ := hB
  rw [ht] at hP1
  subst hw
  obtain ⟨hP2, hD2⟩ := fr_join hP' hD' hk1 hFc hP1 hD1
  exact kk H1 locs1 (pm_P hw1.symm hP2) (pm_D hw1.symm hD2) hS1
theorem iv_callWV (S : CallFix p m c cc nL s args Ts own) (hM : cV l y wt rm E H.size As wc w1) (cw : CallB R s args own index y bytes maxL ret wt rm 0 0 n ∧ (Cond.static y).before args s = true)
    (hK : KK E s) (hP : va_P E.1 vwCl ws H) (hD : va_D A ws) (hS : va_S A H0 H locs) (hA : ∀ q, H0.size ≤ q → A q) (hw : ws.Perm (wr ++ wc)) (hw1 : ws1.Perm (wr ++ w1))
    (hlen : As.length = n) (hl : ls.size = nL) (hroom : (rest.map fun v => v.category).sum ≤ 8) (hf : cells ≤ R.cells ∧ slots ≤ R.slots) (hdg : decode cc pc = .ok (.invokestatic index, 3))
    (kk : ∀ (H1 : Heap) (locs1 : List Loc), va_P E.1 vwCl ws1 H1 → va_D A ws1 → va_S A H0 H1 locs1 → W p l e R s m args below meth c H1 locs1 cells slots Q (F0 m (pc + 3) ls rest)) : W p l e R s m args below meth c H locs cells slots Q (F0 m pc ls (As.reverse ++ rest)) := by
  have hP' := pm_P hw hP
  have hD' := pm_D hw hD
  have hFc := va_wcF hD' hS hA
  refine va_callv (va_runS (As := As) (rest := rest) S hM cw ⟨mPre_blind, fun U hU hW => ⟨rfl, by rw [hU], by rw [hU]; exact va_wc hP', KK.warm hW hK, (va_wcD hD').weaken (fun _ _ _ _ => trivial)⟩⟩ rfl hlen hl rfl (lv_room hroom) hdg hf) hS (fun q _ h => hFc q h) hFc (fun u t H1 locs1 ht hvm hw hB hz1 hk1 hS1 => ?_)
  obtain ⟨hP1, hK1, hD1⟩ := hB
  rw [ht] at hP1
  obtain ⟨hP2, hD2⟩ := fr_join hP' hD' hk1 hFc hP1 hD1
  exact kk H1 locs1 (pm_P hw1.symm hP2) (pm_D hw1.symm hD2) hS1
theorem iv_callWIx {Wf wx : (Nat → Nat) → va_W} (S : CallFix p m c cc nL s args Ts own) (hM : cIx l y wt rm E H.size As wc Wf r) (cw : CallB R s args own index y bytes maxL ret wt rm 0 0 n ∧ (Cond.static y).before args s = true)
    (hK : KK E s) (hP : va_P E.1 vwCl ws H) (hD : va_D A ws) (hS : va_S A H0 H locs) (hA : ∀ q, H0.size ≤ q → A q) (hw : ws.Perm (wr ++ wc)) (hw1 : ∀ a1, (wx a1).Perm (wr ++ Wf a1))
    (hlen : As.length = n) (hl : ls.size = nL) (hroom : (rest.map fun v => v.category).sum ≤ 8) (hf : cells ≤ R.cells ∧ slots ≤ R.slots) (hdg : decode cc pc = .ok (.invokestatic index, 3))
    (kk : ∀ (a1 : Nat → Nat) (H1 : Heap) (locs1 : List Loc), va_P E.1 vwCl (wx a1) H1 → va_D A (wx a1) → va_S A H0 H1 locs1 → W p l e R s m args below meth c H1 locs1 cells slots Q (F0 m (pc + 3) ls (.int (zi r) :: rest))) : W p l e R s m args below meth c H locs cells slots Q (F0 m pc ls (As.reverse ++ rest)) := by
  have hP' := pm_P hw hP
  have hD' := pm_D hw hD
  have hFc := va_wcF hD' hS hA
  refine va_calli (va_runS (As := As) (rest := rest) S hM cw ⟨mPre_blind, fun U hU hW => ⟨rfl, by rw [hU], by rw [hU]; exact va_wc hP', KK.warm hW hK, (va_wcD hD').weaken (fun _ _ _ _ => trivial)⟩⟩ rfl hlen hl rfl (lv_room hroom) hdg hf) hS (fun q _ h => hFc q h) hFc (fun r0 a1 t H1 locs1 ht hvm hw hB hz1 hk1 hS1 => ?_)
  obtain ⟨hP1, hK1, hD1⟩ := hB
  rw [ht] at hP1
  subst hw
  obtain ⟨hP2, hD2⟩ := fr_join hP' hD' hk1 hFc hP1 hD1
  exact kk a1 H1 locs1 (pm_P (hw1 a1).symm hP2) (pm_D (hw1 a1).symm hD2) hS1
theorem iv_callWIxs {Wf wx : (Nat → Nat) → va_W} (S : CallFix p m c cc nL s args Ts own) (hM : cIxs l y wt rm E H.size As wc Wf r) (cw : CallB R s args own index y bytes maxL ret wt rm 0 0 n ∧ (Cond.static y).before args s = true)
    (hZ : mSt s A s.heap) (hK : KK E s) (hP : va_P E.1 vwCl ws H) (hD : va_D A ws) (hS : va_S A s.heap H locs) (hA : ∀ q, s.heap.size ≤ q → A q) (hw : ws.Perm (wr ++ wc)) (hw1 : ∀ a1, (wx a1).Perm (wr ++ Wf a1))
    (hlen : As.length = n) (hl : ls.size = nL) (hroom : (rest.map fun v => v.category).sum ≤ 8) (hf : cells ≤ R.cells ∧ slots ≤ R.slots) (hdg : decode cc pc = .ok (.invokestatic index, 3))
    (kk : ∀ (a1 : Nat → Nat) (H1 : Heap) (locs1 : List Loc), va_P E.1 vwCl (wx a1) H1 → va_D A (wx a1) → va_S A s.heap H1 locs1 → W p l e R s m args below meth c H1 locs1 cells slots Q (F0 m (pc + 3) ls (.int (zi r) :: rest))) : W p l e R s m args below meth c H locs cells slots Q (F0 m pc ls (As.reverse ++ rest)) := by
  have hP' := pm_P hw hP
  have hD' := pm_D hw hD
  have hFc := va_wcF hD' hS hA
  refine va_calli (va_runS (As := As) (rest := rest) S hM cw ⟨mPreS_blind, fun U hU hW => ⟨rfl, ⟨by rw [hU], by rw [hU]; exact va_wc hP', KK.warm hW hK, (va_wcD hD').weaken (fun _ _ _ _ => trivial)⟩, by rw [hU]; exact ((hZ.kept hS.2.1).narrow hFc).moved hW.alike⟩⟩ rfl hlen hl rfl (lv_room hroom) hdg hf) hS (fun q _ h => hFc q h) hFc (fun r0 a1 t H1 locs1 ht hvm hw hB hz1 hk1 hS1 => ?_)
  obtain ⟨hP1, hK1, hD1⟩ := hB
  rw [ht] at hP1
  subst hw
  obtain ⟨hP2, hD2⟩ := fr_join hP' hD' hk1 hFc hP1 hD1
  exact kk a1 H1 locs1 (pm_P (hw1 a1).symm hP2) (pm_D (hw1 a1).symm hD2) hS1
theorem iv_callIxp {Wf wx : (Nat → Nat) → va_W} (S : CallFix p m c cc nL s args Ts own) (hM : cIx l y wt rm E H.size (.ref b :: As) wc Wf r) (cw : CallW R s args own C index y bytes maxL ret wt rm 0 0 n)
    (hK : KK E s) (hP : va_P E.1 vwCl ws H) (hD : va_D A ws) (hS : va_S A H0 H locs) (hA : ∀ q, H0.size ≤ q → A q) (q0 ci : Nat) {T : u_T} {N : Nat} {fs : List Value} (he : ws[q0]? = some (b, .inr (ci, fs))) (hc : vwCl[ci]? = some (C, T, N)) (hw : ws.Perm (wr ++ wc)) (hw1 : ∀ a1, (wx a1).Perm (wr ++ Wf a1))
    (hlen : As.length = n) (hl : ls.size = nL) (hroom : (rest.map fun v => v.category).sum ≤ 8) (hf : cells ≤ R.cells ∧ slots ≤ R.slots) (hdg : decode cc pc = .ok (.invokevirtual index, 3))
    (kk : ∀ (a1 : Nat → Nat) (H1 : Heap) (locs1 : List Loc), va_P E.1 vwCl (wx a1) H1 → va_D A (wx a1) → va_S A H0 H1 locs1 → W p l e R s m args below meth c H1 locs1 cells slots Q (F0 m (pc + 3) ls (.int (zi r) :: rest))) : W p l e R s m args below meth c H locs cells slots Q (F0 m pc ls (As.reverse ++ .ref b :: rest)) := by
  have hP' := pm_P hw hP
  have hD' := pm_D hw hD
  have hFc := va_wcF hD' hS hA
  refine va_calli (va_runV (As := As) (rest := rest) S hM cw ⟨mPre_blind, va_recv hK.1 hP hc he, fun U hU hW => ⟨rfl, by rw [hU], by rw [hU]; exact va_wc hP', KK.warm hW hK, (va_wcD hD').weaken (fun _ _ _ _ => trivial)⟩⟩ rfl hlen hl rfl (lv_room hroom) hdg hf) hS (fun q _ h => hFc q h) hFc (fun r0 a1 t H1 locs1 ht hvm hw hB hz1 hk1 hS1 => ?_)
  obtain ⟨hP1, hK1, hD1⟩ := hB
  rw [ht] at hP1
  subst hw
  obtain ⟨hP2, hD2⟩ := fr_join hP' hD' hk1 hFc hP1 hD1
  exact kk a1 H1 locs1 (pm_P (hw1 a1).symm hP2) (pm_D (hw1 a1).symm hD2) hS1
theorem iv_callIsp (S : CallFix p m c cc nL s args Ts own) (hM : cIs l y wt rm E H.size (.ref b :: As) wc w1 r) (cw : CallW R s args own C index y bytes maxL ret wt rm 0 0 n)
    (hZ : mSt s A s.heap) (hK : KK E s) (hP : va_P E.1 vwCl ws H) (hD : va_D A ws) (hS : va_S A s.heap H locs) (hA : ∀ q, s.heap.size ≤ q → A q) (q0 ci : Nat) {T : u_T} {N : Nat} {fs : List Value} (he : ws[q0]? = some (b, .inr (ci, fs))) (hc : vwCl[ci]? = some (C, T, N)) (hw : ws.Perm (wr ++ wc)) (hw1 : ws1.Perm (wr ++ w1))
    (hlen : As.length = n) (hl : ls.size = nL) (hroom : (rest.map fun v => v.category).sum ≤ 8) (hf : cells ≤ R.cells ∧ slots ≤ R.slots) (hdg : decode cc pc = .ok (.invokevirtual index, 3))
    (kk : ∀ (H1 : Heap) (locs1 : List Loc), va_P E.1 vwCl ws1 H1 → va_D A ws1 → va_S A s.heap H1 locs1 → W p l e R s m args below meth c H1 locs1 cells slots Q (F0 m (pc + 3) ls (.int (zi r) :: rest))) : W p l e R s m args below meth c H locs cells slots Q (F0 m pc ls (As.reverse ++ .ref b :: rest)) := by
  have hP' := pm_P hw hP
  have hD' := pm_D hw hD
  have hFc := va_wcF hD' hS hA
  refine va_calli (va_runV (As := As) (rest := rest) S hM cw ⟨mPreS_blind, va_recv hK.1 hP hc he, fun U hU hW => ⟨rfl, ⟨by rw [hU], by rw [hU]; exact va_wc hP', KK.warm hW hK, (va_wcD hD').weaken (fun _ _ _ _ => trivial)⟩, by rw [hU]; exact ((hZ.kept hS.2.1).narrow hFc).moved hW.alike⟩⟩ rfl hlen hl rfl (lv_room hroom) hdg hf) hS (fun q _ h => hFc q h) hFc (fun r0 u t H1 locs1 ht hvm hw hB hz1 hk1 hS1 => ?_)
  obtain ⟨hP1, hK1, hD1⟩ := hB
  rw [ht] at hP1
  subst hw
  obtain ⟨hP2, hD2⟩ := fr_join hP' hD' hk1 hFc hP1 hD1
  exact kk H1 locs1 (pm_P hw1.symm hP2) (pm_D hw1.symm hD2) hS1
theorem iv_callIxsp {Wf wx : (Nat → Nat) → va_W} (S : CallFix p m c cc nL s args Ts own) (hM : cIxs l y wt rm E H.size (.ref b :: As) wc Wf r) (cw : CallW R s args own C index y bytes maxL ret wt rm 0 0 n)
    (hZ : mSt s A s.heap) (hK : KK E s) (hP : va_P E.1 vwCl ws H) (hD : va_D A ws) (hS : va_S A s.heap H locs) (hA : ∀ q, s.heap.size ≤ q → A q) (q0 ci : Nat) {T : u_T} {N : Nat} {fs : List Value} (he : ws[q0]? = some (b, .inr (ci, fs))) (hc : vwCl[ci]? = some (C, T, N)) (hw : ws.Perm (wr ++ wc)) (hw1 : ∀ a1, (wx a1).Perm (wr ++ Wf a1))
    (hlen : As.length = n) (hl : ls.size = nL) (hroom : (rest.map fun v => v.category).sum ≤ 8) (hf : cells ≤ R.cells ∧ slots ≤ R.slots) (hdg : decode cc pc = .ok (.invokevirtual index, 3))
    (kk : ∀ (a1 : Nat → Nat) (H1 : Heap) (locs1 : List Loc), va_P E.1 vwCl (wx a1) H1 → va_D A (wx a1) → va_S A s.heap H1 locs1 → W p l e R s m args below meth c H1 locs1 cells slots Q (F0 m (pc + 3) ls (.int (zi r) :: rest))) : W p l e R s m args below meth c H locs cells slots Q (F0 m pc ls (As.reverse ++ .ref b :: rest)) := by
  have hP' := pm_P hw hP
  have hD' := pm_D hw hD
  have hFc := va_wcF hD' hS hA
  refine va_calli (va_runV (As := As) (rest := rest) S hM cw ⟨mPreS_blind, va_recv hK.1 hP hc he, fun U hU hW => ⟨rfl, ⟨by rw [hU], by rw [hU]; exact va_wc hP', KK.warm hW hK, (va_wcD hD').weaken (fun _ _ _ _ => trivial)⟩, by rw [hU]; exact ((hZ.kept hS.2.1).narrow hFc).moved hW.alike⟩⟩ rfl hlen hl rfl (lv_room hroom) hdg hf) hS (fun q _ h => hFc q h) hFc (fun r0 a1 t H1 locs1 ht hvm hw hB hz1 hk1 hS1 => ?_)
  obtain ⟨hP1, hK1, hD1⟩ := hB
  rw [ht] at hP1
  subst hw
  obtain ⟨hP2, hD2⟩ := fr_join hP' hD' hk1 hFc hP1 hD1
  exact kk a1 H1 locs1 (pm_P (hw1 a1).symm hP2) (pm_D (hw1 a1).symm hD2) hS1
theorem iv_zretx {Wf : (Nat → Nat) → va_W} (a1 : Nat → Nat) (hw : ws = Wf a1) (hx : p.tables.exec = Jvm.exec) (hb : c.code = cc) (hr : meth.sig.returnType = some .boolean) (hlocks : meth.locks = false) (g : inb r 2 = true) (hK : KK E s) (hP : va_P E.1 vwCl ws H) (hD : va_D A ws) (hS : va_S A s.heap H locs) (hdg : decode cc pc = .ok (.ireturn, 1)) : W p l e R s m args below meth c H locs cells slots (MQ below (mQix E Wf r A) args s cells slots A) (F0 m pc ls [.int (zi r)]) := by
  subst hw
  exact W.zret (v := zi r) hx hb hr (zi_01 g) (fun t ht hW => ⟨⟨zi r, a1, rfl, rfl, by rw [ht]; exact hP, KK.warm hW hK, hD⟩, hS.F ht⟩) hS.2.2 hdg
end LR
/-- a contract that makes cells -/
def cIsc (l : Launch) (y : MethodName) (wt : List Cond) (rm : Room) (E : wE) (sz : Nat) (av : List Value) (ws0 ws1 : va_W) (r : Int) (mc ms : Nat) : Prop := Met l y wt rm (va_Pc av (mPreS E sz ws0)) (mQi E ws1 r (va_A ws0 sz)) mc ms (va_A ws0 sz)
theorem met_goSc {l : Launch} {y : MethodName} {wt wt' : List Cond} {rm : Room} {cc : ByteArray} {maxL : Nat} {ret : Option FieldType} {E : wE} {sz mc ms : Nat} {av : List Value} {ws0 : va_W} {Q0 : (Nat → Prop) → Array Value → State → Outcome → State → Prop} (hy : plainName y.cls = true) (hw : wt = Cond.code y cc maxL ret :: wt') (hn : (lg_sl av).length ≤ maxL)
    (body : ∀ (A : Nat → Prop) (p : Program) (e : Env) (s : State) (m : MethodId) (below : List Frame) (meth : Method) (c : Code), p.tables.exec = Jvm.exec → c.code = cc → meth.sig.returnType = ret → c.maxLocals = maxL → (∀ w ∈ wt, w.before av.toArray s = true) → s.vm.findClass y.cls = some m.cls → meth.locks = false → mSt s A s.heap → va_P E.1 vwCl ws0 s.heap → KK E s → va_D A ws0 → (∀ q, s.heap.size ≤ q → A q) → va_S A s.heap s.heap [] → ∀ ls : Array Slot, lv_has ls maxL (lv_args 0 av) → W p l e rm s m av.toArray below meth c s.heap [] 0 0 (MQ below (Q0 A) av.toArray s mc ms A) (F0 m 0 ls [])) :
    Met l y wt rm (va_Pc av (mPreS E sz ws0)) (Q0 (va_A ws0 sz)) mc ms (va_A ws0 sz) := by
  refine Met.ofW (cc := cc) (maxL := maxL) (ret := ret) hy hw ?_
  intro p e s m args below meth c s₁ B hml hv
  obtain ⟨rfl, ⟨hsz, hP, hK, hD0⟩, hZ⟩ := hv
  subst hsz
  have hts := atoms_spec (ws := wt) B.pre
  have hown : s.vm.findClass y.cls = some m.cls := findClass_of_methodNamed B.named
  rw [lg_entry_eq]
  exact body (va_A ws0 s.heap.size) p e s m below meth c B.exec B.bytes B.returns hml hts hown B.notSynchronized hZ hP hK hD0.self (fun q h => Or.inr h) va_S.rf _ (lv_entry av hn)
