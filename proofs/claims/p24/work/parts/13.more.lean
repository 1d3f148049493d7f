/-! the history: its row of states turns round when the oldest is dropped -/
def rot (i : Nat) : Nat := if i < 50 then i + 16 else i - 48
def wHr (p q r t : Nat) (a h : Nat → Nat) (E : wE) (z : bH) : va_W := [(a 0, .inr (2, [.ref (a 1), .int (zi z.1)])), (a 1, .inl (E.2.2.2, 4, .inr (.inr (.inr (.inr (h4 p q r t)))))), (h 2, .inr (5, [.ref (h 3), .ref (h 10), .ref (h 17), .int (zi z.2.1.2.2.2.1), .int (zi z.2.1.2.2.2.2.1), .int (zi z.2.1.2.2.2.2.2.1), .int (zi z.2.1.2.2.2.2.2.2.1), .int (zi z.2.1.2.2.2.2.2.2.2)])), (h 3, .inr (1, [.ref (h 4), .ref (h 5), .ref (h 6), .ref (h 7), .ref (h 8), .ref (h 9), .int (zi z.2.1.1.2.2.2.2.2.2)])), (h 4, .inl (E.2.1, 40, .inl (fun j => zi (z.2.1.1.1 j)))), (h 5, .inl (E.2.1, 40, .inl (fun j => zi (z.2.1.1.2.1 j)))), (h 6, .inl (E.2.1, 40, .inl (fun j => zi (z.2.1.1.2.2.1 j)))), (h 7, .inl (E.2.1, 40, .inl (fun j => zi (z.2.1.1.2.2.2.1 j)))), (h 8, .inl (E.2.1, 40, .inl (fun j => zi (z.2.1.1.2.2.2.2.1 j)))), (h 9, .inl (E.2.1, 40, .inl (fun j => zi (z.2.1.1.2.2.2.2.2.1 j)))), (h 10, .inr (4, [.ref (h 11), .ref (h 12), .ref (h 13), .ref (h 14), .ref (h 15), .ref (h 16)])), (h 11, .inl (E.2.1, 40, .inl (fun j => zi (z.2.1.2.1.1 j)))), (h 12, .inl (E.2.1, 40, .inl (fun j => zi (z.2.1.2.1.2.1 j)))), (h 13, .inl (E.2.1, 40, .inl (fun j => zi (z.2.1.2.1.2.2.1 j)))), (h 14, .inl (E.2.1, 40, .inl (fun j => zi (z.2.1.2.1.2.2.2.1 j)))), (h 15, .inl (E.2.1, 7, .inl (fun j => zi (z.2.1.2.1.2.2.2.2.1 j)))), (h 16, .inl (E.2.1, 12, .inl (fun j => zi (z.2.1.2.1.2.2.2.2.2 j)))), (h 17, .inl (E.2.1, 8, .inl (fun j => zi (z.2.1.2.2.1 j)))), (h 18, .inr (5, [.ref (h 19), .ref (h 26), .ref (h 33), .int (zi z.2.2.1.2.2.2.1), .int (zi z.2.2.1.2.2.2.2.1), .int (zi z.2.2.1.2.2.2.2.2.1), .int (zi z.2.2.1.2.2.2.2.2.2.1), .int (zi z.2.2.1.2.2.2.2.2.2.2)])), (h 19, .inr (1, [.ref (h 20), .ref (h 21), .ref (h 22), .ref (h 23), .ref (h 24), .ref (h 25), .int (zi z.2.2.1.1.2.2.2.2.2.2)])), (h 20, .inl (E.2.1, 40, .inl (fun j => zi (z.2.2.1.1.1 j)))), (h 21, .inl (E.2.1, 40, .inl (fun j => zi (z.2.2.1.1.2.1 j)))), (h 22, .inl (E.2.1, 40, .inl (fun j => zi (z.2.2.1.1.2.2.1 j)))), (h 23, .inl (E.2.1, 40, .inl (fun j => zi (z.2.2.1.1.2.2.2.1 j)))), (h 24, .inl (E.2.1, 40, .inl (fun j => zi (z.2.2.1.1.2.2.2.2.1 j)))), (h 25, .inl (E.2.1, 40, .inl (fun j => zi (z.2.2.1.1.2.2.2.2.2.1 j)))), (h 26, .inr (4, [.ref (h 27), .ref (h 28), .ref (h 29), .ref (h 30), .ref (h 31), .ref (h 32)])), (h 27, .inl (E.2.1, 40, .inl (fun j => zi (z.2.2.1.2.1.1 j)))), (h 28, .inl (E.2.1, 40, .inl (fun j => zi (z.2.2.1.2.1.2.1 j)))), (h 29, .inl (E.2.1, 40, .inl (fun j => zi (z.2.2.1.2.1.2.2.1 j)))), (h 30, .inl (E.2.1, 40, .inl (fun j => zi (z.2.2.1.2.1.2.2.2.1 j)))), (h 31, .inl (E.2.1, 7, .inl (fun j => zi (z.2.2.1.2.1.2.2.2.2.1 j)))), (h 32, .inl (E.2.1, 12, .inl (fun j => zi (z.2.2.1.2.1.2.2.2.2.2 j)))), (h 33, .inl (E.2.1, 8, .inl (fun j => zi (z.2.2.1.2.2.1 j)))), (h 34, .inr (5, [.ref (h 35), .ref (h 42), .ref (h 49), .int (zi z.2.2.2.1.2.2.2.1), .int (zi z.2.2.2.1.2.2.2.2.1), .int (zi z.2.2.2.1.2.2.2.2.2.1), .int (zi z.2.2.2.1.2.2.2.2.2.2.1), .int (zi z.2.2.2.1.2.2.2.2.2.2.2)])), (h 35, .inr (1, [.ref (h 36), .ref (h 37), .ref (h 38), .ref (h 39), .ref (h 40), .ref (h 41), .int (zi z.2.2.2.1.1.2.2.2.2.2.2)])), (h 36, .inl (E.2.1, 40, .inl (fun j => zi (z.2.2.2.1.1.1 j)))), (h 37, .inl (E.2.1, 40, .inl (fun j => zi (z.2.2.2.1.1.2.1 j)))), (h 38, .inl (E.2.1, 40, .inl (fun j => zi (z.2.2.2.1.1.2.2.1 j)))), (h 39, .inl (E.2.1, 40, .inl (fun j => zi (z.2.2.2.1.1.2.2.2.1 j)))), (h 40, .inl (E.2.1, 40, .inl (fun j => zi (z.2.2.2.1.1.2.2.2.2.1 j)))), (h 41, .inl (E.2.1, 40, .inl (fun j => zi (z.2.2.2.1.1.2.2.2.2.2.1 j)))), (h 42, .inr (4, [.ref (h 43), .ref (h 44), .ref (h 45), .ref (h 46), .ref (h 47), .ref (h 48)])), (h 43, .inl (E.2.1, 40, .inl (fun j => zi (z.2.2.2.1.2.1.1 j)))), (h 44, .inl (E.2.1, 40, .inl (fun j => zi (z.2.2.2.1.2.1.2.1 j)))), (h 45, .inl (E.2.1, 40, .inl (fun j => zi (z.2.2.2.1.2.1.2.2.1 j)))), (h 46, .inl (E.2.1, 40, .inl (fun j => zi (z.2.2.2.1.2.1.2.2.2.1 j)))), (h 47, .inl (E.2.1, 7, .inl (fun j => zi (z.2.2.2.1.2.1.2.2.2.2.1 j)))), (h 48, .inl (E.2.1, 12, .inl (fun j => zi (z.2.2.2.1.2.1.2.2.2.2.2 j)))), (h 49, .inl (E.2.1, 8, .inl (fun j => zi (z.2.2.2.1.2.2.1 j)))), (h 50, .inr (5, [.ref (h 51), .ref (h 58), .ref (h 65), .int (zi z.2.2.2.2.2.2.2.1), .int (zi z.2.2.2.2.2.2.2.2.1), .int (zi z.2.2.2.2.2.2.2.2.2.1), .int (zi z.2.2.2.2.2.2.2.2.2.2.1), .int (zi z.2.2.2.2.2.2.2.2.2.2.2)])), (h 51, .inr (1, [.ref (h 52), .ref (h 53), .ref (h 54), .ref (h 55), .ref (h 56), .ref (h 57), .int (zi z.2.2.2.2.1.2.2.2.2.2.2)])), (h 52, .inl (E.2.1, 40, .inl (fun j => zi (z.2.2.2.2.1.1 j)))), (h 53, .inl (E.2.1, 40, .inl (fun j => zi (z.2.2.2.2.1.2.1 j)))), (h 54, .inl (E.2.1, 40, .inl (fun j => zi (z.2.2.2.2.1.2.2.1 j)))), (h 55, .inl (E.2.1, 40, .inl (fun j => zi (z.2.2.2.2.1.2.2.2.1 j)))), (h 56, .inl (E.2.1, 40, .inl (fun j => zi (z.2.2.2.2.1.2.2.2.2.1 j)))), (h 57, .inl (E.2.1, 40, .inl (fun j => zi (z.2.2.2.2.1.2.2.2.2.2.1 j)))), (h 58, .inr (4, [.ref (h 59), .ref (h 60), .ref (h 61), .ref (h 62), .ref (h 63), .ref (h 64)])), (h 59, .inl (E.2.1, 40, .inl (fun j => zi (z.2.2.2.2.2.1.1 j)))), (h 60, .inl (E.2.1, 40, .inl (fun j => zi (z.2.2.2.2.2.1.2.1 j)))), (h 61, .inl (E.2.1, 40, .inl (fun j => zi (z.2.2.2.2.2.1.2.2.1 j)))), (h 62, .inl (E.2.1, 40, .inl (fun j => zi (z.2.2.2.2.2.1.2.2.2.1 j)))), (h 63, .inl (E.2.1, 7, .inl (fun j => zi (z.2.2.2.2.2.1.2.2.2.2.1 j)))), (h 64, .inl (E.2.1, 12, .inl (fun j => zi (z.2.2.2.2.2.1.2.2.2.2.2 j)))), (h 65, .inl (E.2.1, 8, .inl (fun j => zi (z.2.2.2.2.2.2.1 j))))]
theorem h4_up0 (p q r t x : Nat) : va_up (h4 p q r t) 0 (some x) = h4 x q r t := by
  funext k
  unfold va_up h4
  by_cases h0 : k = 0
  · subst h0; rfl
  by_cases h1 : k = 1
  · subst h1; rfl
  by_cases h2 : k = 2
  · subst h2; rfl
  by_cases h3 : k = 3
  · subst h3; rfl
  simp [h0, h1, h2, h3]
theorem h4_up1 (p q r t x : Nat) : va_up (h4 p q r t) 1 (some x) = h4 p x r t := by
  funext k
  unfold va_up h4
  by_cases h0 : k = 0
  · subst h0; rfl
  by_cases h1 : k = 1
  · subst h1; rfl
  by_cases h2 : k = 2
  · subst h2; rfl
  by_cases h3 : k = 3
  · subst h3; rfl
  simp [h0, h1, h2, h3]
theorem h4_up2 (p q r t x : Nat) : va_up (h4 p q r t) 2 (some x) = h4 p q x t := by
  funext k
  unfold va_up h4
  by_cases h0 : k = 0
  · subst h0; rfl
  by_cases h1 : k = 1
  · subst h1; rfl
  by_cases h2 : k = 2
  · subst h2; rfl
  by_cases h3 : k = 3
  · subst h3; rfl
  simp [h0, h1, h2, h3]
theorem h4_up3 (p q r t x : Nat) : va_up (h4 p q r t) 3 (some x) = h4 p q r x := by
  funext k
  unfold va_up h4
  by_cases h0 : k = 0
  · subst h0; rfl
  by_cases h1 : k = 1
  · subst h1; rfl
  by_cases h2 : k = 2
  · subst h2; rfl
  by_cases h3 : k = 3
  · subst h3; rfl
  simp [h0, h1, h2, h3]
section ID
variable {p : Program} {l : Launch} {e : Env} {R : Room} {s : State} {m : MethodId} {args : Array Value} {below : List Frame} {meth : Method} {c : Code} {H : Heap} {locs : List Loc} {cells slots : Nat} {Q : State → Prop}
variable {cc : ByteArray} {pc : Nat} {ls : Array Slot} {rest : List Value} {D : va_G} {cl : List vw_C} {A : Nat → Prop} {a : Nat} {tys : List (ClassId × FieldType)} {ws ws1 : va_W} {H0 : Heap}
theorem iv_aast (hx : p.tables.exec = Jvm.exec) (hb : c.code = cc) (hK : va_K D cl tys s) (hP : va_P D cl ws H) (hD : va_D A ws) (hS : va_S A H0 H locs) (q0 t0 qk ci : Nat) {cA : ClassId} {r : vw_C} {n v : Nat} {vs : List Value} {f f1 : Nat → Option Nat} (ha : ws[q0]? = some (a, .inl (cA, n, .inr (.inr (.inr (.inr f)))))) (ht : tys[t0]? = some (cA, .object r.1)) (hv : ws[qk]? = some (v, .inr (ci, vs))) (hc : cl[ci]? = some r) {i : Int} {j : Nat} (hi : i = (j : Int)) (hj : j < n) (hn : n < 2147483648) (hf : va_up f j (some v) = f1) (hw : ws.set q0 (a, .inl (cA, n, .inr (.inr (.inr (.inr f1))))) = ws1) (hdg : decode cc pc = .ok (.aastore, 1))
    (kk : ∀ (H1 : Heap) (locs1 : List Loc), va_P D cl ws1 H1 → va_D A ws1 → va_S A H0 H1 locs1 → W p l e R s m args below meth c H1 locs1 cells slots Q (F0 m (pc + 1) ls rest)) : W p l e R s m args below meth c H locs cells slots Q (F0 m pc ls (.ref v :: .int (zi i) :: .ref a :: rest)) := by
  subst hi
  have g : inb (j : Int) n = true := inb_of (by omega)
  refine va_astq hx hb hK hP hD hS q0 t0 qk ci ha ht hv hc (inb_vp g hn) hdg (fun H1 locs1 h1 h2 h3 => kk H1 locs1 ?_ ?_ h3)
  · rw [inb_cl g hn, show (j : Int).toNat = j from rfl, hf, hw] at h1
    exact h1
  · rw [inb_cl g hn, show (j : Int).toNat = j from rfl, hf, hw] at h2
    exact h2
theorem iv_tald (hx : p.tables.exec = Jvm.exec) (hb : c.code = cc) {t n : Nat} {f : Nat → Int} (hT : va_T .int t n (fun j => .int (zi (f j))) A s s.heap) (hS : va_S A s.heap H locs) {i : Int} {j : Nat} (hn : n < 2147483648) (g : inb i n = true) (hj : i.toNat = j) (hdg : decode cc pc = .ok (.iaload, 1))
    (kk : W p l e R s m args below meth c H locs cells slots Q (F0 m (pc + 1) ls (.int (zi (f j)) :: rest))) : W p l e R s m args below meth c H locs cells slots Q (F0 m pc ls (.int (zi i) :: .ref t :: rest)) := by
  refine va_ti hx hb hT hS (inb_vp g hn) (v := .int (zi (f j))) ?_ hdg kk
  rw [inb_cl g hn, hj]
end ID
/-! contracts whose world lies at other addresses behind the call -/
def mPx (E : wE) (A : Nat → Prop) (Wf : (Nat → Nat) → va_W) : (Nat → Nat) → State → Prop := fun a1 t => va_P E.1 vwCl (Wf a1) t.heap ∧ KK E t ∧ va_D A (Wf a1)
def mQix (E : wE) (Wf : (Nat → Nat) → va_W) (r : Int) (A : Nat → Prop) : Array Value → State → Outcome → State → Prop := va_Qi (fun (v : Int32) (_ : Nat → Nat) => v = zi r) (mPx E A Wf) A
def mQvx (E : wE) (Wf : (Nat → Nat) → va_W) (A : Nat → Prop) : Array Value → State → Outcome → State → Prop := va_Qv (fun (_ : Nat → Nat) => True) (mPx E A Wf) A
def cIx (l : Launch) (y : MethodName) (wt : List Cond) (rm : Room) (E : wE) (sz : Nat) (av : List Value) (ws0 : va_W) (Wf : (Nat → Nat) → va_W) (r : Int) : Prop := Met l y wt rm (va_Pc av (mPre E sz ws0)) (mQix E Wf r (va_A ws0 sz)) 0 0 (va_A ws0 sz)
def cVx (l : Launch) (y : MethodName) (wt : List Cond) (rm : Room) (E : wE) (sz : Nat) (av : List Value) (ws0 : va_W) (Wf : (Nat → Nat) → va_W) : Prop := Met l y wt rm (va_Pc av (mPre E sz ws0)) (mQvx E Wf (va_A ws0 sz)) 0 0 (va_A ws0 sz)
/-! the tables LOWEST and HIGHEST, which nobody writes -/
def mSt (U : State) (A : Nat → Prop) (H : Heap) : Prop := (∃ t, va_Z "ShirtButtons" "LOWEST" "[I" (.ref t) A U H ∧ va_T .int t 8 (fun j => .int (zi (lowT j))) A U H) ∧ (∃ t, va_Z "ShirtButtons" "HIGHEST" "[I" (.ref t) A U H ∧ va_T .int t 8 (fun j => .int (zi (highT j))) A U H)
theorem mSt.moved {u U : State} {A : Nat → Prop} {H : Heap} (hvm : u.vm.Alike U.vm) (h : mSt u A H) : mSt U A H := by
  obtain ⟨⟨t1, h1, h2⟩, ⟨t2, h3, h4⟩⟩ := h
  exact ⟨⟨t1, h1.moved hvm, h2.moved hvm⟩, ⟨t2, h3.moved hvm, h4.moved hvm⟩⟩
theorem mSt.kept {U : State} {A : Nat → Prop} {H H1 : Heap} (h : mSt U A H) (hq : ∀ a : Nat, a < H.size → ¬ A a → H1[a]? = H[a]?) : mSt U A H1 := by
  obtain ⟨⟨t1, h1, h2⟩, ⟨t2, h3, h4⟩⟩ := h
  exact ⟨⟨t1, h1.kept hq, h2.kept hq⟩, ⟨t2, h3.kept hq, h4.kept hq⟩⟩
theorem mSt.narrow {U : State} {A B : Nat → Prop} {H : Heap} (h : mSt U A H) (hAB : ∀ q, B q → A q) : mSt U B H := by
  obtain ⟨⟨t1, h1, h2⟩, ⟨t2, h3, h4⟩⟩ := h
  exact ⟨⟨t1, h1.narrow hAB, h2.narrow hAB⟩, ⟨t2, h3.narrow hAB, h4.narrow hAB⟩⟩
def mPreS (E : wE) (sz : Nat) (ws : va_W) : State → Prop := fun U => mPre E sz ws U ∧ mSt U (va_A ws sz) U.heap
def cIs (l : Launch) (y : MethodName) (wt : List Cond) (rm : Room) (E : wE) (sz : Nat) (av : List Value) (ws0 ws1 : va_W) (r : Int) : Prop := Met l y wt rm (va_Pc av (mPreS E sz ws0)) (mQi E ws1 r (va_A ws0 sz)) 0 0 (va_A ws0 sz)
def cIxs (l : Launch) (y : MethodName) (wt : List Cond) (rm : Room) (E : wE) (sz : Nat) (av : List Value) (ws0 : va_W) (Wf : (Nat → Nat) → va_W) (r : Int) : Prop := Met l y wt rm (va_Pc av (mPreS E sz ws0)) (mQix E Wf r (va_A ws0 sz)) 0 0 (va_A ws0 sz)
theorem mPreS_blind {E : wE} {sz : Nat} {ws : va_W} {av : List Value} : FrameBlind (va_Pc av (mPreS E sz ws)) := fun a U g mk q => by
  obtain ⟨q0, ⟨q1, qP, qK, qD⟩, qZ⟩ := q
  exact ⟨q0, ⟨q1, qP, KK.same (u := U) (U := U.calling g mk a) rfl (Vm.Alike.refl U.vm) qK, qD⟩, mSt.moved (u := U) (U := U.calling g mk a) (Vm.Alike.refl U.vm) qZ⟩
theorem met_goS {l : Launch} {y : MethodName} {wt wt' : List Cond} {rm : Room} {cc : ByteArray} {maxL : Nat} {ret : Option FieldType} {E : wE} {sz : Nat} {av : List Value} {ws0 : va_W} {Q0 : (Nat → Prop) → Array Value → State → Outcome → State → Prop} (hy : plainName y.cls = true) (hw : wt = Cond.code y cc maxL ret :: wt') (hn : (lg_sl av).length ≤ maxL)
    (body : ∀ (A : Nat → Prop) (p : Program) (e : Env) (s : State) (m : MethodId) (below : List Frame) (meth : Method) (c : Code), p.tables.exec = Jvm.exec → c.code = cc → meth.sig.returnType = ret → c.maxLocals = maxL → (∀ w ∈ wt, w.before av.toArray s = true) → s.vm.findClass y.cls = some m.cls → meth.locks = false → mSt s A s.heap → va_P E.1 vwCl ws0 s.heap → KK E s → va_D A ws0 → (∀ q, s.heap.size ≤ q → A q) → va_S A s.heap s.heap [] → ∀ ls : Array Slot, lv_has ls maxL (lv_args 0 av) → W p l e rm s m av.toArray below meth c s.heap [] 0 0 (MQ below (Q0 A) av.toArray s 0 0 A) (F0 m 0 ls [])) :
    Met l y wt rm (va_Pc av (mPreS E sz ws0)) (Q0 (va_A ws0 sz)) 0 0 (va_A ws0 sz) := by
  refine Met.ofW (cc := cc) (maxL := maxL) (ret := ret) hy hw ?_
  intro p e s m args below meth c s₁ B hml hv
  obtain ⟨rfl, ⟨hsz, hP, hK, hD0⟩, hZ⟩ := hv
  subst hsz
  have hts := atoms_spec (ws := wt) B.pre
  have hown : s.vm.findClass y.cls = some m.cls := findClass_of_methodNamed B.named
  rw [lg_entry_eq]
  exact body (va_A ws0 s.heap.size) p e s m below meth c B.exec B.bytes B.returns hml hts hown B.notSynchronized hZ hP hK hD0.self (fun q h => Or.inr h) va_S.rf _ (lv_entry av hn)
section IE
variable {p : Program} {l : Launch} {e : Env} {R : Room} {s : State} {m : MethodId} {args : Array Value} {below : List Frame} {meth : Method} {c : Code} {H : Heap} {locs : List Loc} {cells slots : Nat} {Q : State → Prop}
variable {cc bytes : ByteArray} {pc nL maxL n index : Nat} {ls : Array Slot} {rest As : List Value} {E : wE} {A : Nat → Prop} {b : Nat} {ws wc wr w1 : va_W} {H0 : Heap} {Ts wt : List Cond} {own C : String} {y : MethodName} {ret : Option FieldType} {rm : Room} {r : Int} {Wf ws1 : (Nat → Nat) → va_W}
theorem iv_callVx (S : CallFix p m c cc nL s args Ts own) (hM : cVx l y wt rm E H.size (.ref b :: As) wc Wf) (cw : CallW R s args own C index y bytes maxL ret wt rm 0 0 n)
    (hK : KK E s) (hP : va_P E.1 vwCl ws H) (hD : va_D A ws) (hS : va_S A H0 H locs) (hA : ∀ q, H0.size ≤ q → A q) (q0 ci : Nat) {T : u_T} {N : Nat} {fs : List Value} (he : ws[q0]? = some (b, .inr (ci, fs))) (hc : vwCl[ci]? = some (C, T, N))
    (hw : ws.Perm (wr ++ wc)) (hw1 : ∀ a1, (ws1 a1).Perm (wr ++ Wf a1))
    (hlen : As.length = n) (hl : ls.size = nL) (hroom : (rest.map fun v => v.category).sum ≤ 8) (hf : cells ≤ R.cells ∧ slots ≤ R.slots) (hdg : decode cc pc = .ok (.invokevirtual index, 3))
    (kk : ∀ (a1 : Nat → Nat) (H1 : Heap) (locs1 : List Loc), va_P E.1 vwCl (ws1 a1) H1 → va_D A (ws1 a1) → va_S A H0 H1 locs1 → W p l e R s m args below meth c H1 locs1 cells slots Q (F0 m (pc + 3) ls rest)) : W p l e R s m args below meth c H locs cells slots Q (F0 m pc ls (As.reverse ++ .ref b :: rest)) := by
  have hP' := pm_P hw hP
  have hD' := pm_D hw hD
  have hFc := va_wcF hD' hS hA
  refine va_callv (va_runV (As := As) (rest := rest) S hM cw ⟨mPre_blind, va_recv hK.1 hP hc he, fun U hU hW => ⟨rfl, by rw [hU], by rw [hU]; exact va_wc hP', KK.warm hW hK, (va_wcD hD').weaken (fun _ _ _ _ => trivial)⟩⟩ rfl hlen hl rfl (lv_room hroom) hdg hf) hS (fun q _ h => hFc q h) hFc (fun a1 t H1 locs1 ht hvm hw hB hz1 hk1 hS1 => ?_)
  obtain ⟨hP1, hK1, hD1⟩ := hB
  rw [ht] at hP1
  obtain ⟨hP2, hD2⟩ := fr_join hP' hD' hk1 hFc hP1 hD1
  exact kk a1 H1 locs1 (pm_P (hw1 a1).symm hP2) (pm_D (hw1 a1).symm hD2) hS1
/-- a static method without a world, but for the tables -/
theorem iv_callSs (S : CallFix p m c cc nL s args Ts own) (hM : cIs l y wt rm E H.size As [] [] r) (cw : CallB R s args own index y bytes maxL ret wt rm 0 0 n ∧ (Cond.static y).before args s = true)
    (hZ : mSt s A s.heap) (hK : KK E s) (hP : va_P E.1 vwCl ws H) (hS : va_S A s.heap H locs) (hA : ∀ q, s.heap.size ≤ q → A q)
    (hlen : As.length = n) (hl : ls.size = nL) (hroom : (rest.map fun v => v.category).sum ≤ 8) (hf : cells ≤ R.cells ∧ slots ≤ R.slots) (hdg : decode cc pc = .ok (.invokestatic index, 3))
    (kk : ∀ (H1 : Heap) (locs1 : List Loc), va_P E.1 vwCl ws H1 → va_S A s.heap H1 locs1 → W p l e R s m args below meth c H1 locs1 cells slots Q (F0 m (pc + 3) ls (.int (zi r) :: rest))) : W p l e R s m args below meth c H locs cells slots Q (F0 m pc ls (As.reverse ++ rest)) := by
  have hFc : ∀ q, va_A [] H.size q → A q := fun q h => by
    rcases h with ⟨k, z, h⟩ | h
    · simp at h
    · exact hA q (Nat.le_trans hS.1 h)
  refine va_calli (va_runS (As := As) (rest := rest) S hM cw ⟨mPreS_blind, fun U hU hW => ⟨rfl, ⟨by rw [hU], fun k q h => by simp at h, KK.warm hW hK, ⟨fun i j p q h => by simp at h, fun k q h => by simp at h⟩⟩, by rw [hU]; exact ((hZ.kept hS.2.1).narrow hFc).moved hW.alike⟩⟩ rfl hlen hl rfl (lv_room hroom) hdg hf) hS (fun q _ h => hFc q h) hFc (fun r0 u t H1 locs1 ht hvm hw hB hz1 hk1 hS1 => ?_)
  subst hw
  refine kk H1 locs1 (hP.kept (fun k q hq => ?_)) hS1
  have hlt := (hP k q hq).lt
  refine hk1 q.1 hlt (fun h => ?_)
  rcases h with ⟨k2, z, h⟩ | h
  · simp at h
  · omega
theorem iv_iretx (a1 : Nat → Nat) (hw : ws = Wf a1) (hx : p.tables.exec = Jvm.exec) (hb : c.code = cc) (hr : meth.sig.returnType = some .int) (hlocks : meth.locks = false) (hK : KK E s) (hP : va_P E.1 vwCl ws H) (hD : va_D A ws) (hS : va_S A s.heap H locs) (hdg : decode cc pc = .ok (.ireturn, 1)) : W p l e R s m args below meth c H locs cells slots (MQ below (mQix E Wf r A) args s cells slots A) (F0 m pc ls [.int (zi r)]) := by
  subst hw
  exact W.iret (v := zi r) hx hb hr (fun t ht hW => ⟨⟨zi r, a1, rfl, rfl, by rw [ht]; exact hP, KK.warm hW hK, hD⟩, hS.F ht⟩) hS.2.2 hdg
theorem iv_vretx (a1 : Nat → Nat) (hw : ws = Wf a1) (hx : p.tables.exec = Jvm.exec) (hb : c.code = cc) (hr : meth.sig.returnType = none) (hlocks : meth.locks = false) (hK : KK E s) (hP : va_P E.1 vwCl ws H) (hD : va_D A ws) (hS : va_S A s.heap H locs) (hdg : decode cc pc = .ok (.return_, 1)) : W p l e R s m args below meth c H locs cells slots (MQ below (mQvx E Wf A) args s cells slots A) (F0 m pc ls []) := by
  subst hw
  exact W.vret hx hb hr (fun t ht hW => ⟨⟨a1, rfl, trivial, by rw [ht]; exact hP, KK.warm hW hK, hD⟩, hS.F ht⟩) hS.2.2 hdg
end IE
set_option maxRecDepth 20000 in
theorem in_X2_dropOldest_X2 : ∀ w ∈ u_ws RX2 TX2 2, w ∈ wsX2_dropOldest := by decide +kernel
set_option maxRecDepth 20000 in
theorem wd_X2_dropOldest_f11 : Cond.fieldLink RX2 11 "ShirtButtons$History" "states" "[LShirtButtons$State;" ∈ wsX2_dropOldest := by decide +kernel
set_option maxRecDepth 20000 in
theorem wd_X2_dropOldest_f17 : Cond.fieldLink RX2 17 "ShirtButtons$History" "count" "I" ∈ wsX2_dropOldest := by decide +kernel
set_option maxHeartbeats 4000000 in
set_option maxRecDepth 100000 in
theorem k_X2_dropOldest (l : Launch) (E : wE) (a h : Nat → Nat) (sz : Nat) (z u : bH) (hf : f_X2_dropOldest z = some u) : cV l yX2_dropOldest wsX2_dropOldest { frames := 0, cells := 0, slots := 0, locals := 0 } E sz [.ref (a 0)] (wH a h E z) (wH a (fun i => h (rot i)) E u) := by
  refine met_go (cc := cX2_dropOldest) (maxL := 3) (ret := none) (Q0 := mQv E (wH a (fun i => h (rot i)) E u)) (by decide +kernel) rfl (Nat.le_of_ble_eq_true rfl) ?_
  intro A p e s m below meth c hx hb hr hml hts hown hlocks hP hK hD hA hS ls hl
  have hl : lv_has ls 3 [(0, .ref (a 0))] := hl
  generalize hH : s.heap = H at hP
  have hS : va_S A s.heap H [] := by rw [← hH]; exact hS
  have hown : s.vm.findClass RX2 = some m.cls := hown
  have hP : va_P E.1 vwCl (wHr (h 2) (h 18) (h 34) (h 50) a h E z) H := hP
  have hD : va_D A (wHr (h 2) (h 18) (h 34) (h 50) a h E z) := hD
  have hq := hf
  rw [f_X2_dropOldest] at hq
  cases hq
  refine lv_aload_n hx hb dX2_dropOldest_0 rfl (lv_at hl 0 rfl) ?_
  refine va_get (D := E.1) (ci := 2) (v := .ref (a 1)) (C := RX2) (T := TX2) (N := 2) hx hb hts in_X2_dropOldest_X2 hown hK.1 hP 0 rfl rfl 0 (by decide) (hts _ wd_X2_dropOldest_f11) (fun _ h9 => h9) rfl dX2_dropOldest_1 ?_
  refine iv_iconst hx hb dX2_dropOldest_4 ?_
  refine iv_aald (f := h4 (h 2) (h 18) (h 34) (h 50)) (j := 0) (q := h 2) hx hb hK.1 hP 1 2 rfl rfl (by decide +kernel) (by decide) (by decide) rfl dX2_dropOldest_5 ?_
  refine lv_astore_n (lv' := [(1, .ref (h 2)), (0, .ref (a 0))]) hx hb dX2_dropOldest_6 rfl hl (by decide) rfl (fun ls hl => ?_)
  refine iv_iconst hx hb dX2_dropOldest_7 ?_
  refine lv_istore_n (lv' := [(2, .int (zi 1)), (1, .ref (h 2)), (0, .ref (a 0))]) hx hb dX2_dropOldest_8 rfl hl (by decide) rfl (fun ls hl => ?_)
  refine lv_iload_n hx hb dX2_dropOldest_9 rfl (lv_at hl 0 rfl) ?_
  refine iv_iconst hx hb dX2_dropOldest_10 ?_
  refine iv_ige (tgt := 34) hx hb (by decide +kernel) (by decide +kernel) dX2_dropOldest_11 (by decide) (fun c => ?_) (fun c => ?_)
  · exact absurd c (by decide)
  refine lv_aload_n hx hb dX2_dropOldest_14 rfl (lv_at hl 2 rfl) ?_
  refine va_get (D := E.1) (ci := 2) (v := .ref (a 1)) (C := RX2) (T := TX2) (N := 2) hx hb hts in_X2_dropOldest_X2 hown hK.1 hP 0 rfl rfl 0 (by decide) (hts _ wd_X2_dropOldest_f11) (fun _ h9 => h9) rfl dX2_dropOldest_15 ?_
  refine lv_iload_n hx hb dX2_dropOldest_18 rfl (lv_at hl 0 rfl) ?_
  refine iv_iconst hx hb dX2_dropOldest_19 ?_
  refine iv_isub hx hb dX2_dropOldest_20 ?_
  refine lv_aload_n hx hb dX2_dropOldest_21 rfl (lv_at hl 2 rfl) ?_
  refine va_get (D := E.1) (ci := 2) (v := .ref (a 1)) (C := RX2) (T := TX2) (N := 2) hx hb hts in_X2_dropOldest_X2 hown hK.1 hP 0 rfl rfl 0 (by decide) (hts _ wd_X2_dropOldest_f11) (fun _ h9 => h9) rfl dX2_dropOldest_22 ?_
  refine lv_iload_n hx hb dX2_dropOldest_25 rfl (lv_at hl 0 rfl) ?_
  refine iv_aald (f := h4 (h 2) (h 18) (h 34) (h 50)) (j := 1) (q := h 18) hx hb hK.1 hP 1 2 rfl rfl (by decide +kernel) (by decide) (by decide) rfl dX2_dropOldest_26 ?_
  refine iv_aast (f := h4 (h 2) (h 18) (h 34) (h 50)) (f1 := h4 (h 18) (h 18) (h 34) (h 50)) (j := 0) (ws1 := wHr (h 18) (h 18) (h 34) (h 50) a h E z) (r := (RX5, TX5, 8)) hx hb hK.1 hP hD hS 1 2 18 5 rfl rfl rfl rfl (by decide +kernel) (by decide) (by decide) (h4_up0 (h 2) (h 18) (h 34) (h 50) (h 18)) rfl dX2_dropOldest_27 (fun H locs hP hD hS => ?_)
  refine lv_iinc (v := zi 2) (lv' := [(2, .int (zi 2)), (1, .ref (h 2)), (0, .ref (a 0))]) hx hb dX2_dropOldest_28 hl (k := 0) rfl (by decide +kernel) (by decide) rfl (fun ls hl => ?_)
  refine lv_goto (tgt := 9) hx hb dX2_dropOldest_31 (by decide) ?_
  refine lv_iload_n hx hb dX2_dropOldest_9 rfl (lv_at hl 0 rfl) ?_
  refine iv_iconst hx hb dX2_dropOldest_10 ?_
  refine iv_ige (tgt := 34) hx hb (by decide +kernel) (by decide +kernel) dX2_dropOldest_11 (by decide) (fun c => ?_) (fun c => ?_)
  · exact absurd c (by decide)
  refine lv_aload_n hx hb dX2_dropOldest_14 rfl (lv_at hl 2 rfl) ?_
  refine va_get (D := E.1) (ci := 2) (v := .ref (a 1)) (C := RX2) (T := TX2) (N := 2) hx hb hts in_X2_dropOldest_X2 hown hK.1 hP 0 rfl rfl 0 (by decide) (hts _ wd_X2_dropOldest_f11) (fun _ h9 => h9) rfl dX2_dropOldest_15 ?_
  refine lv_iload_n hx hb dX2_dropOldest_18 rfl (lv_at hl 0 rfl) ?_
  refine iv_iconst hx hb dX2_dropOldest_19 ?_
  refine iv_isub hx hb dX2_dropOldest_20 ?_
  refine lv_aload_n hx hb dX2_dropOldest_21 rfl (lv_at hl 2 rfl) ?_
  refine va_get (D := E.1) (ci := 2) (v := .ref (a 1)) (C := RX2) (T := TX2) (N := 2) hx hb hts in_X2_dropOldest_X2 hown hK.1 hP 0 rfl rfl 0 (by decide) (hts _ wd_X2_dropOldest_f11) (fun _ h9 => h9) rfl dX2_dropOldest_22 ?_
  refine lv_iload_n hx hb dX2_dropOldest_25 rfl (lv_at hl 0 rfl) ?_
  refine iv_aald (f := h4 (h 18) (h 18) (h 34) (h 50)) (j := 2) (q := h 34) hx hb hK.1 hP 1 2 rfl rfl (by decide +kernel) (by decide) (by decide) rfl dX2_dropOldest_26 ?_
  refine iv_aast (f := h4 (h 18) (h 18) (h 34) (h 50)) (f1 := h4 (h 18) (h 34) (h 34) (h 50)) (j := 1) (ws1 := wHr (h 18) (h 34) (h 34) (h 50) a h E z) (r := (RX5, TX5, 8)) hx hb hK.1 hP hD hS 1 2 34 5 rfl rfl rfl rfl (by decide +kernel) (by decide) (by decide) (h4_up1 (h 18) (h 18) (h 34) (h 50) (h 34)) rfl dX2_dropOldest_27 (fun H locs hP hD hS => ?_)
  refine lv_iinc (v := zi 3) (lv' := [(2, .int (zi 3)), (1, .ref (h 2)), (0, .ref (a 0))]) hx hb dX2_dropOldest_28 hl (k := 0) rfl (by decide +kernel) (by decide) rfl (fun ls hl => ?_)
  refine lv_goto (tgt := 9) hx hb dX2_dropOldest_31 (by decide) ?_
  refine lv_iload_n hx hb dX2_dropOldest_9 rfl (lv_at hl 0 rfl) ?_
  refine iv_iconst hx hb dX2_dropOldest_10 ?_
  refine iv_ige (tgt := 34) hx hb (by decide +kernel) (by decide +kernel) dX2_dropOldest_11 (by decide) (fun c => ?_) (fun c => ?_)
  · exact absurd c (by decide)
  refine lv_aload_n hx hb dX2_dropOldest_14 rfl (lv_at hl 2 rfl) ?_
  refine va_get (D := E.1) (ci := 2) (v := .ref (a 1)) (C := RX2) (T := TX2) (N := 2) hx hb hts in_X2_dropOldest_X2 hown hK.1 hP 0 rfl rfl 0 (by decide) (hts _ wd_X2_dropOldest_f11) (fun _ h9 => h9) rfl dX2_dropOldest_15 ?_
  refine lv_iload_n hx hb dX2_dropOldest_18 rfl (lv_at hl 0 rfl) ?_
  refine iv_iconst hx hb dX2_dropOldest_19 ?_
  refine iv_isub hx hb dX2_dropOldest_20 ?_
  refine lv_aload_n hx hb dX2_dropOldest_21 rfl (lv_at hl 2 rfl) ?_
  refine va_get (D := E.1) (ci := 2) (v := .ref (a 1)) (C := RX2) (T := TX2) (N := 2) hx hb hts in_X2_dropOldest_X2 hown hK.1 hP 0 rfl rfl 0 (by decide) (hts _ wd_X2_dropOldest_f11) (fun _ h9 => h9) rfl dX2_dropOldest_22 ?_
  refine lv_iload_n hx hb dX2_dropOldest_25 rfl (lv_at hl 0 rfl) ?_
  refine iv_aald (f := h4 (h 18) (h 34) (h 34) (h 50)) (j := 3) (q := h 50) hx hb hK.1 hP 1 2 rfl rfl (by decide +kernel) (by decide) (by decide) rfl dX2_dropOldest_26 ?_
  refine iv_aast (f := h4 (h 18) (h 34) (h 34) (h 50)) (f1 := h4 (h 18) (h 34) (h 50) (h 50)) (j := 2) (ws1 := wHr (h 18) (h 34) (h 50) (h 50) a h E z) (r := (RX5, TX5, 8)) hx hb hK.1 hP hD hS 1 2 50 5 rfl rfl rfl rfl (by decide +kernel) (by decide) (by decide) (h4_up2 (h 18) (h 34) (h 34) (h 50) (h 50)) rfl dX2_dropOldest_27 (fun H locs hP hD hS => ?_)
  refine lv_iinc (v := zi 4) (lv' := [(2, .int (zi 4)), (1, .ref (h 2)), (0, .ref (a 0))]) hx hb dX2_dropOldest_28 hl (k := 0) rfl (by decide +kernel) (by decide) rfl (fun ls hl => ?_)
  refine lv_goto (tgt := 9) hx hb dX2_dropOldest_31 (by decide) ?_
  refine lv_iload_n hx hb dX2_dropOldest_9 rfl (lv_at hl 0 rfl) ?_
  refine iv_iconst hx hb dX2_dropOldest_10 ?_
  refine iv_ige (tgt := 34) hx hb (by decide +kernel) (by decide +kernel) dX2_dropOldest_11 (by decide) (fun c => ?_) (fun c => ?_)
  rotate_left
  · exact absurd (by decide) c
  refine lv_aload_n hx hb dX2_dropOldest_34 rfl (lv_at hl 2 rfl) ?_
  refine va_get (D := E.1) (ci := 2) (v := .ref (a 1)) (C := RX2) (T := TX2) (N := 2) hx hb hts in_X2_dropOldest_X2 hown hK.1 hP 0 rfl rfl 0 (by decide) (hts _ wd_X2_dropOldest_f11) (fun _ h9 => h9) rfl dX2_dropOldest_35 ?_
  refine iv_iconst hx hb dX2_dropOldest_38 ?_
  refine lv_aload_n hx hb dX2_dropOldest_39 rfl (lv_at hl 1 rfl) ?_
  refine iv_aast (f := h4 (h 18) (h 34) (h 50) (h 50)) (f1 := h4 (h 18) (h 34) (h 50) (h 2)) (j := 3) (ws1 := wHr (h 18) (h 34) (h 50) (h 2) a h E z) (r := (RX5, TX5, 8)) hx hb hK.1 hP hD hS 1 2 2 5 rfl rfl rfl rfl (by decide +kernel) (by decide) (by decide) (h4_up3 (h 18) (h 34) (h 50) (h 50) (h 2)) rfl dX2_dropOldest_40 (fun H locs hP hD hS => ?_)
  refine lv_aload_n hx hb dX2_dropOldest_41 rfl (lv_at hl 2 rfl) ?_
  refine lv_dup hx hb dX2_dropOldest_42 rfl ?_
  refine va_get (D := E.1) (ci := 2) (v := .int (zi z.1)) (C := RX2) (T := TX2) (N := 2) hx hb hts in_X2_dropOldest_X2 hown hK.1 hP 0 rfl rfl 1 (by decide) (hts _ wd_X2_dropOldest_f17) (fun _ h9 => h9) rfl dX2_dropOldest_43 ?_
  refine iv_iconst hx hb dX2_dropOldest_46 ?_
  refine iv_isub hx hb dX2_dropOldest_47 ?_
  refine iv_put (D := E.1) (ci := 2) (v := .int (zi (z.1 - 1))) (ty := .int) (ws1 := wHr (h 18) (h 34) (h 50) (h 2) a h E (z.1 - 1, z.2)) (C := RX2) (T := TX2) (N := 2) hx hb hts in_X2_dropOldest_X2 tyX2 tyX2_ok nmX2 hown hK.1 hP hD hS 0 rfl rfl 1 (by decide) (hts _ wd_X2_dropOldest_f17) (fun _ h9 => h9) rfl (by decide +kernel) rfl rfl (Nat.le_of_ble_eq_true rfl) rfl dX2_dropOldest_48 (fun H locs hP hD hS => ?_)
  have hP : va_P E.1 vwCl (wH a (fun i => h (rot i)) E (z.1 - 1, z.2.2.1, z.2.2.2.1, z.2.2.2.2, z.2.1)) H := hP.sub [0, 1, 18, 19, 20, 21, 22, 23, 24, 25, 26, 27, 28, 29, 30, 31, 32, 33, 34, 35, 36, 37, 38, 39, 40, 41, 42, 43, 44, 45, 46, 47, 48, 49, 50, 51, 52, 53, 54, 55, 56, 57, 58, 59, 60, 61, 62, 63, 64, 65, 2, 3, 4, 5, 6, 7, 8, 9, 10, 11, 12, 13, 14, 15, 16, 17] rfl
  have hD : va_D A (wH a (fun i => h (rot i)) E (z.1 - 1, z.2.2.1, z.2.2.2.1, z.2.2.2.2, z.2.1)) := hD.sub [0, 1, 18, 19, 20, 21, 22, 23, 24, 25, 26, 27, 28, 29, 30, 31, 32, 33, 34, 35, 36, 37, 38, 39, 40, 41, 42, 43, 44, 45, 46, 47, 48, 49, 50, 51, 52, 53, 54, 55, 56, 57, 58, 59, 60, 61, 62, 63, 64, 65, 2, 3, 4, 5, 6, 7, 8, 9, 10, 11, 12, 13, 14, 15, 16, 17] (by decide +kernel) rfl
  exact iv_vret hx hb hr hlocks hK hP hD hS dX2_dropOldest_51
