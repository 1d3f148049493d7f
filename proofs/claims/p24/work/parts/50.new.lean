/-! new objects and rows; the static FIRST, and its clone -/
def firstT (j : Nat) : Int := ([10, 15, 22, 4, 6, 3, 10, 2] : List Int).getD j 0
/-- a table of eight ints, that nobody writes, with its exact size and class -/
def va_TX (t : Nat) (f : Nat → Int) (A : Nat → Prop) (U : State) (H : Heap) : Prop := ∃ cell : Cell, H[t]? = some cell ∧ cell.vm ≠ .unknown ∧ cell.vm.isStatics = false ∧ cell.slots.size = 8 ∧ (∀ j : Nat, j < 8 → cell.slots[j]? = some (.int (zi (f j)))) ∧ U.vm.findClass "[I" = some cell.cls ∧ ¬ A t
theorem va_TX.moved {t : Nat} {f : Nat → Int} {A : Nat → Prop} {u U : State} {H : Heap} (hvm : u.vm.Alike U.vm) (h : va_TX t f A u H) : va_TX t f A U H := by
  obtain ⟨cell, h1, h2, h3, h4, h5, h6, h7⟩ := h
  exact ⟨cell, h1, h2, h3, h4, h5, by rw [hvm.findClass]; exact h6, h7⟩
theorem va_TX.kept {t : Nat} {f : Nat → Int} {A : Nat → Prop} {U : State} {H H1 : Heap} (h : va_TX t f A U H) (hq : ∀ a : Nat, a < H.size → ¬ A a → H1[a]? = H[a]?) : va_TX t f A U H1 := by
  obtain ⟨cell, h1, h2, h3, h4, h5, h6, h7⟩ := h
  exact ⟨cell, by rw [hq t (Array.getElem?_eq_some_iff.mp h1).1 h7]; exact h1, h2, h3, h4, h5, h6, h7⟩
theorem va_TX.narrow {t : Nat} {f : Nat → Int} {A B : Nat → Prop} {U : State} {H : Heap} (h : va_TX t f A U H) (hAB : ∀ q, B q → A q) : va_TX t f B U H := by
  obtain ⟨cell, h1, h2, h3, h4, h5, h6, h7⟩ := h
  exact ⟨cell, h1, h2, h3, h4, h5, h6, fun z => h7 (hAB t z)⟩
def va_Cb (C T : String) (U : State) : Prop := ∃ c t : ClassId, U.vm.findClass C = some c ∧ U.vm.findClass T = some t ∧ U.vm.assignable c t = true
theorem va_Cb.moved {C T : String} {u U : State} (hvm : u.vm.Alike U.vm) (h : va_Cb C T u) : va_Cb C T U := by
  obtain ⟨c, t, h1, h2, h3⟩ := h
  exact ⟨c, t, by rw [hvm.findClass]; exact h1, by rw [hvm.findClass]; exact h2, by rw [hvm.assignable]; exact h3⟩
def mN (U : State) : Prop := va_Nw (.methodLinkNest RX7 9 yX6_init RX7) U ∧ va_Nw (.methodLinkNest RX7 27 yX3_init RX7) U ∧ va_Nw (.methodLinkNest RX2 21 yX5_init RX7) U ∧ va_Nw (.methodLinkNest RX5 11 yX1_init RX7) U ∧ va_Nw (.methodLinkNest RX5 20 yX4_init RX7) U ∧ va_Nw (.methodLinkNest RX7 41 yX5_init RX7) U ∧ va_Nw (.fieldLinkNest RX5 25 "ShirtButtons" "FIRST" "[I" "ShirtButtons") U
theorem mN.warm {u U : State} (hW : u.WarmedH U.vm) (h : mN u) : mN U := by
  obtain ⟨h1, h2, h3, h4, h5, h6, h7⟩ := h
  exact ⟨va_Nw.warmM hW h1, va_Nw.warmM hW h2, va_Nw.warmM hW h3, va_Nw.warmM hW h4, va_Nw.warmM hW h5, va_Nw.warmM hW h6, va_Nw.warmF hW h7⟩
theorem mN.same {u U : State} (hv : u.vm = U.vm) (h : mN u) : mN U := by
  obtain ⟨h1, h2, h3, h4, h5, h6, h7⟩ := h
  exact ⟨va_Nw.same rfl hv h1, va_Nw.same rfl hv h2, va_Nw.same rfl hv h3, va_Nw.same rfl hv h4, va_Nw.same rfl hv h5, va_Nw.same rfl hv h6, va_Nw.same rfl hv h7⟩
def mI (U : State) (A : Nat → Prop) (H : Heap) : Prop := (∃ t, va_Z "ShirtButtons" "FIRST" "[I" (.ref t) A U H ∧ va_TX t firstT A U H) ∧ va_Cb "[I" "java/lang/Cloneable" U ∧ va_AO "ShirtButtons$State" U ∧ mN U
theorem mI.moved {u U : State} {A : Nat → Prop} {H : Heap} (hvm : u.vm.Alike U.vm) (hn : mN u → mN U) (h : mI u A H) : mI U A H := by
  obtain ⟨⟨t1, h1, h2⟩, h3, h4, h5⟩ := h
  exact ⟨⟨t1, h1.moved hvm, h2.moved hvm⟩, h3.moved hvm, h4.moved hvm, hn h5⟩
theorem mI.kept {U : State} {A : Nat → Prop} {H H1 : Heap} (h : mI U A H) (hq : ∀ a : Nat, a < H.size → ¬ A a → H1[a]? = H[a]?) : mI U A H1 := by
  obtain ⟨⟨t1, h1, h2⟩, h3, h4⟩ := h
  exact ⟨⟨t1, h1.kept hq, h2.kept hq⟩, h3, h4⟩
theorem mI.narrow {U : State} {A B : Nat → Prop} {H : Heap} (h : mI U A H) (hAB : ∀ q, B q → A q) : mI U B H := by
  obtain ⟨⟨t1, h1, h2⟩, h3, h4⟩ := h
  exact ⟨⟨t1, h1.narrow hAB, h2.narrow hAB⟩, h3, h4⟩
def mPreN (E : wE) (sz : Nat) (ws : va_W) : State → Prop := fun U => mPre E sz ws U ∧ mI U (va_A ws sz) U.heap
def cN (l : Launch) (y : MethodName) (wt : List Cond) (rm : Room) (E : wE) (sz : Nat) (av : List Value) (ws0 : va_W) (po : (Nat → Nat) → Prop) (Wf : (Nat → Nat) → va_W) (mc ms : Nat) : Prop := Met l y wt rm (va_Pc av (mPreN E sz ws0)) (va_Qv po (mPx E (va_A ws0 sz) Wf) (va_A ws0 sz)) mc ms (va_A ws0 sz)
theorem mPreN_blind {E : wE} {sz : Nat} {ws : va_W} {av : List Value} : FrameBlind (va_Pc av (mPreN E sz ws)) := fun a U g mk q => by
  obtain ⟨q0, ⟨q1, qP, qK, qD⟩, qZ⟩ := q
  exact ⟨q0, ⟨q1, qP, KK.same (u := U) (U := U.calling g mk a) rfl (Vm.Alike.refl U.vm) qK, qD⟩, mI.moved (u := U) (U := U.calling g mk a) (Vm.Alike.refl U.vm) (mN.same rfl) qZ⟩
theorem met_goN {l : Launch} {y : MethodName} {wt wt' : List Cond} {rm : Room} {cc : ByteArray} {maxL : Nat} {E : wE} {sz : Nat} {av : List Value} {ws0 : va_W} {po : (Nat → Nat) → Prop} {Wf : (Nat → Nat) → va_W} {mc ms : Nat} (hy : plainName y.cls = true) (hyn : y.name = "<init>") (hw : wt = Cond.code y cc maxL none :: wt') (hn : (lg_sl av).length ≤ maxL)
    (body : ∀ (A : Nat → Prop) (p : Program) (e : Env) (s : State) (m : MethodId) (below : List Frame) (meth : Method) (c : Code), p.tables.exec = Jvm.exec → c.code = cc → meth.sig.returnType = none → c.maxLocals = maxL → (∀ w ∈ wt, w.before av.toArray s = true) → s.vm.findClass y.cls = some m.cls → meth.locks = false → meth.name = "<init>" → mI s A s.heap → va_P E.1 vwCl ws0 s.heap → KK E s → va_D A ws0 → (∀ q, s.heap.size ≤ q → A q) → va_S A s.heap s.heap [] → ∀ ls : Array Slot, lv_has ls maxL (lv_args 0 av) → W p l e rm s m av.toArray below meth c s.heap [] 0 0 (MQ below (va_Qv po (mPx E A Wf) A) av.toArray s mc ms A) (F0 m 0 ls [])) :
    cN l y wt rm E sz av ws0 po Wf mc ms := by
  refine Met.ofW (cc := cc) (maxL := maxL) (ret := none) hy hw ?_
  intro p e s m args below meth c s₁ B hml hv
  obtain ⟨rfl, ⟨hsz, hP, hK, hD0⟩, hZ⟩ := hv
  subst hsz
  have hts := atoms_spec (ws := wt) B.pre
  have hown : s.vm.findClass y.cls = some m.cls := findClass_of_methodNamed B.named
  have hin : meth.name = "<init>" := (name_of_methodNamed B.named B.method).1.trans hyn
  rw [lg_entry_eq]
  exact body (va_A ws0 s.heap.size) p e s m below meth c B.exec B.bytes B.returns hml hts hown B.notSynchronized hin hZ hP hK hD0.self (fun q h => Or.inr h) va_S.rf _ (lv_entry av hn)
section IN
variable {p : Program} {l : Launch} {e : Env} {R : Room} {s : State} {m : MethodId} {args : Array Value} {below : List Frame} {meth : Method} {c : Code} {H : Heap} {locs : List Loc} {cells slots : Nat} {Q : State → Prop}
variable {cc bytes : ByteArray} {pc nL maxL n index : Nat} {ls : Array Slot} {rest As : List Value} {E : wE} {A : Nat → Prop} {a b : Nat} {ws ws1 wc wr : va_W} {H0 : Heap} {Ts wt : List Cond} {own C : String} {y : MethodName} {rm : Room} {Wf : (Nat → Nat) → va_W} {po : (Nat → Nat) → Prop}
theorem iv_putF (hx : p.tables.exec = Jvm.exec) (hb : c.code = cc) {ref : String} {T : u_T} {N ci : Nat} (hts : ∀ w ∈ Ts, w.before args s = true) (hin : ∀ w ∈ u_ws C T N, w ∈ Ts) (ty0 : Nat → FieldType) (hty : ∀ k, k < N → parseFieldDescriptor (T k).2.2.1 = some (ty0 k)) (hnm : ∀ a, a < N → ∀ b, b < N → a ≠ b → (T a).2.1 ≠ (T b).2.1) (hown : s.vm.findClass own = some m.cls) (hK : KK E s) (hP : va_P E.1 vwCl ws H) (hD : va_D A ws) (hS0 : va_S A H0 H locs) (q0 : Nat) {fs : List Value} (he : ws[q0]? = some (a, .inr (ci, fs))) (hc : vwCl[ci]? = some (C, T, N)) (k : Nat) (hk : k < N) (hlink : (Cond.fieldLink own index ref (T k).2.1 (T k).2.2.1).before args s = true) (hsame : ∀ x, s.fieldFound? (T k).1 (T k).2.1 (T k).2.2.1 = some x → s.fieldFound? ref (T k).2.1 (T k).2.2.1 = some x) (hfin : (T k).2.2.2 = true) (hin2 : meth.name = "<init>") (hdecl : (T k).1 = own) {ty : FieldType} {v : Value} (hd : parseFieldDescriptor (T k).2.2.1 = some ty) (hn : narrow ty v = v) (hfit : fits ty v = true) (hl : k < fs.length) (hw : ws.set q0 (a, .inr (ci, fs.set k v)) = ws1)
    (hdg : decode cc pc = .ok (.putfield index, 3)) (kk : ∀ (H1 : Heap) (locs1 : List Loc), va_P E.1 vwCl ws1 H1 → va_D A ws1 → va_S A H0 H1 locs1 → W p l e R s m args below meth c H1 locs1 cells slots Q (F0 m (pc + 3) ls rest)) : W p l e R s m args below meth c H locs cells slots Q (F0 m pc ls (v :: .ref a :: rest)) := by
  refine va_putF hx hb hts hin ty0 hty hnm hown hK.1 hP hD hS0 q0 he hc k hk hlink hsame hfin hin2 hdecl hd hn hfit hl hdg (fun H1 locs1 h1 h2 h3 => kk H1 locs1 ?_ ?_ h3)
  · rw [hw] at h1
    exact h1
  · rw [hw] at h2
    exact h2
theorem iv_newI (hx : p.tables.exec = Jvm.exec) (hb : c.code = cc) (harr : (Cond.arrayClass .int).before args s = true) (hK : KK E s) (hP : va_P E.1 vwCl ws H) (hD : va_D A ws) (hS : va_S A H0 H locs) (hA : ∀ q, H0.size ≤ q → A q) (N : Nat) {x : Int} (hN : x = (N : Int)) (hN2 : N ≤ 100000) (hcells : cells + 1 ≤ R.cells) (hslots : slots + N ≤ R.slots) (hdg : decode cc pc = .ok (.newarray .int, 2))
    (kk : ∀ (q : Nat) (H1 : Heap), va_P E.1 vwCl (ws ++ [(q, .inl (E.2.1, N, .inl (fun _ => zi 0)))]) H1 → va_D A (ws ++ [(q, .inl (E.2.1, N, .inl (fun _ => zi 0)))]) → va_S A H0 H1 locs → W p l e R s m args below meth c H1 locs (cells + 1) (slots + N) Q (F0 m (pc + 2) ls (.ref q :: rest))) : W p l e R s m args below meth c H locs cells slots Q (F0 m pc ls (.int (zi x) :: rest)) := by
  subst hN
  have g : inb (N : Int) 200000 = true := inb_of (by omega)
  have h0 : ¬ zi (N : Int) < 0 := fun h => by
    have := (zi_lt (inb_rg g (by decide)) rg_0).mp (by rw [zi_0]; exact h)
    omega
  refine va_newa (atype := .int) (ty := .int) (N' := N) (a0 := (N, .inl (fun _ => zi 0))) hx hb harr rfl hK.1 hP hD hS hA (fun cA => by rw [zi_0]; rfl) h0 (inb_cl g (by decide)) (by show N * 4 ≤ 536870912; omega) hcells hslots hdg (fun q cA H1 hK1 hP1 hD1 hS1 => ?_)
  have e1 : s.vm.findClass ("[" ++ FieldType.int.toString) = some E.2.1 := (hK.1.2 0 _ rfl).2
  have e2 : s.vm.findClass ("[" ++ FieldType.int.toString) = some cA := (hK1.2 3 _ rfl).2
  have e3 : cA = E.2.1 := Option.some.inj (e2.symm.trans e1)
  subst e3
  exact kk q H1 hP1 hD1 hS1
theorem iv_newC (hx : p.tables.exec = Jvm.exec) (hb : c.code = cc) (harr : (Cond.arrayClass .char).before args s = true) (hK : KK E s) (hP : va_P E.1 vwCl ws H) (hD : va_D A ws) (hS : va_S A H0 H locs) (hA : ∀ q, H0.size ≤ q → A q) (N : Nat) {x : Int} (hN : x = (N : Int)) (hN2 : N ≤ 100000) (hcells : cells + 1 ≤ R.cells) (hslots : slots + N ≤ R.slots) (hdg : decode cc pc = .ok (.newarray .char, 2))
    (kk : ∀ (q : Nat) (H1 : Heap), va_P E.1 vwCl (ws ++ [(q, .inl (E.2.2.1, N, .inl (fun _ => zi 0)))]) H1 → va_D A (ws ++ [(q, .inl (E.2.2.1, N, .inl (fun _ => zi 0)))]) → va_S A H0 H1 locs → W p l e R s m args below meth c H1 locs (cells + 1) (slots + N) Q (F0 m (pc + 2) ls (.ref q :: rest))) : W p l e R s m args below meth c H locs cells slots Q (F0 m pc ls (.int (zi x) :: rest)) := by
  subst hN
  have g : inb (N : Int) 200000 = true := inb_of (by omega)
  have h0 : ¬ zi (N : Int) < 0 := fun h => by
    have := (zi_lt (inb_rg g (by decide)) rg_0).mp (by rw [zi_0]; exact h)
    omega
  refine va_newa (atype := .char) (ty := .char) (N' := N) (a0 := (N, .inl (fun _ => zi 0))) hx hb harr rfl hK.1 hP hD hS hA (fun cA => by rw [zi_0]; rfl) h0 (inb_cl g (by decide)) (by show N * 2 ≤ 536870912; omega) hcells hslots hdg (fun q cA H1 hK1 hP1 hD1 hS1 => ?_)
  have e1 : s.vm.findClass ("[" ++ FieldType.char.toString) = some E.2.2.1 := (hK.1.2 1 _ rfl).2
  have e2 : s.vm.findClass ("[" ++ FieldType.char.toString) = some cA := (hK1.2 3 _ rfl).2
  have e3 : cA = E.2.2.1 := Option.some.inj (e2.symm.trans e1)
  subst e3
  exact kk q H1 hP1 hD1 hS1
theorem iv_newS (hx : p.tables.exec = Jvm.exec) (hb : c.code = cc) (hown : s.vm.findClass own = some m.cls) (hclink : (Cond.classLink own index "ShirtButtons$State").before args s = true) (hover : va_AO "ShirtButtons$State" s) (hK : KK E s) (hP : va_P E.1 vwCl ws H) (hD : va_D A ws) (hS : va_S A H0 H locs) (hA : ∀ q, H0.size ≤ q → A q) (N : Nat) {x : Int} (hN : x = (N : Int)) (hN2 : N ≤ 100000) (hcells : cells + 1 ≤ R.cells) (hslots : slots + N ≤ R.slots) (hdg : decode cc pc = .ok (.anewarray index, 3))
    (kk : ∀ (q : Nat) (H1 : Heap), va_P E.1 vwCl (ws ++ [(q, .inl (E.2.2.2, N, .inr (.inr (.inr (.inr (fun _ => none))))))]) H1 → va_D A (ws ++ [(q, .inl (E.2.2.2, N, .inr (.inr (.inr (.inr (fun _ => none))))))]) → va_S A H0 H1 locs → W p l e R s m args below meth c H1 locs (cells + 1) (slots + N) Q (F0 m (pc + 3) ls (.ref q :: rest))) : W p l e R s m args below meth c H locs cells slots Q (F0 m pc ls (.int (zi x) :: rest)) := by
  subst hN
  have g : inb (N : Int) 200000 = true := inb_of (by omega)
  have h0 : ¬ zi (N : Int) < 0 := fun h => by
    have := (zi_lt (inb_rg g (by decide)) rg_0).mp (by rw [zi_0]; exact h)
    omega
  refine va_newq (N' := N) hx hb hown hclink hover hK.1 hP hD hS hA h0 (inb_cl g (by decide)) (by omega) hcells hslots hdg (fun q cA H1 hK1 hP1 hD1 hS1 => ?_)
  obtain ⟨k1, c1, f1, f2, f3, e1⟩ := (hK.1.2 2 _ rfl).2
  obtain ⟨k2, c2, f4, f5, f6, e2⟩ := (hK1.2 3 _ rfl).2
  have e3 : cA = E.2.2.2 := Option.some.inj (e2.symm.trans e1)
  subst e3
  exact kk q H1 hP1 hD1 hS1
theorem iv_clone (hx : p.tables.exec = Jvm.exec) (hb : c.code = cc) (hml : c.maxLocals = ls.size) (hown : s.vm.findClass own = some m.cls)
    (hlink : (Cond.methodLink own index ⟨"[I", "clone", "()Ljava/lang/Object;"⟩).before args s = true) (hsame : (Cond.sameMethod "[I" "java/lang/Object" "clone" "()Ljava/lang/Object;").before args s = true)
    (hnat : (Cond.native ⟨"java/lang/Object", "clone", "()Ljava/lang/Object;"⟩).before args s = true) (hinst : (Cond.instanceMethod ⟨"java/lang/Object", "clone", "()Ljava/lang/Object;"⟩).before args s = true)
    (hsel : (Cond.selects "[I" ⟨"[I", "clone", "()Ljava/lang/Object;"⟩ ⟨"java/lang/Object", "clone", "()Ljava/lang/Object;"⟩).before args s = true) (hcl : va_Cb "[I" "java/lang/Cloneable" s)
    (hK : KK E s) (hP : va_P E.1 vwCl ws H) (hD : va_D A ws) (hS : va_S A s.heap H locs) (hA : ∀ q, s.heap.size ≤ q → A q) {t : Nat} {f : Nat → Int} (hT0 : va_TX t f A s s.heap)
    (hframes : 1 ≤ R.frames) (hlocals : (rest.map fun v => v.category).sum + 14 ≤ R.locals) (hcells : cells + 1 ≤ R.cells) (hslots : slots + 8 ≤ R.slots) (hdg : decode cc pc = .ok (.invokevirtual index, 3))
    (kk : ∀ (q : Nat) (H1 : Heap), va_P E.1 vwCl (ws ++ [(q, .inl (E.2.1, 8, .inl (fun j => zi (f j))))]) H1 → va_D A (ws ++ [(q, .inl (E.2.1, 8, .inl (fun j => zi (f j))))]) → va_S A s.heap H1 locs → W p l e R s m args below meth c H1 locs (cells + 1) (slots + 8) Q (F0 m (pc + 3) ls (.ref q :: rest))) : W p l e R s m args below meth c H locs cells slots Q (F0 m pc ls (.ref t :: rest)) := by
  obtain ⟨cell, w1, w2, w3, w4, w5, w6, w7⟩ := hT0
  obtain ⟨c0, t0, f1, f2, f3⟩ := hcl
  have hnm : s.vm.findClass "[I" = some E.2.1 := va_nm_int (hK.1.2 0 _ rfl).2
  have ecl : cell.cls = E.2.1 := Option.some.inj (w6.symm.trans hnm)
  cases f1.symm.trans w6
  have hcH : H[t]? = some cell := by rw [hS.2.1 t (Array.getElem?_eq_some_iff.mp w1).1 w7]; exact w1
  have hcellE : ({ cls := cell.cls, slots := cell.slots } : Cell) = vp_cell E.2.1 (8, .inl (fun j => zi (f j))) := by
    have e1 : cell.slots = (arrV E.2.1 8 (fun j => .int (zi (f j)))).slots := by
      apply Array.ext_getElem?
      intro i
      by_cases hi : i < 8
      · rw [arrV_read _ _ hi, w5 i hi]
      · rw [Array.getElem?_eq_none (by omega), Array.getElem?_eq_none (by rw [arrV_size]; omega)]
    rw [ecl, e1]
    rfl
  intro T hT X
  have hcellT : T.heap[t]? = some cell := by rw [hT]; exact hcH
  obtain ⟨-, kA, hkA, comp, hkind⟩ := State.isArrayOf_alike X.warmed.alike ((hK.1.2 0 _ rfl).1 0 (fun _ => .null))
  obtain ⟨-, kS, hkS, compS, hkindS⟩ := (hK.1.2 0 _ rfl).1 0 (fun _ => .null)
  obtain ⟨vm', X', st⟩ := X.cloneArray hx hown hlink hsame hnat hinst hsel (a := t) (cell := cell) hcellT (fun k h => by rw [h] at w3; cases w3) w2 w6 f2 f3
    (fun i v hv => by
      rw [ecl]
      have hk' : T.vm.classes[E.2.1]? = some kA := hkA
      have hv2 : ∃ x, v = .int x := by
        by_cases hi : i < 8
        · rw [w5 i hi] at hv
          cases hv
          exact ⟨_, rfl⟩
        · rw [Array.getElem?_eq_none (by omega)] at hv
          cases hv
      obtain ⟨x, rfl⟩ := hv2
      simp [State.fitsSlot, State.slotType?, hk', hkind, fits])
    (g := F0 m pc ls (.ref t :: rest)) rfl (by rw [hml]) rfl (by rw [hb]; exact hdg) hframes (by show 2 * 0 + _ + 14 ≤ _; omega) hcells (by rw [w4]; exact hslots) (hloader := by rw [ecl]; exact Vm.clonesLoader_of_array hkS hkindS)
  rw [hcellE, w4] at X'
  generalize hH1 : H.push (vp_cell E.2.1 (8, .inl (fun j => zi (f j)))) = H1
  have z1 : H1.size = H.size + 1 := by rw [← hH1, Array.size_push]
  have e1 : H1[H.size]? = some (vp_cell E.2.1 (8, .inl (fun j => zi (f j)))) := by rw [← hH1, Array.getElem?_push_size]
  have o1 : ∀ q : Nat, q < H.size → H1[q]? = H[q]? := fun q hq => by rw [← hH1, Array.getElem?_push, if_neg (Nat.ne_of_lt hq)]
  have hk : ∀ (k : Nat) (y : Nat × va_E), ws[k]? = some y → H1[y.1]? = H[y.1]? := fun k y hy => o1 y.1 ((hP k y hy).lt)
  obtain ⟨t2, b1, b2⟩ := kk H.size H1 ((hP.kept hk).app (fun k y hy => by
      have hz : k < 1 := (List.getElem?_eq_some_iff.mp hy).1
      rw [show k = 0 by omega] at hy
      cases hy
      exact e1)) (hD.push hP rfl (hA _ hS.1)) ⟨Nat.le_trans hS.1 (by omega), fun y h1 h2 => (o1 y (Nat.lt_of_lt_of_le h1 hS.1)).trans (hS.2.1 y h1 h2), hS.2.2⟩
    ((T.setVm vm').pushCell (vp_cell E.2.1 (8, .inl (fun j => zi (f j))))) (by rw [← hH1, ← hT]; rfl) X'
  refine ⟨t2, st t2 ?_, b2⟩
  rw [hcellE, hT]
  exact b1
/-- a constructor is called: its object is the last of the world -/
theorem iv_callN {mc ms : Nat} (S : CallFix p m c cc nL s args Ts own) (hM : cN l y wt rm E H.size (.ref b :: As) wc po Wf mc ms) (cw : CallB R s args own index y bytes maxL none wt rm mc ms n ∧ y.name = "<init>" ∧ (Cond.instanceMethod y).before args s = true)
    (hZ : mI s A s.heap) (hK : KK E s) (hP : va_P E.1 vwCl (wr ++ wc) H) (hD : va_D A (wr ++ wc)) (hS : va_S A s.heap H locs) (hA : ∀ q, s.heap.size ≤ q → A q)
    (hlen : As.length = n) (hl : ls.size = nL) (hroom : (rest.map fun v => v.category).sum ≤ 8) (hf : cells + mc ≤ R.cells ∧ slots + ms ≤ R.slots) (hdg : decode cc pc = .ok (.invokespecial index, 3))
    (kk : ∀ (a1 : Nat → Nat) (H1 : Heap) (locs1 : List Loc), po a1 → va_P E.1 vwCl (wr ++ Wf a1) H1 → va_D A (wr ++ Wf a1) → va_S A s.heap H1 locs1 → W p l e R s m args below meth c H1 locs1 (cells + mc) (slots + ms) Q (F0 m (pc + 3) ls rest)) : W p l e R s m args below meth c H locs cells slots Q (F0 m pc ls (As.reverse ++ .ref b :: rest)) := by
  have hFc := va_wcF hD hS hA
  refine va_callv (va_runI (As := As) (rest := rest) S hM cw ⟨mPreN_blind, fun U hU hW => ⟨rfl, ⟨by rw [hU], by rw [hU]; exact va_wc hP, KK.warm hW hK, (va_wcD hD).weaken (fun _ _ _ _ => trivial)⟩, by rw [hU]; exact ((hZ.kept hS.2.1).narrow hFc).moved hW.alike (mN.warm hW)⟩⟩ rfl hlen hl rfl (lv_room hroom) hdg hf) hS (fun q _ h => hFc q h) hFc (fun a1 t H1 locs1 ht hvm hw hB hz1 hk1 hS1 => ?_)
  obtain ⟨hP1, hK1, hD1⟩ := hB
  rw [ht] at hP1
  obtain ⟨hP2, hD2⟩ := fr_join hP hD hk1 hFc hP1 hD1
  exact kk a1 H1 locs1 hw hP2 hD2 hS1
/-- the same, a private constructor of a nest mate -/
theorem iv_callNN {host : String} {mc ms : Nat} (S : CallFix p m c cc nL s args Ts own) (hM : cN l y wt rm E H.size (.ref b :: As) wc po Wf mc ms) (cw : va_CN R s args own index y host bytes maxL none wt rm mc ms n ∧ y.name = "<init>" ∧ (Cond.instanceMethod y).before args s = true)
    (hZ : mI s A s.heap) (hK : KK E s) (hP : va_P E.1 vwCl (wr ++ wc) H) (hD : va_D A (wr ++ wc)) (hS : va_S A s.heap H locs) (hA : ∀ q, s.heap.size ≤ q → A q)
    (hlen : As.length = n) (hl : ls.size = nL) (hroom : (rest.map fun v => v.category).sum ≤ 8) (hf : cells + mc ≤ R.cells ∧ slots + ms ≤ R.slots) (hdg : decode cc pc = .ok (.invokespecial index, 3))
    (kk : ∀ (a1 : Nat → Nat) (H1 : Heap) (locs1 : List Loc), po a1 → va_P E.1 vwCl (wr ++ Wf a1) H1 → va_D A (wr ++ Wf a1) → va_S A s.heap H1 locs1 → W p l e R s m args below meth c H1 locs1 (cells + mc) (slots + ms) Q (F0 m (pc + 3) ls rest)) : W p l e R s m args below meth c H locs cells slots Q (F0 m pc ls (As.reverse ++ .ref b :: rest)) := by
  have hFc := va_wcF hD hS hA
  refine va_callv (va_runIN (As := As) (rest := rest) S hM cw ⟨mPreN_blind, fun U hU hW => ⟨rfl, ⟨by rw [hU], by rw [hU]; exact va_wc hP, KK.warm hW hK, (va_wcD hD).weaken (fun _ _ _ _ => trivial)⟩, by rw [hU]; exact ((hZ.kept hS.2.1).narrow hFc).moved hW.alike (mN.warm hW)⟩⟩ rfl hlen hl rfl (lv_room hroom) hdg hf) hS (fun q _ h => hFc q h) hFc (fun a1 t H1 locs1 ht hvm hw hB hz1 hk1 hS1 => ?_)
  obtain ⟨hP1, hK1, hD1⟩ := hB
  rw [ht] at hP1
  obtain ⟨hP2, hD2⟩ := fr_join hP hD hk1 hFc hP1 hD1
  exact kk a1 H1 locs1 hw hP2 hD2 hS1
theorem iv_nret (a1 : Nat → Nat) (hpo : po a1) (hw : ws = Wf a1) (hx : p.tables.exec = Jvm.exec) (hb : c.code = cc) (hr : meth.sig.returnType = none) (hlocks : meth.locks = false) (hK : KK E s) (hP : va_P E.1 vwCl ws H) (hD : va_D A ws) (hS : va_S A s.heap H locs) (hdg : decode cc pc = .ok (.return_, 1)) : W p l e R s m args below meth c H locs cells slots (MQ below (va_Qv po (mPx E A Wf) A) args s cells slots A) (F0 m pc ls []) := by
  subst hw
  exact W.vret hx hb hr (fun t ht hW => ⟨⟨a1, rfl, hpo, by rw [ht]; exact hP, KK.warm hW hK, hD⟩, hS.F ht⟩) hS.2.2 hdg
end IN
def adL (l : List Nat) : Nat → Nat := fun i => l.getD i 0
