/-! the law: its start and end, the script, calls of the object and of the model side by side -/
def R_law : String := "ShirtButtonsLaw"
def lw_P (b : Addr) (xs : List Int32) (args : Array Value) (s : State) : Prop := args = #[.ref b] ∧ s.IntsAt b xs ∧ xs.length ≤ 2048 ∧ (Jvm.Cond.and given_1 narrow_1).before args s = true
def lw_Q (_ : Array Value) (s : State) (o : Outcome) (t : State) : Prop := o = .returned (some (.int 1)) ∧ Framed s o t [] 600000 7302250
def lw_Z (below : List Frame) (a : Array Value) (s : State) : State → Prop := fun t => ∃ o, t.status = .running ∧ Ended t below o ∧ lw_Q a s o t
/-- the law's own end, with 1 on the stack, nothing written that was there before, its room as the claim has it -/
theorem lw_ret {p : Program} {l : Launch} {e : Env} {s : State} {m : MethodId} {below : List Frame} {meth : Method} {c : Code} {b : Nat} (hx : p.tables.exec = Jvm.exec) (hb : c.code = code) (hr : meth.sig.returnType = ret) (hlocks : meth.locks = false) {pc : Nat} {H : Heap} {ls : Array Slot} (hdg : decode code pc = .ok (.ireturn, 1)) : W p l e room_1 s m #[Value.ref b] below meth c H [] 600000 7302250 (lw_Z below #[Value.ref b] s) (F0 m pc ls [.int 1]) := by
  intro T hT X
  obtain ⟨fs, hret, hrun, hended, hW, hframe⟩ := X.leave (v := some (.int 1)) (hlocks := hlocks) (fun h => by rw [hr] at h; cases h)
  have hmeth' : T.vm.method? m = some meth := X.method'
  refine ⟨T.setFrames fs, ?_, .returned (some (.int 1)), hrun, hended, rfl, ⟨_, rfl⟩, hW, hframe⟩
  jvm_step X.here [X.here.top, hx, hb, hdg, hmeth', hr, ret, narrow_b1]
  (try refine ⟨rfl, ?_⟩); (try refine ⟨rfl, ?_⟩)
  first | (intro acts; rw [hret _ acts rfl rfl rfl]) | rw [hret _ _ rfl rfl rfl]
  exact Steps.refl _
/-- what holds at the law's entry: the machine, the code, the tables' words (any of lw_tbl by 'hts w (by decide +kernel)'), the script of L ints xs at the cell b, what the Statement gives of the start (any of its parts by flat_of_before) -/
def lw_At (p : Program) (s : State) (m : MethodId) (meth : Method) (c : Code) (b L : Nat) (xs : Nat → Int32) : Prop :=
  p.tables.exec = Jvm.exec ∧ c.code = code ∧ meth.sig.returnType = ret ∧ c.maxLocals = 4 ∧ s.vm.findClass R_law = some m.cls ∧ (∀ w ∈ lw_tbl, w.before #[Value.ref b] s = true) ∧ va_X b L xs s s.heap ∧ b < s.heap.size ∧ meth.locks = false ∧ (Jvm.Cond.and given_1 narrow_1).before #[Value.ref b] s = true
/-! numbers of the script -/
theorem zi_nI (n : Nat) : zi (n : Int) = nI n := Int32.ofInt_eq_ofNat
theorem zi_xs (x : Int32) : zi x.toInt = x := Int32.ofInt_toInt x
theorem rg_xs (x : Int32) : rg x.toInt = true := by
  have h1 := x.toInt_lt
  have h2 := x.le_toInt
  exact rg_of (by omega)
theorem and31 (z : Int32) : ∃ k : Nat, k < 32 ∧ z &&& zi 31 = zi (k : Int) := by
  have hk : z.toBitVec.toNat &&& 31 < 32 := Nat.lt_of_le_of_lt Nat.and_le_right (by decide)
  refine ⟨z.toBitVec.toNat &&& 31, hk, ?_⟩
  have e1 : (zi 31).toBitVec.toNat = 31 := by decide +kernel
  have e2 : (zi ((z.toBitVec.toNat &&& 31 : Nat) : Int)).toBitVec.toNat = z.toBitVec.toNat &&& 31 := by
    rw [zi_nI]
    show (z.toBitVec.toNat &&& 31) % 2 ^ 32 = _
    omega
  apply Int32.toBitVec_inj.mp
  apply BitVec.eq_of_toNat_eq
  rw [e2]
  show (z.toBitVec &&& (zi 31).toBitVec).toNat = _
  rw [BitVec.toNat_and, e1]
theorem chr (x : Int32) : ∃ q : Nat, q < 65536 ∧ (x.toUInt32 % 65536).toInt32 = zi (q : Int) := ⟨x.toBitVec.toNat % 65536, Nat.mod_lt _ (by decide), by rw [pk_char, zi_nI]⟩
section IL
variable {p : Program} {l : Launch} {e : Env} {R : Room} {s : State} {m : MethodId} {args : Array Value} {below : List Frame} {meth : Method} {c : Code} {H : Heap} {locs : List Loc} {cells slots : Nat} {Q : State → Prop}
variable {cc bytes : ByteArray} {pc nL maxL n index : Nat} {ls : Array Slot} {rest As : List Value} {E : wE} {A : Nat → Prop} {b : Nat} {wc wr w1 : va_W} {H0 : Heap} {Ts wt : List Cond} {own C : String} {y : MethodName} {ret : Option FieldType} {rm : Room} {r : Int} {Wf : (Nat → Nat) → va_W}
theorem iv_sld (hx : p.tables.exec = Jvm.exec) (hb : c.code = cc) {L : Nat} {xs : Nat → Int32} (hL : L ≤ 2048) (hX : va_X b L xs s H0) (hbl : b < H0.size) (hbA : ¬ A b) (hS : va_S A H0 H locs) {i : Int} {j : Nat} (hi : i = (j : Int)) (hj : j < L) (hdg : decode cc pc = .ok (.iaload, 1))
    (kk : W p l e R s m args below meth c H locs cells slots Q (F0 m (pc + 1) ls (.int (zi (xs j).toInt) :: rest))) : W p l e R s m args below meth c H locs cells slots Q (F0 m pc ls (.int (zi i) :: .ref b :: rest)) := by
  subst hi
  have g : inb (j : Int) L = true := inb_of (by omega)
  refine va_sld hx hb hX hbl hbA hS (inb_vp g (by omega)) hdg ?_
  rw [inb_cl g (by omega), show (j : Int).toNat = j from rfl]
  rw [zi_xs] at kk
  exact kk
theorem iv_slen (hx : p.tables.exec = Jvm.exec) (hb : c.code = cc) {L : Nat} {xs : Nat → Int32} (hX : va_X b L xs s H0) (hbl : b < H0.size) (hbA : ¬ A b) (hS : va_S A H0 H locs) (hdg : decode cc pc = .ok (.arraylength, 1))
    (kk : W p l e R s m args below meth c H locs cells slots Q (F0 m (pc + 1) ls (.int (zi (L : Int)) :: rest))) : W p l e R s m args below meth c H locs cells slots Q (F0 m pc ls (.ref b :: rest)) := by
  refine va_slen hx hb hX hbl hbA hS hdg ?_
  rw [zi_nI] at kk
  exact kk
/-- a method that keeps to its addresses -/
theorem iv_cI (S : CallFix p m c cc nL s args Ts own) (hM : cI l y wt rm E H.size (.ref b :: As) wc w1 r) (cw : CallW R s args own C index y bytes maxL ret wt rm 0 0 n)
    (hK : KK E s) (hP : va_P E.1 vwCl (wr ++ wc) H) (hD : va_D A (wr ++ wc)) (hS : va_S A H0 H locs) (hA : ∀ q, H0.size ≤ q → A q) (ci : Nat) {T : u_T} {N : Nat} {fs : List Value} (he : wc[0]? = some (b, .inr (ci, fs))) (hc : vwCl[ci]? = some (C, T, N))
    (hlen : As.length = n) (hl : ls.size = nL) (hroom : (rest.map fun v => v.category).sum ≤ 8) (hf : cells ≤ R.cells ∧ slots ≤ R.slots) (hdg : decode cc pc = .ok (.invokevirtual index, 3))
    (kk : ∀ (H1 : Heap) (locs1 : List Loc), va_P E.1 vwCl (wr ++ w1) H1 → va_D A (wr ++ w1) → va_S A H0 H1 locs1 → W p l e R s m args below meth c H1 locs1 cells slots Q (F0 m (pc + 3) ls (.int (zi r) :: rest))) : W p l e R s m args below meth c H locs cells slots Q (F0 m pc ls (As.reverse ++ .ref b :: rest)) := by
  have hFc := va_wcF hD hS hA
  refine va_calli (va_runV (As := As) (rest := rest) S hM cw ⟨mPre_blind, va_recv hK.1 (va_wc hP) hc he, fun U hU hW => ⟨rfl, by rw [hU], by rw [hU]; exact va_wc hP, KK.warm hW hK, (va_wcD hD).weaken (fun _ _ _ _ => trivial)⟩⟩ rfl hlen hl rfl (lv_room hroom) hdg hf) hS (fun q _ h => hFc q h) hFc (fun r0 u t H1 locs1 ht hvm hw hB hz1 hk1 hS1 => ?_)
  obtain ⟨hP1, hK1, hD1⟩ := hB
  rw [ht] at hP1
  subst hw
  obtain ⟨hP2, hD2⟩ := fr_join hP hD hk1 hFc hP1 hD1
  exact kk H1 locs1 hP2 hD2 hS1
/-- a method behind which the world lies at other addresses -/
theorem iv_cIx (S : CallFix p m c cc nL s args Ts own) (hM : cIx l y wt rm E H.size (.ref b :: As) wc Wf r) (cw : CallW R s args own C index y bytes maxL ret wt rm 0 0 n)
    (hK : KK E s) (hP : va_P E.1 vwCl (wr ++ wc) H) (hD : va_D A (wr ++ wc)) (hS : va_S A H0 H locs) (hA : ∀ q, H0.size ≤ q → A q) (ci : Nat) {T : u_T} {N : Nat} {fs : List Value} (he : wc[0]? = some (b, .inr (ci, fs))) (hc : vwCl[ci]? = some (C, T, N))
    (hlen : As.length = n) (hl : ls.size = nL) (hroom : (rest.map fun v => v.category).sum ≤ 8) (hf : cells ≤ R.cells ∧ slots ≤ R.slots) (hdg : decode cc pc = .ok (.invokevirtual index, 3))
    (kk : ∀ (a1 : Nat → Nat) (H1 : Heap) (locs1 : List Loc), va_P E.1 vwCl (wr ++ Wf a1) H1 → va_D A (wr ++ Wf a1) → va_S A H0 H1 locs1 → W p l e R s m args below meth c H1 locs1 cells slots Q (F0 m (pc + 3) ls (.int (zi r) :: rest))) : W p l e R s m args below meth c H locs cells slots Q (F0 m pc ls (As.reverse ++ .ref b :: rest)) := by
  have hFc := va_wcF hD hS hA
  refine va_calli (va_runV (As := As) (rest := rest) S hM cw ⟨mPre_blind, va_recv hK.1 (va_wc hP) hc he, fun U hU hW => ⟨rfl, by rw [hU], by rw [hU]; exact va_wc hP, KK.warm hW hK, (va_wcD hD).weaken (fun _ _ _ _ => trivial)⟩⟩ rfl hlen hl rfl (lv_room hroom) hdg hf) hS (fun q _ h => hFc q h) hFc (fun r0 a1 t H1 locs1 ht hvm hw hB hz1 hk1 hS1 => ?_)
  obtain ⟨hP1, hK1, hD1⟩ := hB
  rw [ht] at hP1
  subst hw
  obtain ⟨hP2, hD2⟩ := fr_join hP hD hk1 hFc hP1 hD1
  exact kk a1 H1 locs1 hP2 hD2 hS1
/-- the same two, of methods that read the tables -/
theorem iv_cIs (S : CallFix p m c cc nL s args Ts own) (hM : cIs l y wt rm E H.size (.ref b :: As) wc w1 r) (cw : CallW R s args own C index y bytes maxL ret wt rm 0 0 n)
    (hZ : mSt s A s.heap) (hK : KK E s) (hP : va_P E.1 vwCl (wr ++ wc) H) (hD : va_D A (wr ++ wc)) (hS : va_S A s.heap H locs) (hA : ∀ q, s.heap.size ≤ q → A q) (ci : Nat) {T : u_T} {N : Nat} {fs : List Value} (he : wc[0]? = some (b, .inr (ci, fs))) (hc : vwCl[ci]? = some (C, T, N))
    (hlen : As.length = n) (hl : ls.size = nL) (hroom : (rest.map fun v => v.category).sum ≤ 8) (hf : cells ≤ R.cells ∧ slots ≤ R.slots) (hdg : decode cc pc = .ok (.invokevirtual index, 3))
    (kk : ∀ (H1 : Heap) (locs1 : List Loc), va_P E.1 vwCl (wr ++ w1) H1 → va_D A (wr ++ w1) → va_S A s.heap H1 locs1 → W p l e R s m args below meth c H1 locs1 cells slots Q (F0 m (pc + 3) ls (.int (zi r) :: rest))) : W p l e R s m args below meth c H locs cells slots Q (F0 m pc ls (As.reverse ++ .ref b :: rest)) := by
  have hFc := va_wcF hD hS hA
  refine va_calli (va_runV (As := As) (rest := rest) S hM cw ⟨mPreS_blind, va_recv hK.1 (va_wc hP) hc he, fun U hU hW => ⟨rfl, ⟨by rw [hU], by rw [hU]; exact va_wc hP, KK.warm hW hK, (va_wcD hD).weaken (fun _ _ _ _ => trivial)⟩, by rw [hU]; exact ((hZ.kept hS.2.1).narrow hFc).moved hW.alike⟩⟩ rfl hlen hl rfl (lv_room hroom) hdg hf) hS (fun q _ h => hFc q h) hFc (fun r0 u t H1 locs1 ht hvm hw hB hz1 hk1 hS1 => ?_)
  obtain ⟨hP1, hK1, hD1⟩ := hB
  rw [ht] at hP1
  subst hw
  obtain ⟨hP2, hD2⟩ := fr_join hP hD hk1 hFc hP1 hD1
  exact kk H1 locs1 hP2 hD2 hS1
theorem iv_cIxs (S : CallFix p m c cc nL s args Ts own) (hM : cIxs l y wt rm E H.size (.ref b :: As) wc Wf r) (cw : CallW R s args own C index y bytes maxL ret wt rm 0 0 n)
    (hZ : mSt s A s.heap) (hK : KK E s) (hP : va_P E.1 vwCl (wr ++ wc) H) (hD : va_D A (wr ++ wc)) (hS : va_S A s.heap H locs) (hA : ∀ q, s.heap.size ≤ q → A q) (ci : Nat) {T : u_T} {N : Nat} {fs : List Value} (he : wc[0]? = some (b, .inr (ci, fs))) (hc : vwCl[ci]? = some (C, T, N))
    (hlen : As.length = n) (hl : ls.size = nL) (hroom : (rest.map fun v => v.category).sum ≤ 8) (hf : cells ≤ R.cells ∧ slots ≤ R.slots) (hdg : decode cc pc = .ok (.invokevirtual index, 3))
    (kk : ∀ (a1 : Nat → Nat) (H1 : Heap) (locs1 : List Loc), va_P E.1 vwCl (wr ++ Wf a1) H1 → va_D A (wr ++ Wf a1) → va_S A s.heap H1 locs1 → W p l e R s m args below meth c H1 locs1 cells slots Q (F0 m (pc + 3) ls (.int (zi r) :: rest))) : W p l e R s m args below meth c H locs cells slots Q (F0 m pc ls (As.reverse ++ .ref b :: rest)) := by
  have hFc := va_wcF hD hS hA
  refine va_calli (va_runV (As := As) (rest := rest) S hM cw ⟨mPreS_blind, va_recv hK.1 (va_wc hP) hc he, fun U hU hW => ⟨rfl, ⟨by rw [hU], by rw [hU]; exact va_wc hP, KK.warm hW hK, (va_wcD hD).weaken (fun _ _ _ _ => trivial)⟩, by rw [hU]; exact ((hZ.kept hS.2.1).narrow hFc).moved hW.alike⟩⟩ rfl hlen hl rfl (lv_room hroom) hdg hf) hS (fun q _ h => hFc q h) hFc (fun r0 a1 t H1 locs1 ht hvm hw hB hz1 hk1 hS1 => ?_)
  obtain ⟨hP1, hK1, hD1⟩ := hB
  rw [ht] at hP1
  subst hw
  obtain ⟨hP2, hD2⟩ := fr_join hP hD hk1 hFc hP1 hD1
  exact kk a1 H1 locs1 hP2 hD2 hS1
end IL
/-- at a place of the law's loop: whatever the two hold, as long as they are alike -/
def lw_K (p : Program) (l : Launch) (e : Env) (s : State) (m : MethodId) (below : List Frame) (meth : Method) (c : Code) (E : wE) (a am : Nat → Nat) (b : Nat) (ls : Array Slot) (Q : State → Prop) (pc : Nat) : Prop := ∀ (hs : Nat → Nat) (x : bX) (y : bM) (H : Heap) (locs : List Loc), RX x y → va_P E.1 vwCl (wM am E y ++ wX a hs E x) H → va_D (fun q : Nat => s.heap.size ≤ q) (wM am E y ++ wX a hs E x) → va_S (fun q : Nat => s.heap.size ≤ q) s.heap H locs → W p l e room_1 s m #[Value.ref b] below meth c H locs 600000 7302250 Q (F0 m pc ls [])
