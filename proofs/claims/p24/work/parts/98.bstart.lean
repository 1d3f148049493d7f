/-! the law: its start, what the Statement gives of it; the script; calls of its own methods -/
def R_law : String := "ShirtButtonsLaw"
def lw_P (b : Addr) (xs : List Int32) (args : Array Value) (s : State) : Prop := args = #[.ref b] ∧ s.IntsAt b xs ∧ xs.length ≤ 260 ∧ (Jvm.Cond.and given_1 narrow_1).before args s = true
def lw_Q (_ : Array Value) (s : State) (o : Outcome) (t : State) : Prop := o = .returned (some (.int 1)) ∧ Framed s o t [] 600000 7302250
def lw_Z (below : List Frame) (a : Array Value) (s : State) : State → Prop := fun t => ∃ o, t.status = .running ∧ Ended t below o ∧ lw_Q a s o t
/-- the law's own end, with 1 on the stack, nothing written that was there before, its room as the claim has it -/
theorem lw_ret {p : Program} {l : Launch} {e : Env} {s : State} {m : MethodId} {below : List Frame} {meth : Method} {c : Code} {b : Nat} (hx : p.tables.exec = Jvm.exec) (hb : c.code = code) (hr : meth.sig.returnType = ret) (hlocks : meth.locks = false) {pc : Nat} {H : Heap} {ls : Array Slot} (hdg : decode code pc = .ok (.ireturn, 1)) : W p l e room_1 s m #[Value.ref b] below meth c H [] 600000 7302250 (lw_Z below #[Value.ref b] s) (F0 m pc ls [.int 1]) := by
  intro T hT X
  obtain ⟨fs, hret, hrun, hended, hW, hframe⟩ := X.leave (v := some (.int 1)) (hlocks := hlocks) (fun h => by rw [hr] at h; cases h)
  have hmeth' : T.vm.method? m = some meth := X.method'
  refine ⟨T.setFrames fs, ?_, .returned (some (.int 1)), hrun, hended, rfl, ⟨_, rfl⟩, hW, hframe⟩
  jvm_step X.here [X.here.top, hx, hb, hdg, hmeth', hr, ret, narrow_b1]
  (try refine ⟨rfl, ?_⟩); (try refine ⟨rfl, ?_⟩)
  first | (intro acts; rw [hret _ acts rfl rfl rfl]) | rw [hret _ _ rfl rfl rfl]
  exact Steps.refl _
/-- what holds at the law's entry: the machine, the code, the tables' words (any of lw_tbl by 'hts w (by decide +kernel)'), the script of L ints xs at the cell b, what the Statement gives of the start (any of its parts by flat_of_before) -/
def lw_At (p : Program) (s : State) (m : MethodId) (meth : Method) (c : Code) (b L : Nat) (xs : Nat → Int32) : Prop :=
  p.tables.exec = Jvm.exec ∧ c.code = code ∧ meth.sig.returnType = ret ∧ c.maxLocals = 10 ∧ s.vm.findClass R_law = some m.cls ∧ (∀ w ∈ lw_tbl, w.before #[Value.ref b] s = true) ∧ va_X b L xs s s.heap ∧ b < s.heap.size ∧ meth.locks = false ∧ (Jvm.Cond.and given_1 narrow_1).before #[Value.ref b] s = true
theorem zi_nI (n : Nat) : zi (n : Int) = nI n := Int32.ofInt_eq_ofNat
section SC
variable {p : Program} {l : Launch} {e : Env} {R : Room} {s : State} {m : MethodId} {args : Array Value} {below : List Frame} {meth : Method} {c : Code} {H : Heap} {locs : List Loc} {cells slots : Nat} {Q : State → Prop}
variable {cc bytes : ByteArray} {pc nL maxL n index : Nat} {ls : Array Slot} {rest As : List Value} {E : wE} {A : Nat → Prop} {b : Nat} {ws ws1 wc wr w1 : va_W} {H0 : Heap} {Ts wt : List Cond} {own C : String} {y : MethodName} {ret : Option FieldType} {rm : Room} {r : Int}
theorem iv_sld (hx : p.tables.exec = Jvm.exec) (hb : c.code = cc) {L : Nat} {xs : Nat → Int32} (hL : L ≤ 260) (hX : va_X b L xs s H0) (hbl : b < H0.size) (hbA : ¬ A b) (hS : va_S A H0 H locs) {i : Int} {j : Nat} (hi : i = (j : Int)) (hj : j < L) (hdg : decode cc pc = .ok (.iaload, 1))
    (kk : W p l e R s m args below meth c H locs cells slots Q (F0 m (pc + 1) ls (.int (zi (xs j).toInt) :: rest))) : W p l e R s m args below meth c H locs cells slots Q (F0 m pc ls (.int (zi i) :: .ref b :: rest)) := by
  subst hi
  have g : inb (j : Int) L = true := inb_of (by omega)
  refine va_sld hx hb hX hbl hbA hS (inb_vp g (by omega)) hdg ?_
  rw [inb_cl g (by omega), show (j : Int).toNat = j from rfl]
  rw [zi_of] at kk
  exact kk
theorem iv_slen (hx : p.tables.exec = Jvm.exec) (hb : c.code = cc) {L : Nat} {xs : Nat → Int32} (hX : va_X b L xs s H0) (hbl : b < H0.size) (hbA : ¬ A b) (hS : va_S A H0 H locs) (hdg : decode cc pc = .ok (.arraylength, 1))
    (kk : W p l e R s m args below meth c H locs cells slots Q (F0 m (pc + 1) ls (.int (zi (L : Int)) :: rest))) : W p l e R s m args below meth c H locs cells slots Q (F0 m pc ls (.ref b :: rest)) := by
  refine va_slen hx hb hX hbl hbA hS hdg ?_
  rw [zi_nI] at kk
  exact kk
/-- a static method that makes cells -/
theorem iv_callWc {mc ms : Nat} (S : CallFix p m c cc nL s args Ts own) (hM : cIsc l y wt rm E H.size As wc w1 r mc ms) (cw : CallB R s args own index y bytes maxL ret wt rm mc ms n ∧ (Cond.static y).before args s = true)
    (hZ : mSt s A s.heap) (hK : KK E s) (hP : va_P E.1 vwCl ws H) (hD : va_D A ws) (hS : va_S A s.heap H locs) (hA : ∀ q, s.heap.size ≤ q → A q) (hw : ws.Perm (wr ++ wc)) (hw1 : ws1.Perm (wr ++ w1))
    (hlen : As.length = n) (hl : ls.size = nL) (hroom : (rest.map fun v => v.category).sum ≤ 8) (hf : cells + mc ≤ R.cells ∧ slots + ms ≤ R.slots) (hdg : decode cc pc = .ok (.invokestatic index, 3))
    (kk : ∀ (H1 : Heap) (locs1 : List Loc), va_P E.1 vwCl ws1 H1 → va_D A ws1 → va_S A s.heap H1 locs1 → W p l e R s m args below meth c H1 locs1 (cells + mc) (slots + ms) Q (F0 m (pc + 3) ls (.int (zi r) :: rest))) : W p l e R s m args below meth c H locs cells slots Q (F0 m pc ls (As.reverse ++ rest)) := by
  have hP' := pm_P hw hP
  have hD' := pm_D hw hD
  have hFc := va_wcF hD' hS hA
  refine va_calli (va_runS (As := As) (rest := rest) S hM cw ⟨mPreS_blind, fun U hU hW => ⟨rfl, ⟨by rw [hU], by rw [hU]; exact va_wc hP', KK.warm hW hK, (va_wcD hD').weaken (fun _ _ _ _ => trivial)⟩, by rw [hU]; exact ((hZ.kept hS.2.1).narrow hFc).moved hW.alike⟩⟩ rfl hlen hl rfl (lv_room hroom) hdg hf) hS (fun q _ h => hFc q h) hFc (fun r0 u t H1 locs1 ht hvm hw hB hz1 hk1 hS1 => ?_)
  obtain ⟨hP1, hK1, hD1⟩ := hB
  rw [ht] at hP1
  subst hw
  obtain ⟨hP2, hD2⟩ := fr_join hP' hD' hk1 hFc hP1 hD1
  exact kk H1 locs1 (pm_P hw1.symm hP2) (pm_D hw1.symm hD2) hS1
/-! a cell of the script -/
def mPreX (E : wE) (sz b L : Nat) (xs : Nat → Int32) : State → Prop := fun U => mPre E sz [] U ∧ va_X b L xs U U.heap ∧ b < sz
theorem mPreX_blind {sz L : Nat} {xs : Nat → Int32} {av : List Value} : FrameBlind (va_Pc av (mPreX E sz b L xs)) := fun a U g mk q => by
  obtain ⟨q0, ⟨q1, qP, qK, qD⟩, qZ, qb⟩ := q
  exact ⟨q0, ⟨q1, qP, KK.same (u := U) (U := U.calling g mk a) rfl (Vm.Alike.refl U.vm) qK, qD⟩, va_X.moved (u := U) (U := U.calling g mk a) (Vm.Alike.refl U.vm) qZ, qb⟩
def cellV (L : Nat) (xs : Nat → Int32) (k : Nat) : Int := if k < L then (xs k).toInt else 2050082259 * ((k : Int) + 1)
def cC (l : Launch) (E : wE) (sz b L : Nat) (xs : Nat → Int32) (k : Nat) : Prop := Met l yL_cell wsL_cell { frames := 0, cells := 0, slots := 0, locals := 0 } (va_Pc [.ref b, .int (zi (k : Int))] (mPreX E sz b L xs)) (mQi E [] (cellV L xs k) (va_A [] sz)) 0 0 (va_A [] sz)
set_option maxRecDepth 20000 in
theorem wd_L_cell_c7 : Cond.constant RL 7 (2050082259) ∈ wsL_cell := by decide +kernel
set_option maxHeartbeats 4000000 in
set_option maxRecDepth 100000 in
theorem k_L_cell (l : Launch) (E : wE) (sz b L : Nat) (xs : Nat → Int32) (k : Nat) (hL : L ≤ 260) (hk : k ≤ 1000) : cC l E sz b L xs k := by
  refine Met.ofW (cc := cL_cell) (maxL := 2) (ret := some .int) (by decide +kernel) rfl ?_
  intro p e s m args below meth c s₁ B hml hv
  obtain ⟨rfl, ⟨hsz, hP, hK, hD0⟩, hX, hbl⟩ := hv
  subst hsz
  have hts := atoms_spec (ws := wsL_cell) B.pre
  have hown : s.vm.findClass RL = some m.cls := findClass_of_methodNamed B.named
  rw [lg_entry_eq]
  have hx := B.exec
  have hb : c.code = cL_cell := B.bytes
  have hr := B.returns
  have hlocks := B.notSynchronized
  have hD := hD0.self (sz := s.heap.size)
  have hA : ∀ q, s.heap.size ≤ q → va_A [] s.heap.size q := fun q h => Or.inr h
  have hbA : ¬ va_A [] s.heap.size b := fun h => by
    rcases h with ⟨k2, z, h⟩ | h
    · simp at h
    · omega
  have hS : va_S (va_A [] s.heap.size) s.heap s.heap [] := va_S.rf
  have key : ∀ ls : Array Slot, lv_has ls 2 [(0, .ref b), (1, .int (zi (k : Int)))] → W p l e { frames := 0, cells := 0, slots := 0, locals := 0 } s m ([.ref b, .int (zi (k : Int))] : List Value).toArray below meth c s.heap [] 0 0 (MQ below (mQi E [] (cellV L xs k) (va_A [] s.heap.size)) ([.ref b, .int (zi (k : Int))] : List Value).toArray s 0 0 (va_A [] s.heap.size)) (F0 m 0 ls []) := by
    intro ls hl
    refine lv_iload_n hx hb dL_cell_0 rfl (lv_at hl 1 rfl) ?_
    refine lv_aload_n hx hb dL_cell_1 rfl (lv_at hl 0 rfl) ?_
    refine iv_slen hx hb hX hbl hbA hS dL_cell_2 ?_
    refine iv_ige (tgt := 12) hx hb (rg_of (by omega)) (rg_of (by omega)) dL_cell_3 (by decide) (fun h => ?_) (fun h => ?_)
    · refine iv_ldc (n := 2050082259) (by decide +kernel) hx hb hown (hts _ wd_L_cell_c7) dL_cell_12 ?_
      refine lv_iload_n hx hb dL_cell_14 rfl (lv_at hl 1 rfl) ?_
      refine iv_iconst hx hb dL_cell_15 ?_
      refine iv_iadd hx hb dL_cell_16 ?_
      refine iv_imul hx hb dL_cell_17 ?_
      have e : cellV L xs k = 2050082259 * ((k : Int) + 1) := if_neg (by omega)
      rw [← e]
      exact iv_iret hx hb hr hlocks hK hP hD hS dL_cell_18
    · refine lv_aload_n hx hb dL_cell_6 rfl (lv_at hl 0 rfl) ?_
      refine lv_iload_n hx hb dL_cell_7 rfl (lv_at hl 1 rfl) ?_
      refine iv_sld (j := k) hx hb hL hX hbl hbA hS rfl (by omega) dL_cell_8 ?_
      refine lv_goto (tgt := 18) hx hb dL_cell_9 (by decide) ?_
      have e : cellV L xs k = (xs k).toInt := if_pos (by omega)
      rw [← e]
      exact iv_iret hx hb hr hlocks hK hP hD hS dL_cell_18
  exact key _ (lv_entry [.ref b, .int (zi (k : Int))] (Nat.le_of_ble_eq_true rfl))
theorem iv_callC {L k : Nat} {xs : Nat → Int32} (S : CallFix p m c cc nL s args Ts own) (hM : cC l E H.size b L xs k) (cw : CallB R s args own index yL_cell bytes maxL ret wsL_cell { frames := 0, cells := 0, slots := 0, locals := 0 } 0 0 2 ∧ (Cond.static yL_cell).before args s = true)
    (hX : va_X b L xs s s.heap) (hbl : b < s.heap.size) (hbA : ¬ A b) (hK : KK E s) (hP : va_P E.1 vwCl ws H) (hD : va_D A ws) (hS : va_S A s.heap H locs) (hA : ∀ q, s.heap.size ≤ q → A q)
    (hl : ls.size = nL) (hroom : (rest.map fun v => v.category).sum ≤ 8) (hf : cells ≤ R.cells ∧ slots ≤ R.slots) (hdg : decode cc pc = .ok (.invokestatic index, 3))
    (kk : ∀ (H1 : Heap) (locs1 : List Loc), va_P E.1 vwCl ws H1 → va_S A s.heap H1 locs1 → W p l e R s m args below meth c H1 locs1 cells slots Q (F0 m (pc + 3) ls (.int (zi (cellV L xs k)) :: rest))) : W p l e R s m args below meth c H locs cells slots Q (F0 m pc ls (.int (zi (k : Int)) :: .ref b :: rest)) := by
  have hP' : va_P E.1 vwCl (ws ++ []) H := by rw [List.append_nil]; exact hP
  have hD' : va_D A (ws ++ []) := by rw [List.append_nil]; exact hD
  have hFc := va_wcF hD' hS hA
  have hXH : va_X b L xs s H := hX.kept (hS.2.1 b hbl hbA)
  refine va_calli (va_runS (As := [.ref b, .int (zi (k : Int))]) (rest := rest) S hM cw ⟨mPreX_blind, fun U hU hW => ⟨rfl, ⟨by rw [hU], by rw [hU]; exact va_wc hP', KK.warm hW hK, (va_wcD hD').weaken (fun _ _ _ _ => trivial)⟩, by rw [hU]; exact hXH.moved hW.alike, Nat.lt_of_lt_of_le hbl hS.1⟩⟩ rfl rfl hl rfl (lv_room hroom) hdg hf) hS (fun q _ h => hFc q h) hFc (fun r0 u t H1 locs1 ht hvm hw hB hz1 hk1 hS1 => ?_)
  obtain ⟨hP1, hK1, hD1⟩ := hB
  rw [ht] at hP1
  subst hw
  obtain ⟨hP2, hD2⟩ := fr_join hP' hD' hk1 hFc hP1 hD1
  rw [List.append_nil] at hP2
  exact kk H1 locs1 hP2 hS1
/-- a static method without a world, with nine words left on the stack -/
theorem iv_callS9 (S : CallFix p m c cc nL s args Ts own) (hM : cI l y wt rm E H.size As [] [] r) (cw : CallB R s args own index y bytes maxL ret wt rm 0 0 n ∧ (Cond.static y).before args s = true) (hlo9 : 9 + (maxL + 11) + rm.locals ≤ R.locals)
    (hK : KK E s) (hP : va_P E.1 vwCl ws H) (hD : va_D A ws) (hS : va_S A s.heap H locs) (hA : ∀ q, s.heap.size ≤ q → A q)
    (hlen : As.length = n) (hl : ls.size = nL) (hroom : (rest.map fun v => v.category).sum ≤ 9) (hf : cells ≤ R.cells ∧ slots ≤ R.slots) (hdg : decode cc pc = .ok (.invokestatic index, 3))
    (kk : ∀ (H1 : Heap) (locs1 : List Loc), va_P E.1 vwCl ws H1 → va_S A s.heap H1 locs1 → W p l e R s m args below meth c H1 locs1 cells slots Q (F0 m (pc + 3) ls (.int (zi r) :: rest))) : W p l e R s m args below meth c H locs cells slots Q (F0 m pc ls (As.reverse ++ rest)) := by
  have hP' : va_P E.1 vwCl (ws ++ []) H := by rw [List.append_nil]; exact hP
  have hD' : va_D A (ws ++ []) := by rw [List.append_nil]; exact hD
  have hFc := va_wcF hD' hS hA
  have hp : PreS s H (va_Pc As (mPre E H.size [])) As := ⟨mPre_blind, fun U hU hW => ⟨rfl, by rw [hU], by rw [hU]; exact va_wc hP', KK.warm hW hK, (va_wcD hD').weaken (fun _ _ _ _ => trivial)⟩⟩
  have hBk : Back l R p e below s args y 3 9 (PreOf R 0 0 (va_Pc As (mPre E H.size []))) (PostOf (mQi E [] r (va_A [] H.size)) 0 0 (va_A [] H.size)) := by
    obtain ⟨⟨hrc, hrs, hfr, -, hws, hcw, -, hini, -⟩, -⟩ := cw
    exact back_of (bytes := bytes) (maxL := maxL) (ret := ret) hM hp.1 hrc hrs hfr hlo9 hws hcw (fun a' U hW => word_at hW (Or.inl (by first | rfl | simp [Cond.onTables, Cond.keeps, Cond.steady])) hini)
  have hrun : va_Run p l e R s m args below meth c H locs cells slots 0 0 (F0 m pc ls (As.reverse ++ rest)) rest ((mQi E [] r (va_A [] H.size)) As.toArray) (va_A [] H.size) := by
    obtain ⟨⟨-, -, -, -, -, -, hcode, hini, hy, hlen2, hlk⟩, hstt⟩ := cw
    obtain ⟨hx, hb, hml, ho, -⟩ := S
    intro T hT X
    have hcs := callS X hx (bytes := bytes) (maxL := maxL) (ret := ret) ho hlk hstt hini hcode hy hBk (g := F0 m pc ls (As.reverse ++ rest)) rfl (hl.trans hml.symm) (argsL := As) (rest := rest) (fun sig h => hlen.trans (hlen2 sig h)) rfl (show 2 * 0 + _ ≤ 9 by omega) (by rw [hb]; exact hdg) (fun vm₁ hW₁ => ⟨hf.1, hf.2, hp.2 (T.setVm vm₁) hT hW₁⟩)
    obtain ⟨v, vm₁, ⟨U', l2, c2, s2⟩, hW₁, X', ⟨g', mk, t, L, e1, e2, hq, h1, hL, h2, h3⟩, st⟩ := hcs
    dsimp only [Pt.U, Pt.locs, Pt.cells, Pt.slots] at X' e1 e2 h1 h2 h3 st
    subst h1
    subst h2
    subst h3
    exact ⟨v, (T.setVm vm₁).calling g' mk As.toArray, t, U', L, hT, X', hL, e1, e2, hq, st⟩
  refine va_calli hrun hS (fun q _ h => hFc q h) hFc (fun r0 u t H1 locs1 ht hvm hw hB hz1 hk1 hS1 => ?_)
  obtain ⟨hP1, hK1, hD1⟩ := hB
  rw [ht] at hP1
  subst hw
  obtain ⟨hP2, hD2⟩ := fr_join hP' hD' hk1 hFc hP1 hD1
  rw [List.append_nil] at hP2
  exact kk H1 locs1 hP2 hS1
end SC
/-! what the Statement gives of the start: classes, array classes, the static tables -/
set_option maxHeartbeats 4000000 in
set_option maxRecDepth 100000 in
theorem st_KK {s : State} {args : Array Value} (hts : ∀ w ∈ lw_tbl, w.before args s = true) : ∃ E : wE, KK E s := by
  obtain ⟨c0, i0, h0⟩ := u_known (C := RX0) (T := TX0) (N := 8) (n := 8) hts wsX00_tb (hts (.instantiable RX0 8) (by decide +kernel))
  obtain ⟨c1, i1, h1⟩ := u_known (C := RX1) (T := TX1) (N := 7) (n := 7) hts wsX10_tb (hts (.instantiable RX1 7) (by decide +kernel))
  obtain ⟨c2, i2, h2⟩ := u_known (C := RX2) (T := TX2) (N := 2) (n := 2) hts wsX20_tb (hts (.instantiable RX2 2) (by decide +kernel))
  obtain ⟨c3, i3, h3⟩ := u_known (C := RX3) (T := TX3) (N := 3) (n := 3) hts wsX30_tb (hts (.instantiable RX3 3) (by decide +kernel))
  obtain ⟨c4, i4, h4⟩ := u_known (C := RX4) (T := TX4) (N := 6) (n := 6) hts wsX40_tb (hts (.instantiable RX4 6) (by decide +kernel))
  obtain ⟨c5, i5, h5⟩ := u_known (C := RX5) (T := TX5) (N := 8) (n := 8) hts wsX50_tb (hts (.instantiable RX5 8) (by decide +kernel))
  obtain ⟨c6, i6, h6⟩ := u_known (C := RX6) (T := TX6) (N := 2) (n := 2) hts wsX60_tb (hts (.instantiable RX6 2) (by decide +kernel))
  obtain ⟨c7, i7, h7⟩ := u_known (C := RX7) (T := TX7) (N := 8) (n := 8) hts wsX70_tb (hts (.instantiable RX7 8) (by decide +kernel))
  obtain ⟨ca, ka, pa, a1, a2, a3⟩ := Cond.arrayClass_spec (hts (.arrayClass .int) (by decide +kernel))
  obtain ⟨cb, kb, pb, b1, b2, b3⟩ := Cond.arrayClass_spec (hts (.arrayClass .char) (by decide +kernel))
  obtain ⟨pq, cq, kq, q1, q0, q2, q3, q4⟩ := Cond.arrayOver_spec (hts (.arrayOver (.object "ShirtButtons$State")) (by decide +kernel))
  refine ⟨((fun k => match k with | 0 => c0 | 1 => c1 | 2 => c2 | 3 => c3 | 4 => c4 | 5 => c5 | 6 => c6 | _ => c7, fun k => match k with | 0 => i0 | 1 => i1 | 2 => i2 | 3 => i3 | 4 => i4 | 5 => i5 | 6 => i6 | _ => i7), ca, cb, cq), ⟨?_, ?_⟩, va_Nw.of rfl (hts (.methodLinkNest RX4 44 yX7_isPlace RX7) (by decide +kernel)), va_Nw.of rfl (hts (.methodLinkNest RX4 47 yX7_isBin RX7) (by decide +kernel)), va_Nw.of rfl (hts (.methodLinkNest RX5 96 yX7_isBin RX7) (by decide +kernel))⟩
  · intro k q hq
    match k, hq with
    | 0, hq => cases hq; exact h0
    | 1, hq => cases hq; exact h1
    | 2, hq => cases hq; exact h2
    | 3, hq => cases hq; exact h3
    | 4, hq => cases hq; exact h4
    | 5, hq => cases hq; exact h5
    | 6, hq => cases hq; exact h6
    | 7, hq => cases hq; exact h7
    | k + 8, hq => simp [vwCl] at hq
  · intro k q hq
    match k, hq with
    | 0, hq => cases hq; exact ⟨fun n z => ⟨(fun k h => by cases h), ka, a2, pa, a3⟩, a1⟩
    | 1, hq => cases hq; exact ⟨fun n z => ⟨(fun k h => by cases h), kb, b2, pb, b3⟩, b1⟩
    | 2, hq => cases hq; exact ⟨fun n z => ⟨(fun k h => by cases h), kq, q2, pq, q3⟩, kq, pq, q2, q3, q1, q4⟩
    | k + 3, hq => simp at hq
/-- the length of a row, as the Statement has it, with what it says of its size -/
theorem st_len {args : Array Value} {s : State} {t : Term} {v : Value} (h : (Term.length t).eval args s none [] s = some v) : ∃ a cell, t.eval args s none [] s = some (.ref a) ∧ s.arrayAt? a = some cell ∧ cell.slots.size < 2147483648 ∧ v = .int cell.slots.size.toInt32 := by
  simp only [Term.eval, Option.bind_eq_bind] at h
  cases ht : t.eval args s none [] s with
  | none => simp [ht] at h
  | some x =>
    cases x <;> simp [ht] at h
    case ref a =>
      obtain ⟨cell, hcell, h⟩ := Option.bind_eq_some_iff.mp h
      by_cases hn : cell.slots.size < 2147483648
      · rw [if_pos hn] at h
        cases h
        exact ⟨a, cell, rfl, hcell, hn, rfl⟩
      · rw [if_neg hn] at h
        cases h
set_option maxRecDepth 100000 in
theorem st_el_FIRST {s : State} {args : Array Value} (hg : ∀ w ∈ flatC (Jvm.Cond.and given_1 narrow_1), w.before args s = true) : ∀ j : Nat, j < 8 → (Term.elem (.static "ShirtButtons" "FIRST" "[I") (.int (Int32.ofNat j))).eval args s none [] s = some (.int (zi (firstT j))) := by
  intro j hj
  match j, hj with
  | 0, _ => rw [show zi (firstT 0) = 10 by decide +kernel]; exact va_eqt (hg (.eq (.elem (.static "ShirtButtons" "FIRST" "[I") (.int 0)) (.int 10)) (by decide +kernel))
  | 1, _ => rw [show zi (firstT 1) = 15 by decide +kernel]; exact va_eqt (hg (.eq (.elem (.static "ShirtButtons" "FIRST" "[I") (.int 1)) (.int 15)) (by decide +kernel))
  | 2, _ => rw [show zi (firstT 2) = 22 by decide +kernel]; exact va_eqt (hg (.eq (.elem (.static "ShirtButtons" "FIRST" "[I") (.int 2)) (.int 22)) (by decide +kernel))
  | 3, _ => rw [show zi (firstT 3) = 4 by decide +kernel]; exact va_eqt (hg (.eq (.elem (.static "ShirtButtons" "FIRST" "[I") (.int 3)) (.int 4)) (by decide +kernel))
  | 4, _ => rw [show zi (firstT 4) = 6 by decide +kernel]; exact va_eqt (hg (.eq (.elem (.static "ShirtButtons" "FIRST" "[I") (.int 4)) (.int 6)) (by decide +kernel))
  | 5, _ => rw [show zi (firstT 5) = 3 by decide +kernel]; exact va_eqt (hg (.eq (.elem (.static "ShirtButtons" "FIRST" "[I") (.int 5)) (.int 3)) (by decide +kernel))
  | 6, _ => rw [show zi (firstT 6) = 10 by decide +kernel]; exact va_eqt (hg (.eq (.elem (.static "ShirtButtons" "FIRST" "[I") (.int 6)) (.int 10)) (by decide +kernel))
  | 7, _ => rw [show zi (firstT 7) = 2 by decide +kernel]; exact va_eqt (hg (.eq (.elem (.static "ShirtButtons" "FIRST" "[I") (.int 7)) (.int 2)) (by decide +kernel))
  | j + 8, hj => exact absurd hj (by omega)
theorem st_len_FIRST {s : State} {args : Array Value} (hg : ∀ w ∈ flatC (Jvm.Cond.and given_1 narrow_1), w.before args s = true) : (Term.length (.static "ShirtButtons" "FIRST" "[I")).eval args s none [] s = some (.int (Int32.ofNat 8)) := va_eqt (hg (.eq (.length (.static "ShirtButtons" "FIRST" "[I")) (.int 8)) (by decide +kernel))
set_option maxRecDepth 100000 in
theorem st_el_LOWEST {s : State} {args : Array Value} (hg : ∀ w ∈ flatC (Jvm.Cond.and given_1 narrow_1), w.before args s = true) : ∀ j : Nat, j < 8 → (Term.elem (.static "ShirtButtons" "LOWEST" "[I") (.int (Int32.ofNat j))).eval args s none [] s = some (.int (zi (lowT j))) := by
  intro j hj
  match j, hj with
  | 0, _ => rw [show zi (lowT 0) = 1 by decide +kernel]; exact va_eqt (hg (.eq (.elem (.static "ShirtButtons" "LOWEST" "[I") (.int 0)) (.int 1)) (by decide +kernel))
  | 1, _ => rw [show zi (lowT 1) = 1 by decide +kernel]; exact va_eqt (hg (.eq (.elem (.static "ShirtButtons" "LOWEST" "[I") (.int 1)) (.int 1)) (by decide +kernel))
  | 2, _ => rw [show zi (lowT 2) = 1 by decide +kernel]; exact va_eqt (hg (.eq (.elem (.static "ShirtButtons" "LOWEST" "[I") (.int 2)) (.int 1)) (by decide +kernel))
  | 3, _ => rw [show zi (lowT 3) = 0 by decide +kernel]; exact va_eqt (hg (.eq (.elem (.static "ShirtButtons" "LOWEST" "[I") (.int 3)) (.int 0)) (by decide +kernel))
  | 4, _ => rw [show zi (lowT 4) = 1 by decide +kernel]; exact va_eqt (hg (.eq (.elem (.static "ShirtButtons" "LOWEST" "[I") (.int 4)) (.int 1)) (by decide +kernel))
  | 5, _ => rw [show zi (lowT 5) = 1 by decide +kernel]; exact va_eqt (hg (.eq (.elem (.static "ShirtButtons" "LOWEST" "[I") (.int 5)) (.int 1)) (by decide +kernel))
  | 6, _ => rw [show zi (lowT 6) = 0 by decide +kernel]; exact va_eqt (hg (.eq (.elem (.static "ShirtButtons" "LOWEST" "[I") (.int 6)) (.int 0)) (by decide +kernel))
  | 7, _ => rw [show zi (lowT 7) = 0 by decide +kernel]; exact va_eqt (hg (.eq (.elem (.static "ShirtButtons" "LOWEST" "[I") (.int 7)) (.int 0)) (by decide +kernel))
  | j + 8, hj => exact absurd hj (by omega)
theorem st_len_LOWEST {s : State} {args : Array Value} (hg : ∀ w ∈ flatC (Jvm.Cond.and given_1 narrow_1), w.before args s = true) : (Term.length (.static "ShirtButtons" "LOWEST" "[I")).eval args s none [] s = some (.int (Int32.ofNat 8)) := va_eqt (hg (.eq (.length (.static "ShirtButtons" "LOWEST" "[I")) (.int 8)) (by decide +kernel))
set_option maxRecDepth 100000 in
theorem st_el_HIGHEST {s : State} {args : Array Value} (hg : ∀ w ∈ flatC (Jvm.Cond.and given_1 narrow_1), w.before args s = true) : ∀ j : Nat, j < 8 → (Term.elem (.static "ShirtButtons" "HIGHEST" "[I") (.int (Int32.ofNat j))).eval args s none [] s = some (.int (zi (highT j))) := by
  intro j hj
  match j, hj with
  | 0, _ => rw [show zi (highT 0) = 30 by decide +kernel]; exact va_eqt (hg (.eq (.elem (.static "ShirtButtons" "HIGHEST" "[I") (.int 0)) (.int 30)) (by decide +kernel))
  | 1, _ => rw [show zi (highT 1) = 30 by decide +kernel]; exact va_eqt (hg (.eq (.elem (.static "ShirtButtons" "HIGHEST" "[I") (.int 1)) (.int 30)) (by decide +kernel))
  | 2, _ => rw [show zi (highT 2) = 30 by decide +kernel]; exact va_eqt (hg (.eq (.elem (.static "ShirtButtons" "HIGHEST" "[I") (.int 2)) (.int 30)) (by decide +kernel))
  | 3, _ => rw [show zi (highT 3) = 9 by decide +kernel]; exact va_eqt (hg (.eq (.elem (.static "ShirtButtons" "HIGHEST" "[I") (.int 3)) (.int 9)) (by decide +kernel))
  | 4, _ => rw [show zi (highT 4) = 10 by decide +kernel]; exact va_eqt (hg (.eq (.elem (.static "ShirtButtons" "HIGHEST" "[I") (.int 4)) (.int 10)) (by decide +kernel))
  | 5, _ => rw [show zi (highT 5) = 9 by decide +kernel]; exact va_eqt (hg (.eq (.elem (.static "ShirtButtons" "HIGHEST" "[I") (.int 5)) (.int 9)) (by decide +kernel))
  | 6, _ => rw [show zi (highT 6) = 20 by decide +kernel]; exact va_eqt (hg (.eq (.elem (.static "ShirtButtons" "HIGHEST" "[I") (.int 6)) (.int 20)) (by decide +kernel))
  | 7, _ => rw [show zi (highT 7) = 9 by decide +kernel]; exact va_eqt (hg (.eq (.elem (.static "ShirtButtons" "HIGHEST" "[I") (.int 7)) (.int 9)) (by decide +kernel))
  | j + 8, hj => exact absurd hj (by omega)
theorem st_len_HIGHEST {s : State} {args : Array Value} (hg : ∀ w ∈ flatC (Jvm.Cond.and given_1 narrow_1), w.before args s = true) : (Term.length (.static "ShirtButtons" "HIGHEST" "[I")).eval args s none [] s = some (.int (Int32.ofNat 8)) := va_eqt (hg (.eq (.length (.static "ShirtButtons" "HIGHEST" "[I")) (.int 8)) (by decide +kernel))
theorem st_T_LOWEST {s : State} {args : Array Value} {A : Nat → Prop} (hA : ∀ a : Nat, a < s.heap.size → ¬ A a) (hts : ∀ w ∈ lw_tbl, w.before args s = true) (hg : ∀ w ∈ flatC (Jvm.Cond.and given_1 narrow_1), w.before args s = true) : ∃ t, va_Z "ShirtButtons" "LOWEST" "[I" (.ref t) A s s.heap ∧ va_T .int t 8 (fun j => .int (zi (lowT j))) A s s.heap := by
  obtain ⟨t, h1, h2⟩ := va_Tof (tm := .static "ShirtButtons" "LOWEST" "[I") (ty := .int) (N := 8) (f := fun j => .int (zi (lowT j))) (A := A) (by decide) (hg (.arrayOf (.static "ShirtButtons" "LOWEST" "[I") .int) (by decide +kernel)) (st_len_LOWEST hg) (st_el_LOWEST hg) hA
  exact ⟨t, va_Zref (hts (.laysStatic "ShirtButtons" "LOWEST" "[I") (by decide +kernel)) (hts (.initialized "ShirtButtons") (by decide +kernel)) h1 hA, h2⟩
theorem st_T_HIGHEST {s : State} {args : Array Value} {A : Nat → Prop} (hA : ∀ a : Nat, a < s.heap.size → ¬ A a) (hts : ∀ w ∈ lw_tbl, w.before args s = true) (hg : ∀ w ∈ flatC (Jvm.Cond.and given_1 narrow_1), w.before args s = true) : ∃ t, va_Z "ShirtButtons" "HIGHEST" "[I" (.ref t) A s s.heap ∧ va_T .int t 8 (fun j => .int (zi (highT j))) A s s.heap := by
  obtain ⟨t, h1, h2⟩ := va_Tof (tm := .static "ShirtButtons" "HIGHEST" "[I") (ty := .int) (N := 8) (f := fun j => .int (zi (highT j))) (A := A) (by decide) (hg (.arrayOf (.static "ShirtButtons" "HIGHEST" "[I") .int) (by decide +kernel)) (st_len_HIGHEST hg) (st_el_HIGHEST hg) hA
  exact ⟨t, va_Zref (hts (.laysStatic "ShirtButtons" "HIGHEST" "[I") (by decide +kernel)) (hts (.initialized "ShirtButtons") (by decide +kernel)) h1 hA, h2⟩
theorem st_mSt {s : State} {args : Array Value} {A : Nat → Prop} (hA : ∀ a : Nat, a < s.heap.size → ¬ A a) (hts : ∀ w ∈ lw_tbl, w.before args s = true) (hg : ∀ w ∈ flatC (Jvm.Cond.and given_1 narrow_1), w.before args s = true) : mSt s A s.heap := ⟨st_T_LOWEST hA hts hg, st_T_HIGHEST hA hts hg⟩
set_option maxRecDepth 100000 in
theorem st_TX {s : State} {args : Array Value} {A : Nat → Prop} (hA : ∀ a : Nat, a < s.heap.size → ¬ A a) (hts : ∀ w ∈ lw_tbl, w.before args s = true) (hg : ∀ w ∈ flatC (Jvm.Cond.and given_1 narrow_1), w.before args s = true) : ∃ t, va_Z "ShirtButtons" "FIRST" "[I" (.ref t) A s s.heap ∧ va_TX t firstT A s s.heap := by
  obtain ⟨t, cell, h1, h2, h3, h4⟩ := st_len (st_len_FIRST hg)
  obtain ⟨g1, g2, g3, -⟩ := State.arrayAt?_spec h2
  obtain ⟨a, c, cell2, k, e1, e2, e3, e4, e5, e6, -⟩ := Cond.exactly_spec (hg (.exactly (.static "ShirtButtons" "FIRST" "[I") "[I") (by decide +kernel))
  cases h1.symm.trans e1
  cases g1.symm.trans e3
  have hsz : cell.slots.size = 8 := by
    have q1 : (Int32.ofNat 8).toInt = (Int32.ofNat cell.slots.size).toInt := congrArg Int32.toInt (Value.int.inj h4)
    have q2 : (Int32.ofNat cell.slots.size).toInt = (cell.slots.size : Int) := Int32.toInt_ofNat_of_lt (by omega)
    have q3 : (Int32.ofNat 8).toInt = 8 := by decide +kernel
    omega
  refine ⟨t, va_Zref (hts (.laysStatic "ShirtButtons" "FIRST" "[I") (by decide +kernel)) (hts (.initialized "ShirtButtons") (by decide +kernel)) h1 hA, cell, g1, g2, g3, hsz, fun j hj => ?_, by rw [e6]; exact e2, hA t (Array.getElem?_eq_some_iff.mp g1).1⟩
  obtain ⟨a, i, cell3, w1, w2, w3, w4, w5⟩ := Term.elem_spec (st_el_FIRST hg j hj)
  cases h1.symm.trans w1
  cases h2.symm.trans w3
  have hi : i = Int32.ofNat j := by
    have e : (Term.int (Int32.ofNat j)).eval args s none [] s = some (.int (Int32.ofNat j)) := rfl
    cases w2.symm.trans e
    rfl
  have hc : i.toNatClampNeg = j := by rw [hi]; exact Int32.toNatClampNeg_ofNat_of_lt (by omega)
  rw [hc] at w5
  exact w5
set_option maxRecDepth 100000 in
theorem st_mN {s : State} {args : Array Value} (hts : ∀ w ∈ lw_tbl, w.before args s = true) : mN s := ⟨va_Nw.of rfl (hts (.methodLinkNest RX7 9 yX6_init RX7) (by decide +kernel)), va_Nw.of rfl (hts (.methodLinkNest RX7 27 yX3_init RX7) (by decide +kernel)), va_Nw.of rfl (hts (.methodLinkNest RX2 21 yX5_init RX7) (by decide +kernel)), va_Nw.of rfl (hts (.methodLinkNest RX5 11 yX1_init RX7) (by decide +kernel)), va_Nw.of rfl (hts (.methodLinkNest RX5 20 yX4_init RX7) (by decide +kernel)), va_Nw.of rfl (hts (.methodLinkNest RX7 41 yX5_init RX7) (by decide +kernel)), va_Nw.of rfl (hts (.fieldLinkNest RX5 25 "ShirtButtons" "FIRST" "[I" "ShirtButtons") (by decide +kernel))⟩
set_option maxRecDepth 100000 in
theorem st_mI {s : State} {args : Array Value} {A : Nat → Prop} (hA : ∀ a : Nat, a < s.heap.size → ¬ A a) (hts : ∀ w ∈ lw_tbl, w.before args s = true) (hg : ∀ w ∈ flatC (Jvm.Cond.and given_1 narrow_1), w.before args s = true) : mI s A s.heap := ⟨st_TX hA hts hg, Cond.castable_spec (hts (.castable "[I" "java/lang/Cloneable") (by decide +kernel)), va_AO.of (hts (.arrayOver (.object "ShirtButtons$State")) (by decide +kernel)), st_mN hts⟩
/-! the object when it is new -/
theorem st_CI : CI z0S 0 := by
  refine ⟨⟨rfl, by omega, fun b hb => absurd hb (by omega)⟩, ?_, ⟨fun b hb => absurd hb (by omega), ⟨fun q hq => rfl, fun q hq => rfl⟩, 0, rfl, fun k hk => absurd hk (by omega), fun i j h1 h2 => absurd h2 (by omega)⟩⟩
  show SI firstT
  unfold SI firstT
  decide +kernel
