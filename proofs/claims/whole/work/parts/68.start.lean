/-! what the Statement gives of the start: classes, array classes, the static tables; the two are alike when new -/
set_option maxHeartbeats 4000000 in
set_option maxRecDepth 100000 in
theorem st_KK {s : State} {args : Array Value} (hts : ∀ w ∈ lw_tbl, w.before args s = true) : ∃ E : wE, KK E s := by
  obtain ⟨c0, i0, h0⟩ := u_known (C := RX0) (T := TX0) (N := 8) (n := 8) hts wsX00_tb (hts (.instantiable RX0 8) (by decide +kernel))
  obtain ⟨c1, i1, h1⟩ := u_known (C := RX1) (T := TX1) (N := 7) (n := 7) hts wsX10_tb (hts (.instantiable RX1 7) (by decide +kernel))
  obtain ⟨c2, i2, h2⟩ := u_known (C := RX2) (T := TX2) (N := 2) (n := 2) hts wsX20_tb (hts (.instantiable RX2 2) (by decide +kernel))
  obtain ⟨c3, i3, h3⟩ := u_known (C := RX3) (T := TX3) (N := 3) (n := 3) hts wsX30_tb (hts (.instantiable RX3 3) (by decide +kernel))
  obtain ⟨c4, i4, h4⟩ := u_known (C := RX4) (T := TX4) (N := 6) (n := 6) hts wsX40_tb (hts (.instantiable RX4 6) (by decide +kernel))
  obtain ⟨c5, i5, h5⟩ := u_known (C := RX5) (T := TX5) (N := 8) (n := 8) hts wsX50_tb (hts (.instantiable RX5 8) (by decide +kernel))
  obtain ⟨c6, i6, h6⟩ := u_known (C := RX6) (T := TX6) (N := 2) (n := 2) hts wsX60_tb (hts (.instantiable RX6 2) (by decide +kernel))
  obtain ⟨c7, i7, h7⟩ := u_known (C := RX7) (T := TX7) (N := 8) (n := 8) hts wsX70_tb (hts (.instantiable RX7 8) (by decide +kernel))
  obtain ⟨c8, i8, h8⟩ := u_known (C := RX8) (T := TX8) (N := 13) (n := 13) hts wsX80_tb (hts (.instantiable RX8 13) (by decide +kernel))
  obtain ⟨ca, ka, pa, a1, a2, a3⟩ := Cond.arrayClass_spec (hts (.arrayClass .int) (by decide +kernel))
  obtain ⟨cb, kb, pb, b1, b2, b3⟩ := Cond.arrayClass_spec (hts (.arrayClass .char) (by decide +kernel))
  obtain ⟨pq, cq, kq, q1, q0, q2, q3, q4⟩ := Cond.arrayOver_spec (hts (.arrayOver (.object "ShirtButtons$State")) (by decide +kernel))
  refine ⟨((fun k => match k with | 0 => c0 | 1 => c1 | 2 => c2 | 3 => c3 | 4 => c4 | 5 => c5 | 6 => c6 | 7 => c7 | _ => c8, fun k => match k with | 0 => i0 | 1 => i1 | 2 => i2 | 3 => i3 | 4 => i4 | 5 => i5 | 6 => i6 | 7 => i7 | _ => i8), ca, cb, cq), ⟨?_, ?_⟩, va_Nw.of rfl (hts (.methodLinkNest RX4 44 yX7_isPlace RX7) (by decide +kernel)), va_Nw.of rfl (hts (.methodLinkNest RX4 47 yX7_isBin RX7) (by decide +kernel)), va_Nw.of rfl (hts (.methodLinkNest RX5 96 yX7_isBin RX7) (by decide +kernel))⟩
  · intro k q hq
    match k, hq with
    | 0, hq => cases hq; exact h0
    | 1, hq => cases hq; exact h1
    | 2, hq => cases hq; exact h2
    | 3, hq => cases hq; exact h3
    | 4, hq => cases hq; exact h4
    | 5, hq => cases hq; exact h5
    | 6, hq => cases hq; exact h6
    | 7, hq => cases hq; exact h7
    | 8, hq => cases hq; exact h8
    | k + 9, hq => simp [vwCl] at hq
  · intro k q hq
    match k, hq with
    | 0, hq => cases hq; exact ⟨fun n z => ⟨(fun k h => by cases h), ka, a2, pa, a3⟩, a1⟩
    | 1, hq => cases hq; exact ⟨fun n z => ⟨(fun k h => by cases h), kb, b2, pb, b3⟩, b1⟩
    | 2, hq => cases hq; exact ⟨fun n z => ⟨(fun k h => by cases h), kq, q2, pq, q3⟩, kq, pq, q2, q3, q1, q4⟩
    | k + 3, hq => simp at hq
/-- the length of a row, as the Statement has it, with what it says of its size -/
theorem st_len {args : Array Value} {s : State} {t : Term} {v : Value} (h : (Term.length t).eval args s none [] s = some v) : ∃ a cell, t.eval args s none [] s = some (.ref a) ∧ s.arrayAt? a = some cell ∧ cell.slots.size < 2147483648 ∧ v = .int cell.slots.size.toInt32 := by
  simp only [Term.eval, Option.bind_eq_bind] at h
  cases ht : t.eval args s none [] s with
  | none => simp [ht] at h
  | some x =>
    cases x <;> simp [ht] at h
    case ref a =>
      obtain ⟨cell, hcell, h⟩ := Option.bind_eq_some_iff.mp h
      by_cases hn : cell.slots.size < 2147483648
      · rw [if_pos hn] at h
        cases h
        exact ⟨a, cell, rfl, hcell, hn, rfl⟩
      · rw [if_neg hn] at h
        cases h
set_option maxRecDepth 100000 in
theorem st_el_FIRST {s : State} {args : Array Value} (hg : ∀ w ∈ flatC (Jvm.Cond.and given_1 narrow_1), w.before args s = true) : ∀ j : Nat, j < 8 → (Term.elem (.static "ShirtButtons" "FIRST" "[I") (.int (Int32.ofNat j))).eval args s none [] s = some (.int (zi (firstT j))) := by
  intro j hj
  match j, hj with
  | 0, _ => rw [show zi (firstT 0) = 10 by decide +kernel]; exact va_eqt (hg (.eq (.elem (.static "ShirtButtons" "FIRST" "[I") (.int 0)) (.int 10)) (by decide +kernel))
  | 1, _ => rw [show zi (firstT 1) = 15 by decide +kernel]; exact va_eqt (hg (.eq (.elem (.static "ShirtButtons" "FIRST" "[I") (.int 1)) (.int 15)) (by decide +kernel))
  | 2, _ => rw [show zi (firstT 2) = 22 by decide +kernel]; exact va_eqt (hg (.eq (.elem (.static "ShirtButtons" "FIRST" "[I") (.int 2)) (.int 22)) (by decide +kernel))
  | 3, _ => rw [show zi (firstT 3) = 4 by decide +kernel]; exact va_eqt (hg (.eq (.elem (.static "ShirtButtons" "FIRST" "[I") (.int 3)) (.int 4)) (by decide +kernel))
  | 4, _ => rw [show zi (firstT 4) = 6 by decide +kernel]; exact va_eqt (hg (.eq (.elem (.static "ShirtButtons" "FIRST" "[I") (.int 4)) (.int 6)) (by decide +kernel))
  | 5, _ => rw [show zi (firstT 5) = 3 by decide +kernel]; exact va_eqt (hg (.eq (.elem (.static "ShirtButtons" "FIRST" "[I") (.int 5)) (.int 3)) (by decide +kernel))
  | 6, _ => rw [show zi (firstT 6) = 10 by decide +kernel]; exact va_eqt (hg (.eq (.elem (.static "ShirtButtons" "FIRST" "[I") (.int 6)) (.int 10)) (by decide +kernel))
  | 7, _ => rw [show zi (firstT 7) = 2 by decide +kernel]; exact va_eqt (hg (.eq (.elem (.static "ShirtButtons" "FIRST" "[I") (.int 7)) (.int 2)) (by decide +kernel))
  | j + 8, hj => exact absurd hj (by omega)
theorem st_len_FIRST {s : State} {args : Array Value} (hg : ∀ w ∈ flatC (Jvm.Cond.and given_1 narrow_1), w.before args s = true) : (Term.length (.static "ShirtButtons" "FIRST" "[I")).eval args s none [] s = some (.int (Int32.ofNat 8)) := va_eqt (hg (.eq (.length (.static "ShirtButtons" "FIRST" "[I")) (.int 8)) (by decide +kernel))
set_option maxRecDepth 100000 in
theorem st_el_LOWEST {s : State} {args : Array Value} (hg : ∀ w ∈ flatC (Jvm.Cond.and given_1 narrow_1), w.before args s = true) : ∀ j : Nat, j < 8 → (Term.elem (.static "ShirtButtons" "LOWEST" "[I") (.int (Int32.ofNat j))).eval args s none [] s = some (.int (zi (lowT j))) := by
  intro j hj
  match j, hj with
  | 0, _ => rw [show zi (lowT 0) = 1 by decide +kernel]; exact va_eqt (hg (.eq (.elem (.static "ShirtButtons" "LOWEST" "[I") (.int 0)) (.int 1)) (by decide +kernel))
  | 1, _ => rw [show zi (lowT 1) = 1 by decide +kernel]; exact va_eqt (hg (.eq (.elem (.static "ShirtButtons" "LOWEST" "[I") (.int 1)) (.int 1)) (by decide +kernel))
  | 2, _ => rw [show zi (lowT 2) = 1 by decide +kernel]; exact va_eqt (hg (.eq (.elem (.static "ShirtButtons" "LOWEST" "[I") (.int 2)) (.int 1)) (by decide +kernel))
  | 3, _ => rw [show zi (lowT 3) = 0 by decide +kernel]; exact va_eqt (hg (.eq (.elem (.static "ShirtButtons" "LOWEST" "[I") (.int 3)) (.int 0)) (by decide +kernel))
  | 4, _ => rw [show zi (lowT 4) = 1 by decide +kernel]; exact va_eqt (hg (.eq (.elem (.static "ShirtButtons" "LOWEST" "[I") (.int 4)) (.int 1)) (by decide +kernel))
  | 5, _ => rw [show zi (lowT 5) = 1 by decide +kernel]; exact va_eqt (hg (.eq (.elem (.static "ShirtButtons" "LOWEST" "[I") (.int 5)) (.int 1)) (by decide +kernel))
  | 6, _ => rw [show zi (lowT 6) = 0 by decide +kernel]; exact va_eqt (hg (.eq (.elem (.static "ShirtButtons" "LOWEST" "[I") (.int 6)) (.int 0)) (by decide +kernel))
  | 7, _ => rw [show zi (lowT 7) = 0 by decide +kernel]; exact va_eqt (hg (.eq (.elem (.static "ShirtButtons" "LOWEST" "[I") (.int 7)) (.int 0)) (by decide +kernel))
  | j + 8, hj => exact absurd hj (by omega)
theorem st_len_LOWEST {s : State} {args : Array Value} (hg : ∀ w ∈ flatC (Jvm.Cond.and given_1 narrow_1), w.before args s = true) : (Term.length (.static "ShirtButtons" "LOWEST" "[I")).eval args s none [] s = some (.int (Int32.ofNat 8)) := va_eqt (hg (.eq (.length (.static "ShirtButtons" "LOWEST" "[I")) (.int 8)) (by decide +kernel))
set_option maxRecDepth 100000 in
theorem st_el_HIGHEST {s : State} {args : Array Value} (hg : ∀ w ∈ flatC (Jvm.Cond.and given_1 narrow_1), w.before args s = true) : ∀ j : Nat, j < 8 → (Term.elem (.static "ShirtButtons" "HIGHEST" "[I") (.int (Int32.ofNat j))).eval args s none [] s = some (.int (zi (highT j))) := by
  intro j hj
  match j, hj with
  | 0, _ => rw [show zi (highT 0) = 30 by decide +kernel]; exact va_eqt (hg (.eq (.elem (.static "ShirtButtons" "HIGHEST" "[I") (.int 0)) (.int 30)) (by decide +kernel))
  | 1, _ => rw [show zi (highT 1) = 30 by decide +kernel]; exact va_eqt (hg (.eq (.elem (.static "ShirtButtons" "HIGHEST" "[I") (.int 1)) (.int 30)) (by decide +kernel))
  | 2, _ => rw [show zi (highT 2) = 30 by decide +kernel]; exact va_eqt (hg (.eq (.elem (.static "ShirtButtons" "HIGHEST" "[I") (.int 2)) (.int 30)) (by decide +kernel))
  | 3, _ => rw [show zi (highT 3) = 9 by decide +kernel]; exact va_eqt (hg (.eq (.elem (.static "ShirtButtons" "HIGHEST" "[I") (.int 3)) (.int 9)) (by decide +kernel))
  | 4, _ => rw [show zi (highT 4) = 10 by decide +kernel]; exact va_eqt (hg (.eq (.elem (.static "ShirtButtons" "HIGHEST" "[I") (.int 4)) (.int 10)) (by decide +kernel))
  | 5, _ => rw [show zi (highT 5) = 9 by decide +kernel]; exact va_eqt (hg (.eq (.elem (.static "ShirtButtons" "HIGHEST" "[I") (.int 5)) (.int 9)) (by decide +kernel))
  | 6, _ => rw [show zi (highT 6) = 20 by decide +kernel]; exact va_eqt (hg (.eq (.elem (.static "ShirtButtons" "HIGHEST" "[I") (.int 6)) (.int 20)) (by decide +kernel))
  | 7, _ => rw [show zi (highT 7) = 9 by decide +kernel]; exact va_eqt (hg (.eq (.elem (.static "ShirtButtons" "HIGHEST" "[I") (.int 7)) (.int 9)) (by decide +kernel))
  | j + 8, hj => exact absurd hj (by omega)
theorem st_len_HIGHEST {s : State} {args : Array Value} (hg : ∀ w ∈ flatC (Jvm.Cond.and given_1 narrow_1), w.before args s = true) : (Term.length (.static "ShirtButtons" "HIGHEST" "[I")).eval args s none [] s = some (.int (Int32.ofNat 8)) := va_eqt (hg (.eq (.length (.static "ShirtButtons" "HIGHEST" "[I")) (.int 8)) (by decide +kernel))
theorem st_T_LOWEST {s : State} {args : Array Value} {A : Nat → Prop} (hA : ∀ a : Nat, a < s.heap.size → ¬ A a) (hts : ∀ w ∈ lw_tbl, w.before args s = true) (hg : ∀ w ∈ flatC (Jvm.Cond.and given_1 narrow_1), w.before args s = true) : ∃ t, va_Z "ShirtButtons" "LOWEST" "[I" (.ref t) A s s.heap ∧ va_T .int t 8 (fun j => .int (zi (lowT j))) A s s.heap := by
  obtain ⟨t, h1, h2⟩ := va_Tof (tm := .static "ShirtButtons" "LOWEST" "[I") (ty := .int) (N := 8) (f := fun j => .int (zi (lowT j))) (A := A) (by decide) (hg (.arrayOf (.static "ShirtButtons" "LOWEST" "[I") .int) (by decide +kernel)) (st_len_LOWEST hg) (st_el_LOWEST hg) hA
  exact ⟨t, va_Zref (hts (.laysStatic "ShirtButtons" "LOWEST" "[I") (by decide +kernel)) (hts (.initialized "ShirtButtons") (by decide +kernel)) h1 hA, h2⟩
theorem st_T_HIGHEST {s : State} {args : Array Value} {A : Nat → Prop} (hA : ∀ a : Nat, a < s.heap.size → ¬ A a) (hts : ∀ w ∈ lw_tbl, w.before args s = true) (hg : ∀ w ∈ flatC (Jvm.Cond.and given_1 narrow_1), w.before args s = true) : ∃ t, va_Z "ShirtButtons" "HIGHEST" "[I" (.ref t) A s s.heap ∧ va_T .int t 8 (fun j => .int (zi (highT j))) A s s.heap := by
  obtain ⟨t, h1, h2⟩ := va_Tof (tm := .static "ShirtButtons" "HIGHEST" "[I") (ty := .int) (N := 8) (f := fun j => .int (zi (highT j))) (A := A) (by decide) (hg (.arrayOf (.static "ShirtButtons" "HIGHEST" "[I") .int) (by decide +kernel)) (st_len_HIGHEST hg) (st_el_HIGHEST hg) hA
  exact ⟨t, va_Zref (hts (.laysStatic "ShirtButtons" "HIGHEST" "[I") (by decide +kernel)) (hts (.initialized "ShirtButtons") (by decide +kernel)) h1 hA, h2⟩
theorem st_mSt {s : State} {args : Array Value} {A : Nat → Prop} (hA : ∀ a : Nat, a < s.heap.size → ¬ A a) (hts : ∀ w ∈ lw_tbl, w.before args s = true) (hg : ∀ w ∈ flatC (Jvm.Cond.and given_1 narrow_1), w.before args s = true) : mSt s A s.heap := ⟨st_T_LOWEST hA hts hg, st_T_HIGHEST hA hts hg⟩
set_option maxRecDepth 100000 in
theorem st_TX {s : State} {args : Array Value} {A : Nat → Prop} (hA : ∀ a : Nat, a < s.heap.size → ¬ A a) (hts : ∀ w ∈ lw_tbl, w.before args s = true) (hg : ∀ w ∈ flatC (Jvm.Cond.and given_1 narrow_1), w.before args s = true) : ∃ t, va_Z "ShirtButtons" "FIRST" "[I" (.ref t) A s s.heap ∧ va_TX t firstT A s s.heap := by
  obtain ⟨t, cell, h1, h2, h3, h4⟩ := st_len (st_len_FIRST hg)
  obtain ⟨g1, g2, g3, -⟩ := State.arrayAt?_spec h2
  obtain ⟨a, c, cell2, k, e1, e2, e3, e4, e5, e6, -⟩ := Cond.exactly_spec (hg (.exactly (.static "ShirtButtons" "FIRST" "[I") "[I") (by decide +kernel))
  cases h1.symm.trans e1
  cases g1.symm.trans e3
  have hsz : cell.slots.size = 8 := by
    have q1 : (Int32.ofNat 8).toInt = (Int32.ofNat cell.slots.size).toInt := congrArg Int32.toInt (Value.int.inj h4)
    have q2 : (Int32.ofNat cell.slots.size).toInt = (cell.slots.size : Int) := Int32.toInt_ofNat_of_lt (by omega)
    have q3 : (Int32.ofNat 8).toInt = 8 := by decide +kernel
    omega
  refine ⟨t, va_Zref (hts (.laysStatic "ShirtButtons" "FIRST" "[I") (by decide +kernel)) (hts (.initialized "ShirtButtons") (by decide +kernel)) h1 hA, cell, g1, g2, g3, hsz, fun j hj => ?_, by rw [e6]; exact e2, hA t (Array.getElem?_eq_some_iff.mp g1).1⟩
  obtain ⟨a, i, cell3, w1, w2, w3, w4, w5⟩ := Term.elem_spec (st_el_FIRST hg j hj)
  cases h1.symm.trans w1
  cases h2.symm.trans w3
  have hi : i = Int32.ofNat j := by
    have e : (Term.int (Int32.ofNat j)).eval args s none [] s = some (.int (Int32.ofNat j)) := rfl
    cases w2.symm.trans e
    rfl
  have hc : i.toNatClampNeg = j := by rw [hi]; exact Int32.toNatClampNeg_ofNat_of_lt (by omega)
  rw [hc] at w5
  exact w5
set_option maxRecDepth 100000 in
theorem st_mN {s : State} {args : Array Value} (hts : ∀ w ∈ lw_tbl, w.before args s = true) : mN s := ⟨va_Nw.of rfl (hts (.methodLinkNest RX7 9 yX6_init RX7) (by decide +kernel)), va_Nw.of rfl (hts (.methodLinkNest RX7 27 yX3_init RX7) (by decide +kernel)), va_Nw.of rfl (hts (.methodLinkNest RX2 21 yX5_init RX7) (by decide +kernel)), va_Nw.of rfl (hts (.methodLinkNest RX5 11 yX1_init RX7) (by decide +kernel)), va_Nw.of rfl (hts (.methodLinkNest RX5 20 yX4_init RX7) (by decide +kernel)), va_Nw.of rfl (hts (.methodLinkNest RX7 41 yX5_init RX7) (by decide +kernel)), va_Nw.of rfl (hts (.fieldLinkNest RX5 25 "ShirtButtons" "FIRST" "[I" "ShirtButtons") (by decide +kernel))⟩
set_option maxRecDepth 100000 in
theorem st_mI {s : State} {args : Array Value} {A : Nat → Prop} (hA : ∀ a : Nat, a < s.heap.size → ¬ A a) (hts : ∀ w ∈ lw_tbl, w.before args s = true) (hg : ∀ w ∈ flatC (Jvm.Cond.and given_1 narrow_1), w.before args s = true) : mI s A s.heap := ⟨st_TX hA hts hg, Cond.castable_spec (hts (.castable "[I" "java/lang/Cloneable") (by decide +kernel)), va_AO.of (hts (.arrayOver (.object "ShirtButtons$State")) (by decide +kernel)), st_mN hts⟩
/-! the two when they are new -/
theorem st_CI : CI z0S 0 := by
  refine ⟨⟨rfl, by omega, fun b hb => absurd hb (by omega)⟩, ?_, ⟨fun b hb => absurd hb (by omega), ⟨fun q hq => rfl, fun q hq => rfl⟩, 0, rfl, fun k hk => absurd hk (by omega), fun i j h1 h2 => absurd h2 (by omega)⟩⟩
  show SI firstT
  unfold SI firstT
  decide +kernel
theorem st_RS : RS z0S row0 := by
  refine ⟨0, st_CI, ?_, fun b k hb => absurd hb (by omega)⟩
  refine ⟨fun k hk => ?_, ?_, ?_⟩
  · have h : k = 0 ∨ k = 1 ∨ k = 2 ∨ k = 3 ∨ k = 4 ∨ k = 5 ∨ k = 6 ∨ k = 7 := by omega
    rcases h with rfl | rfl | rfl | rfl | rfl | rfl | rfl | rfl <;> rfl
  · exact ⟨rfl, rfl, rfl, rfl, rfl⟩
  · exact ⟨rfl, rfl, fun k hk => absurd (show (k : Int) < 0 from hk) (by omega)⟩
theorem st_RX : RX z0X z0M := ⟨⟨0, by omega, rfl, rfl, fun k hk => absurd hk (by omega)⟩, ⟨0, by omega, rfl, rfl, fun j hj => absurd hj (by omega)⟩, st_RS, Or.inl ⟨rfl, rfl⟩⟩
