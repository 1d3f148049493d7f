/-! Words of my own: ints of the machine as whole numbers, guards of pure functions, one row an instruction over whole numbers. -/
def zi (x : Int) : Int32 := Int32.ofInt x
def rg (x : Int) : Bool := decide (-2147483648 ≤ x) && decide (x < 2147483648)
def inb (i : Int) (n : Nat) : Bool := decide (0 ≤ i) && decide (i < (n : Int))
def up (f : Nat → Int) (k : Nat) (v : Int) : Nat → Int := fun j => if j = k then v else f j
def gd {α : Type} (b : Bool) (k : Option α) : Option α := bif b then k else none
def bd {α β : Type} (o : Option α) (k : α → Option β) : Option β := match o with
  | some a => k a
  | none => none
def nm {α β : Type} (a : α) (k : α → Option β) : Option β := k a
theorem gd_t {α : Type} {b : Bool} {k : Option α} {r : α} (h : gd b k = some r) : b = true ∧ k = some r := by
  cases b
  · simp [gd] at h
  · exact ⟨rfl, h⟩
theorem bd_t {α β : Type} {o : Option α} {k : α → Option β} {r : β} (h : bd o k = some r) : ∃ a, o = some a ∧ k a = some r := by
  cases o with
  | none => simp [bd] at h
  | some a => exact ⟨a, rfl, h⟩
theorem nm_t {α β : Type} {a : α} {k : α → Option β} {r : β} (h : nm a k = some r) : ∃ y, y = a ∧ k y = some r := ⟨a, rfl, h⟩
theorem it_t {α : Type} {c : Prop} {d : Decidable c} {a b r : α} (hc : c) (h : @ite α c d a b = r) : a = r := by rw [if_pos hc] at h; exact h
theorem it_f {α : Type} {c : Prop} {d : Decidable c} {a b r : α} (hc : ¬ c) (h : @ite α c d a b = r) : b = r := by rw [if_neg hc] at h; exact h
theorem rg_i {x : Int} (h : rg x = true) : -2147483648 ≤ x ∧ x < 2147483648 := by
  simp only [rg, Bool.and_eq_true, decide_eq_true_eq] at h
  exact h
theorem rg_of {x : Int} (h : -2147483648 ≤ x ∧ x < 2147483648) : rg x = true := by
  simp only [rg, Bool.and_eq_true, decide_eq_true_eq]
  exact h
theorem inb_i {i : Int} {n : Nat} (h : inb i n = true) : 0 ≤ i ∧ i < (n : Int) := by
  simp only [inb, Bool.and_eq_true, decide_eq_true_eq] at h
  exact h
theorem inb_of {i : Int} {n : Nat} (h : 0 ≤ i ∧ i < (n : Int)) : inb i n = true := by
  simp only [inb, Bool.and_eq_true, decide_eq_true_eq]
  exact h
theorem zi_toInt {x : Int} (h : rg x = true) : (zi x).toInt = x := by
  have := rg_i h
  exact Int32.toInt_ofInt_of_le (by omega) (by omega)
theorem zi_add (x y : Int) : zi (x + y) = zi x + zi y := Int32.ofInt_add x y
theorem zi_sub (x y : Int) : zi (x - y) = zi x - zi y := Int32.ofInt_sub x y
theorem zi_mul (x y : Int) : zi (x * y) = zi x * zi y := Int32.ofInt_mul x y
theorem zi_lt {x y : Int} (gx : rg x = true) (gy : rg y = true) : zi x < zi y ↔ x < y := by
  rw [Int32.lt_iff_toInt_lt, zi_toInt gx, zi_toInt gy]
theorem zi_le {x y : Int} (gx : rg x = true) (gy : rg y = true) : zi x ≤ zi y ↔ x ≤ y := by
  rw [Int32.le_iff_toInt_le, zi_toInt gx, zi_toInt gy]
theorem zi_eq {x y : Int} (gx : rg x = true) (gy : rg y = true) : zi x = zi y ↔ x = y := by
  rw [← Int32.toInt_inj, zi_toInt gx, zi_toInt gy]
theorem zi_0 : zi 0 = 0 := by decide +kernel
theorem rg_0 : rg 0 = true := by decide +kernel
theorem inb_rg {i : Int} {n : Nat} (h : inb i n = true) (hn : n < 2147483648) : rg i = true := by
  have := inb_i h
  exact rg_of (by omega)
theorem inb_vp {i : Int} {n : Nat} (h : inb i n = true) (hn : n < 2147483648) : vp_in (zi i) n := by
  have h1 := inb_i h
  exact vp_in_iff.mpr (by rw [zi_toInt (inb_rg h hn)]; exact h1)
theorem inb_cl {i : Int} {n : Nat} (h : inb i n = true) (hn : n < 2147483648) : (zi i).toNatClampNeg = i.toNat := by
  show (zi i).toInt.toNat = i.toNat
  rw [zi_toInt (inb_rg h hn)]
theorem up_zi (f : Nat → Int) (k : Nat) (v : Int) : upd (fun j => zi (f j)) k (zi v) = fun j => zi (up f k v j) := by
  funext j
  by_cases h : j = k
  · simp [upd, up, h]
  · simp [upd, up, h]
theorem cpy_zi (f g : Nat → Int) (sp dp n : Nat) : va_cpy (fun j => zi (f j)) (fun j => zi (g j)) sp dp n = fun k => zi (va_cpy f g sp dp n k) := by
  funext k
  by_cases h : dp ≤ k ∧ k < dp + n
  · simp [va_cpy, h]
  · simp only [va_cpy, if_neg h]
theorem zi_01 {r : Int} (h : inb r 2 = true) : narrow .boolean (.int (zi r)) = .int (zi r) := by
  have h1 := inb_i h
  have h2 : r = 0 ∨ r = 1 := by omega
  rcases h2 with rfl | rfl
  · rfl
  · rfl
section IV
variable {p : Program} {l : Launch} {e : Env} {R : Room} {s : State} {m : MethodId} {args : Array Value} {below : List Frame} {meth : Method} {c : Code} {H : Heap} {locs : List Loc} {cells slots : Nat} {Q : State → Prop}
variable {cc : ByteArray} {pc : Nat} {ls : Array Slot} {rest : List Value}
theorem iv_iconst (hx : p.tables.exec = Jvm.exec) (hb : c.code = cc) {n : Int} (hdg : decode cc pc = .ok (.iconst n, 1)) (k : W p l e R s m args below meth c H locs cells slots Q (F0 m (pc + 1) ls (.int (zi n) :: rest))) : W p l e R s m args below meth c H locs cells slots Q (F0 m pc ls rest) := lv_iconst hx hb hdg rfl k
theorem iv_bipush (hx : p.tables.exec = Jvm.exec) (hb : c.code = cc) {n : Int} (hdg : decode cc pc = .ok (.bipush n, 2)) (hv : (Int8.ofInt n).toInt32 = zi n) (k : W p l e R s m args below meth c H locs cells slots Q (F0 m (pc + 2) ls (.int (zi n) :: rest))) : W p l e R s m args below meth c H locs cells slots Q (F0 m pc ls rest) := lv_bipush hx hb hdg hv k
theorem iv_sipush (hx : p.tables.exec = Jvm.exec) (hb : c.code = cc) {n : Int} (hdg : decode cc pc = .ok (.sipush n, 3)) (hv : (Int16.ofInt n).toInt32 = zi n) (k : W p l e R s m args below meth c H locs cells slots Q (F0 m (pc + 3) ls (.int (zi n) :: rest))) : W p l e R s m args below meth c H locs cells slots Q (F0 m pc ls rest) := lv_sipush hx hb hdg hv k
theorem iv_iadd (hx : p.tables.exec = Jvm.exec) (hb : c.code = cc) {x y : Int} (hdg : decode cc pc = .ok (.iadd, 1)) (k : W p l e R s m args below meth c H locs cells slots Q (F0 m (pc + 1) ls (.int (zi (x + y)) :: rest))) : W p l e R s m args below meth c H locs cells slots Q (F0 m pc ls (.int (zi y) :: .int (zi x) :: rest)) := lv_iadd hx hb hdg (by rw [zi_add] at k; exact k)
theorem iv_isub (hx : p.tables.exec = Jvm.exec) (hb : c.code = cc) {x y : Int} (hdg : decode cc pc = .ok (.isub, 1)) (k : W p l e R s m args below meth c H locs cells slots Q (F0 m (pc + 1) ls (.int (zi (x - y)) :: rest))) : W p l e R s m args below meth c H locs cells slots Q (F0 m pc ls (.int (zi y) :: .int (zi x) :: rest)) := lv_isub hx hb hdg (by rw [zi_sub] at k; exact k)
theorem iv_imul (hx : p.tables.exec = Jvm.exec) (hb : c.code = cc) {x y : Int} (hdg : decode cc pc = .ok (.imul, 1)) (k : W p l e R s m args below meth c H locs cells slots Q (F0 m (pc + 1) ls (.int (zi (x * y)) :: rest))) : W p l e R s m args below meth c H locs cells slots Q (F0 m pc ls (.int (zi y) :: .int (zi x) :: rest)) := lv_imul hx hb hdg (by rw [zi_mul] at k; exact k)
theorem iv_nm {x y : Int} (h : y = x) (k : W p l e R s m args below meth c H locs cells slots Q (F0 m pc ls (.int (zi y) :: rest))) : W p l e R s m args below meth c H locs cells slots Q (F0 m pc ls (.int (zi x) :: rest)) := by rw [← h]; exact k
theorem iv_eq (hx : p.tables.exec = Jvm.exec) (hb : c.code = cc) {x : Int} {off : Int} {tgt : Nat} (gx : rg x = true) (hdg : decode cc pc = .ok (.ifCond .eq off, 3)) (ht : (pc : Int) + off = (tgt : Int)) (kt : x = 0 → W p l e R s m args below meth c H locs cells slots Q (F0 m tgt ls rest)) (kf : ¬ x = 0 → W p l e R s m args below meth c H locs cells slots Q (F0 m (pc + 3) ls rest)) : W p l e R s m args below meth c H locs cells slots Q (F0 m pc ls (.int (zi x) :: rest)) :=
  lv_if_eq hx hb hdg ht (fun h => kt ((zi_eq gx rg_0).mp (by rw [zi_0]; exact h))) (fun h => kf (fun z => h (by rw [← zi_0]; exact (zi_eq gx rg_0).mpr z)))
theorem iv_ne (hx : p.tables.exec = Jvm.exec) (hb : c.code = cc) {x : Int} {off : Int} {tgt : Nat} (gx : rg x = true) (hdg : decode cc pc = .ok (.ifCond .ne off, 3)) (ht : (pc : Int) + off = (tgt : Int)) (kt : ¬ x = 0 → W p l e R s m args below meth c H locs cells slots Q (F0 m tgt ls rest)) (kf : x = 0 → W p l e R s m args below meth c H locs cells slots Q (F0 m (pc + 3) ls rest)) : W p l e R s m args below meth c H locs cells slots Q (F0 m pc ls (.int (zi x) :: rest)) :=
  lv_if_ne hx hb hdg ht (fun h => kt (fun z => h (by rw [← zi_0]; exact (zi_eq gx rg_0).mpr z))) (fun h => kf ((zi_eq gx rg_0).mp (by rw [zi_0]; exact h)))
theorem iv_lt (hx : p.tables.exec = Jvm.exec) (hb : c.code = cc) {x : Int} {off : Int} {tgt : Nat} (gx : rg x = true) (hdg : decode cc pc = .ok (.ifCond .lt off, 3)) (ht : (pc : Int) + off = (tgt : Int)) (kt : x < 0 → W p l e R s m args below meth c H locs cells slots Q (F0 m tgt ls rest)) (kf : ¬ x < 0 → W p l e R s m args below meth c H locs cells slots Q (F0 m (pc + 3) ls rest)) : W p l e R s m args below meth c H locs cells slots Q (F0 m pc ls (.int (zi x) :: rest)) :=
  lv_if_lt hx hb hdg ht (fun h => kt ((zi_lt gx rg_0).mp (by rw [zi_0]; exact h))) (fun h => kf (fun z => h (by rw [← zi_0]; exact (zi_lt gx rg_0).mpr z)))
theorem iv_ge (hx : p.tables.exec = Jvm.exec) (hb : c.code = cc) {x : Int} {off : Int} {tgt : Nat} (gx : rg x = true) (hdg : decode cc pc = .ok (.ifCond .ge off, 3)) (ht : (pc : Int) + off = (tgt : Int)) (kt : 0 ≤ x → W p l e R s m args below meth c H locs cells slots Q (F0 m tgt ls rest)) (kf : ¬ 0 ≤ x → W p l e R s m args below meth c H locs cells slots Q (F0 m (pc + 3) ls rest)) : W p l e R s m args below meth c H locs cells slots Q (F0 m pc ls (.int (zi x) :: rest)) :=
  lv_if_ge hx hb hdg ht (fun h => kt ((zi_le rg_0 gx).mp (by rw [zi_0]; exact h))) (fun h => kf (fun z => h (by rw [← zi_0]; exact (zi_le rg_0 gx).mpr z)))
theorem iv_gt (hx : p.tables.exec = Jvm.exec) (hb : c.code = cc) {x : Int} {off : Int} {tgt : Nat} (gx : rg x = true) (hdg : decode cc pc = .ok (.ifCond .gt off, 3)) (ht : (pc : Int) + off = (tgt : Int)) (kt : 0 < x → W p l e R s m args below meth c H locs cells slots Q (F0 m tgt ls rest)) (kf : ¬ 0 < x → W p l e R s m args below meth c H locs cells slots Q (F0 m (pc + 3) ls rest)) : W p l e R s m args below meth c H locs cells slots Q (F0 m pc ls (.int (zi x) :: rest)) :=
  lv_if_gt hx hb hdg ht (fun h => kt ((zi_lt rg_0 gx).mp (by rw [zi_0]; exact h))) (fun h => kf (fun z => h (by rw [← zi_0]; exact (zi_lt rg_0 gx).mpr z)))
theorem iv_le (hx : p.tables.exec = Jvm.exec) (hb : c.code = cc) {x : Int} {off : Int} {tgt : Nat} (gx : rg x = true) (hdg : decode cc pc = .ok (.ifCond .le off, 3)) (ht : (pc : Int) + off = (tgt : Int)) (kt : x ≤ 0 → W p l e R s m args below meth c H locs cells slots Q (F0 m tgt ls rest)) (kf : ¬ x ≤ 0 → W p l e R s m args below meth c H locs cells slots Q (F0 m (pc + 3) ls rest)) : W p l e R s m args below meth c H locs cells slots Q (F0 m pc ls (.int (zi x) :: rest)) :=
  lv_if_le hx hb hdg ht (fun h => kt ((zi_le gx rg_0).mp (by rw [zi_0]; exact h))) (fun h => kf (fun z => h (by rw [← zi_0]; exact (zi_le gx rg_0).mpr z)))
theorem iv_ieq (hx : p.tables.exec = Jvm.exec) (hb : c.code = cc) {x y : Int} {off : Int} {tgt : Nat} (gx : rg x = true) (gy : rg y = true) (hdg : decode cc pc = .ok (.if_icmp .eq off, 3)) (ht : (pc : Int) + off = (tgt : Int)) (kt : x = y → W p l e R s m args below meth c H locs cells slots Q (F0 m tgt ls rest)) (kf : ¬ x = y → W p l e R s m args below meth c H locs cells slots Q (F0 m (pc + 3) ls rest)) : W p l e R s m args below meth c H locs cells slots Q (F0 m pc ls (.int (zi y) :: .int (zi x) :: rest)) :=
  lv_icmp_eq hx hb hdg ht (fun h => kt ((zi_eq gx gy).mp h)) (fun h => kf (fun z => h ((zi_eq gx gy).mpr z)))
theorem iv_ine (hx : p.tables.exec = Jvm.exec) (hb : c.code = cc) {x y : Int} {off : Int} {tgt : Nat} (gx : rg x = true) (gy : rg y = true) (hdg : decode cc pc = .ok (.if_icmp .ne off, 3)) (ht : (pc : Int) + off = (tgt : Int)) (kt : ¬ x = y → W p l e R s m args below meth c H locs cells slots Q (F0 m tgt ls rest)) (kf : x = y → W p l e R s m args below meth c H locs cells slots Q (F0 m (pc + 3) ls rest)) : W p l e R s m args below meth c H locs cells slots Q (F0 m pc ls (.int (zi y) :: .int (zi x) :: rest)) :=
  lv_icmp_ne hx hb hdg ht (fun h => kt (fun z => h ((zi_eq gx gy).mpr z))) (fun h => kf ((zi_eq gx gy).mp h))
theorem iv_ilt (hx : p.tables.exec = Jvm.exec) (hb : c.code = cc) {x y : Int} {off : Int} {tgt : Nat} (gx : rg x = true) (gy : rg y = true) (hdg : decode cc pc = .ok (.if_icmp .lt off, 3)) (ht : (pc : Int) + off = (tgt : Int)) (kt : x < y → W p l e R s m args below meth c H locs cells slots Q (F0 m tgt ls rest)) (kf : ¬ x < y → W p l e R s m args below meth c H locs cells slots Q (F0 m (pc + 3) ls rest)) : W p l e R s m args below meth c H locs cells slots Q (F0 m pc ls (.int (zi y) :: .int (zi x) :: rest)) :=
  lv_icmp_lt hx hb hdg ht (fun h => kt ((zi_lt gx gy).mp h)) (fun h => kf (fun z => h ((zi_lt gx gy).mpr z)))
theorem iv_ige (hx : p.tables.exec = Jvm.exec) (hb : c.code = cc) {x y : Int} {off : Int} {tgt : Nat} (gx : rg x = true) (gy : rg y = true) (hdg : decode cc pc = .ok (.if_icmp .ge off, 3)) (ht : (pc : Int) + off = (tgt : Int)) (kt : y ≤ x → W p l e R s m args below meth c H locs cells slots Q (F0 m tgt ls rest)) (kf : ¬ y ≤ x → W p l e R s m args below meth c H locs cells slots Q (F0 m (pc + 3) ls rest)) : W p l e R s m args below meth c H locs cells slots Q (F0 m pc ls (.int (zi y) :: .int (zi x) :: rest)) :=
  lv_icmp_ge hx hb hdg ht (fun h => kt ((zi_le gy gx).mp h)) (fun h => kf (fun z => h ((zi_le gy gx).mpr z)))
theorem iv_igt (hx : p.tables.exec = Jvm.exec) (hb : c.code = cc) {x y : Int} {off : Int} {tgt : Nat} (gx : rg x = true) (gy : rg y = true) (hdg : decode cc pc = .ok (.if_icmp .gt off, 3)) (ht : (pc : Int) + off = (tgt : Int)) (kt : y < x → W p l e R s m args below meth c H locs cells slots Q (F0 m tgt ls rest)) (kf : ¬ y < x → W p l e R s m args below meth c H locs cells slots Q (F0 m (pc + 3) ls rest)) : W p l e R s m args below meth c H locs cells slots Q (F0 m pc ls (.int (zi y) :: .int (zi x) :: rest)) :=
  lv_icmp_gt hx hb hdg ht (fun h => kt ((zi_lt gy gx).mp h)) (fun h => kf (fun z => h ((zi_lt gy gx).mpr z)))
theorem iv_ile (hx : p.tables.exec = Jvm.exec) (hb : c.code = cc) {x y : Int} {off : Int} {tgt : Nat} (gx : rg x = true) (gy : rg y = true) (hdg : decode cc pc = .ok (.if_icmp .le off, 3)) (ht : (pc : Int) + off = (tgt : Int)) (kt : x ≤ y → W p l e R s m args below meth c H locs cells slots Q (F0 m tgt ls rest)) (kf : ¬ x ≤ y → W p l e R s m args below meth c H locs cells slots Q (F0 m (pc + 3) ls rest)) : W p l e R s m args below meth c H locs cells slots Q (F0 m pc ls (.int (zi y) :: .int (zi x) :: rest)) :=
  lv_icmp_le hx hb hdg ht (fun h => kt ((zi_le gx gy).mp h)) (fun h => kf (fun z => h ((zi_le gx gy).mpr z)))
theorem iv_max (hx : p.tables.exec = Jvm.exec) (hb : c.code = cc) (hml : c.maxLocals = ls.size) {own : String} {index : Nat} (hown : s.vm.findClass own = some m.cls) (hlink : (Cond.methodLink own index Lib.Math.max.name).before args s = true) (hstat : (Cond.static Lib.Math.max.name).before args s = true) (hini : (Cond.initialized "java/lang/Math").before args s = true) (hcode : (Cond.code Lib.Math.max.name Lib.Math.max.code 2 (some .int)).before args s = true)
    (hframes : 1 ≤ R.frames) (hlocals : (rest.map fun v => v.category).sum + 13 ≤ R.locals) (hc : cells ≤ R.cells) (hs : slots ≤ R.slots) {x y : Int} (gx : rg x = true) (gy : rg y = true) (hdg : decode cc pc = .ok (.invokestatic index, 3))
    (kk : W p l e R s m args below meth c H locs cells slots Q (F0 m (pc + 3) ls (.int (zi (if x < y then y else x)) :: rest))) : W p l e R s m args below meth c H locs cells slots Q (F0 m pc ls (.int (zi y) :: .int (zi x) :: rest)) := by
  refine va_mmax hx hb hml hown hlink hstat hini hcode hframes hlocals hc hs hdg ?_
  by_cases h : x < y
  · rw [if_pos h] at kk
    rw [if_pos ((zi_lt gx gy).mpr h)]
    exact kk
  · rw [if_neg h] at kk
    rw [if_neg (fun z => h ((zi_lt gx gy).mp z))]
    exact kk
theorem iv_min (hx : p.tables.exec = Jvm.exec) (hb : c.code = cc) (hml : c.maxLocals = ls.size) {own : String} {index : Nat} (hown : s.vm.findClass own = some m.cls) (hlink : (Cond.methodLink own index Lib.Math.min.name).before args s = true) (hstat : (Cond.static Lib.Math.min.name).before args s = true) (hini : (Cond.initialized "java/lang/Math").before args s = true) (hcode : (Cond.code Lib.Math.min.name Lib.Math.min.code 2 (some .int)).before args s = true)
    (hframes : 1 ≤ R.frames) (hlocals : (rest.map fun v => v.category).sum + 13 ≤ R.locals) (hc : cells ≤ R.cells) (hs : slots ≤ R.slots) {x y : Int} (gx : rg x = true) (gy : rg y = true) (hdg : decode cc pc = .ok (.invokestatic index, 3))
    (kk : W p l e R s m args below meth c H locs cells slots Q (F0 m (pc + 3) ls (.int (zi (if y < x then y else x)) :: rest))) : W p l e R s m args below meth c H locs cells slots Q (F0 m pc ls (.int (zi y) :: .int (zi x) :: rest)) := by
  refine va_mmin hx hb hml hown hlink hstat hini hcode hframes hlocals hc hs hdg ?_
  by_cases h : y < x
  · rw [if_pos h] at kk
    rw [if_pos ((zi_lt gy gx).mpr h)]
    exact kk
  · rw [if_neg h] at kk
    rw [if_neg (fun z => h ((zi_lt gy gx).mp z))]
    exact kk
end IV
section IA
variable {p : Program} {l : Launch} {e : Env} {R : Room} {s : State} {m : MethodId} {args : Array Value} {below : List Frame} {meth : Method} {c : Code} {H : Heap} {locs : List Loc} {cells slots : Nat} {Q : State → Prop}
variable {cc : ByteArray} {pc : Nat} {ls : Array Slot} {rest : List Value} {D : va_G} {cl : List vw_C} {A : Nat → Prop} {a : Nat} {tys : List (ClassId × FieldType)} {ws ws1 : va_W} {H0 : Heap}
theorem iv_iald (hx : p.tables.exec = Jvm.exec) (hb : c.code = cc) (hK : va_K D cl tys s) (hP : va_P D cl ws H) (q0 t0 : Nat) {cA : ClassId} {n : Nat} {f : Nat → Int} (ha : ws[q0]? = some (a, .inl (cA, n, .inl (fun j => zi (f j))))) (ht : tys[t0]? = some (cA, .int)) {i : Int} {j : Nat} (hn : n < 2147483648) (g : inb i n = true) (hj : i.toNat = j) (hdg : decode cc pc = .ok (.iaload, 1))
    (kk : W p l e R s m args below meth c H locs cells slots Q (F0 m (pc + 1) ls (.int (zi (f j)) :: rest))) : W p l e R s m args below meth c H locs cells slots Q (F0 m pc ls (.int (zi i) :: .ref a :: rest)) := by
  refine va_iald hx hb hK hP q0 t0 ha ht (inb_vp g hn) hdg ?_
  rw [inb_cl g hn, hj]
  exact kk
theorem iv_cald (hx : p.tables.exec = Jvm.exec) (hb : c.code = cc) (hK : va_K D cl tys s) (hP : va_P D cl ws H) (q0 t0 : Nat) {cA : ClassId} {n : Nat} {f : Nat → Int} (ha : ws[q0]? = some (a, .inl (cA, n, .inl (fun j => zi (f j))))) (ht : tys[t0]? = some (cA, .char)) {i : Int} {j : Nat} (hn : n < 2147483648) (g : inb i n = true) (hj : i.toNat = j) (hdg : decode cc pc = .ok (.caload, 1))
    (kk : W p l e R s m args below meth c H locs cells slots Q (F0 m (pc + 1) ls (.int (zi (f j)) :: rest))) : W p l e R s m args below meth c H locs cells slots Q (F0 m pc ls (.int (zi i) :: .ref a :: rest)) := by
  refine va_cald hx hb hK hP q0 t0 ha ht (inb_vp g hn) hdg ?_
  rw [inb_cl g hn, hj]
  exact kk
theorem iv_iast (hx : p.tables.exec = Jvm.exec) (hb : c.code = cc) (hK : va_K D cl tys s) (hP : va_P D cl ws H) (hD : va_D A ws) (hS : va_S A H0 H locs) (q0 t0 : Nat) {cA : ClassId} {n : Nat} {f : Nat → Int} (ha : ws[q0]? = some (a, .inl (cA, n, .inl (fun j => zi (f j))))) (ht : tys[t0]? = some (cA, .int)) {i x : Int} {j : Nat} (hn : n < 2147483648) (g : inb i n = true) (hj : i.toNat = j) (hw : ws.set q0 (a, .inl (cA, n, .inl (fun k => zi (up f j x k)))) = ws1) (hdg : decode cc pc = .ok (.iastore, 1))
    (kk : ∀ (H1 : Heap) (locs1 : List Loc), va_P D cl ws1 H1 → va_D A ws1 → va_S A H0 H1 locs1 → W p l e R s m args below meth c H1 locs1 cells slots Q (F0 m (pc + 1) ls rest)) : W p l e R s m args below meth c H locs cells slots Q (F0 m pc ls (.int (zi x) :: .int (zi i) :: .ref a :: rest)) := by
  refine va_iast hx hb hK hP hD hS q0 t0 ha ht (inb_vp g hn) hdg (fun H1 locs1 h1 h2 h3 => kk H1 locs1 ?_ ?_ h3)
  · rw [inb_cl g hn, hj, up_zi, hw] at h1
    exact h1
  · rw [inb_cl g hn, hj, up_zi, hw] at h2
    exact h2
theorem iv_copy (hx : p.tables.exec = Jvm.exec) (hb : c.code = cc) (hml : c.maxLocals = ls.size) {own : String} {index : Nat} (hown : s.vm.findClass own = some m.cls) (hlink : (Cond.methodLink own index arraycopyName).before args s = true) (hnat : (Cond.native arraycopyName).before args s = true) (hstat : (Cond.static arraycopyName).before args s = true) (hini : (Cond.initialized "java/lang/System").before args s = true)
    (hK : va_K D cl tys s) (hP : va_P D cl ws H) (hD : va_D A ws) (hS : va_S A H0 H locs) (q0 q1 t0 t1 : Nat) {a0 : Nat} {c0 c1 : ClassId} {n0 n1 : Nat} {f g : Nat → Int} (ha0 : ws[q0]? = some (a0, .inl (c0, n0, .inl (fun j => zi (f j))))) (ha1 : ws[q1]? = some (a, .inl (c1, n1, .inl (fun j => zi (g j))))) (ht0 : tys[t0]? = some (c0, .int)) (ht1 : tys[t1]? = some (c1, .int))
    {sp dp n : Int} {sp' dp' K : Nat} (e1 : inb sp 1000 = true) (e2 : inb dp 1000 = true) (hs' : sp.toNat = sp') (hd' : dp.toNat = dp') (gn : inb n K = true) (hK1 : K < 2147483648) (h4 : sp' + K ≤ n0 + 1) (h5 : dp' + K ≤ n1 + 1)
    (hframes : 1 ≤ R.frames) (hlocals : (rest.map fun v => v.category).sum + (nativeFrameWords "java/lang/System" "arraycopy" 5 + 11) ≤ R.locals) (hw : ws.set q1 (a, .inl (c1, n1, .inl (fun k => zi (va_cpy f g sp' dp' n.toNat k)))) = ws1) (hdg : decode cc pc = .ok (.invokestatic index, 3))
    (kk : ∀ (H1 : Heap) (locs1 : List Loc), va_P D cl ws1 H1 → va_D A ws1 → va_S A H0 H1 locs1 → W p l e R s m args below meth c H1 locs1 cells slots Q (F0 m (pc + 3) ls rest)) : W p l e R s m args below meth c H locs cells slots Q (F0 m pc ls (.int (zi n) :: .int (zi dp) :: .ref a :: .int (zi sp) :: .ref a0 :: rest)) := by
  have c1 := inb_cl e1 (by decide)
  have c2 := inb_cl e2 (by decide)
  have c3 := inb_cl gn hK1
  have neg : ∀ {z : Int} {k : Nat}, inb z k = true → k < 2147483648 → ¬ zi z < 0 := fun h hk q => (inb_vp h hk) (Or.inl q)
  have gn' := inb_i gn
  refine va_copyi hx hb hml hown hlink hnat hstat hini hK hP hD hS q0 q1 t0 t1 ha0 ha1 ht0 ht1 rfl (neg e1 (by decide)) (neg e2 (by decide)) (neg gn hK1) (by rw [c1, c3]; omega) (by rw [c2, c3]; omega) (fun _ _ => rfl) hframes hlocals hdg (fun H1 locs1 h1 h2 h3 => kk H1 locs1 ?_ ?_ h3)
  · rw [c1, c2, c3, hs', hd', cpy_zi, hw] at h1
    exact h1
  · rw [c1, c2, c3, hs', hd', cpy_zi, hw] at h2
    exact h2
theorem iv_put (hx : p.tables.exec = Jvm.exec) (hb : c.code = cc) {own ref C : String} {T : u_T} {N ci index : Nat} {Ts : List Cond} (hts : ∀ w ∈ Ts, w.before args s = true) (hin : ∀ w ∈ u_ws C T N, w ∈ Ts) (ty0 : Nat → FieldType) (hty : ∀ k, k < N → parseFieldDescriptor (T k).2.2.1 = some (ty0 k)) (hnm : ∀ a, a < N → ∀ b, b < N → a ≠ b → (T a).2.1 ≠ (T b).2.1) (hown : s.vm.findClass own = some m.cls) (hK : va_K D cl tys s) (hP : va_P D cl ws H) (hD : va_D A ws) (hS0 : va_S A H0 H locs) (q0 : Nat) {fs : List Value} (he : ws[q0]? = some (a, .inr (ci, fs))) (hc : cl[ci]? = some (C, T, N)) (k : Nat) (hk : k < N) (hlink : (Cond.fieldLink own index ref (T k).2.1 (T k).2.2.1).before args s = true) (hsame : ∀ x, s.fieldFound? (T k).1 (T k).2.1 (T k).2.2.1 = some x → s.fieldFound? ref (T k).2.1 (T k).2.2.1 = some x) (hfin : (T k).2.2.2 = false) {ty : FieldType} {v : Value} (hd : parseFieldDescriptor (T k).2.2.1 = some ty) (hn : narrow ty v = v) (hfit : fits ty v = true) (hl : k < fs.length) (hw : ws.set q0 (a, .inr (ci, fs.set k v)) = ws1)
    (hdg : decode cc pc = .ok (.putfield index, 3)) (kk : ∀ (H1 : Heap) (locs1 : List Loc), va_P D cl ws1 H1 → va_D A ws1 → va_S A H0 H1 locs1 → W p l e R s m args below meth c H1 locs1 cells slots Q (F0 m (pc + 3) ls rest)) : W p l e R s m args below meth c H locs cells slots Q (F0 m pc ls (v :: .ref a :: rest)) := by
  refine va_put hx hb hts hin ty0 hty hnm hown hK hP hD hS0 q0 he hc k hk hlink hsame hfin hd hn hfit hl hdg (fun H1 locs1 h1 h2 h3 => kk H1 locs1 ?_ ?_ h3)
  · rw [hw] at h1
    exact h1
  · rw [hw] at h2
    exact h2
end IA
/-! contracts over a world of my own words -/
abbrev wE : Type := va_G × ClassId × ClassId × ClassId
/-- the links of nest mates' private static methods -/
abbrev mM (U : State) : Prop := va_Nw (.methodLinkNest RX4 44 yX7_isPlace RX7) U ∧ va_Nw (.methodLinkNest RX4 47 yX7_isBin RX7) U ∧ va_Nw (.methodLinkNest RX5 96 yX7_isBin RX7) U
abbrev KK (E : wE) (U : State) : Prop := va_K E.1 vwCl [(E.2.1, .int), (E.2.2.1, .char), (E.2.2.2, .object "ShirtButtons$State")] U ∧ mM U
theorem KK.warm {E : wE} {u U : State} (hW : u.WarmedH U.vm) (h : KK E u) : KK E U := ⟨va_K.moved hW.alike h.1, va_Nw.warmM hW h.2.1, va_Nw.warmM hW h.2.2.1, va_Nw.warmM hW h.2.2.2⟩
theorem KK.same {E : wE} {u U : State} (hv : u.vm = U.vm) (hvm : u.vm.Alike U.vm) (h : KK E u) : KK E U := ⟨va_K.moved hvm h.1, va_Nw.same rfl hv h.2.1, va_Nw.same rfl hv h.2.2.1, va_Nw.same rfl hv h.2.2.2⟩
def mPre (E : wE) (sz : Nat) (ws : va_W) : State → Prop := fun U => U.heap.size = sz ∧ va_P E.1 vwCl ws U.heap ∧ KK E U ∧ va_D (fun _ => True) ws
def mPo (E : wE) (A : Nat → Prop) (ws1 : va_W) : Unit → State → Prop := fun _ t => va_P E.1 vwCl ws1 t.heap ∧ KK E t ∧ va_D A ws1
def mQi (E : wE) (ws1 : va_W) (r : Int) (A : Nat → Prop) : Array Value → State → Outcome → State → Prop := va_Qi (fun (v : Int32) (_ : Unit) => v = zi r) (mPo E A ws1) A
def mQv (E : wE) (ws1 : va_W) (A : Nat → Prop) : Array Value → State → Outcome → State → Prop := va_Qv (fun (_ : Unit) => True) (mPo E A ws1) A
def cI (l : Launch) (y : MethodName) (wt : List Cond) (rm : Room) (E : wE) (sz : Nat) (av : List Value) (ws0 ws1 : va_W) (r : Int) : Prop := Met l y wt rm (va_Pc av (mPre E sz ws0)) (mQi E ws1 r (va_A ws0 sz)) 0 0 (va_A ws0 sz)
def cV (l : Launch) (y : MethodName) (wt : List Cond) (rm : Room) (E : wE) (sz : Nat) (av : List Value) (ws0 ws1 : va_W) : Prop := Met l y wt rm (va_Pc av (mPre E sz ws0)) (mQv E ws1 (va_A ws0 sz)) 0 0 (va_A ws0 sz)
theorem met_go {l : Launch} {y : MethodName} {wt wt' : List Cond} {rm : Room} {cc : ByteArray} {maxL : Nat} {ret : Option FieldType} {E : wE} {sz : Nat} {av : List Value} {ws0 : va_W} {Q0 : (Nat → Prop) → Array Value → State → Outcome → State → Prop} (hy : plainName y.cls = true) (hw : wt = Cond.code y cc maxL ret :: wt') (hn : (lg_sl av).length ≤ maxL)
    (body : ∀ (A : Nat → Prop) (p : Program) (e : Env) (s : State) (m : MethodId) (below : List Frame) (meth : Method) (c : Code), p.tables.exec = Jvm.exec → c.code = cc → meth.sig.returnType = ret → c.maxLocals = maxL → (∀ w ∈ wt, w.before av.toArray s = true) → s.vm.findClass y.cls = some m.cls → meth.locks = false → va_P E.1 vwCl ws0 s.heap → KK E s → va_D A ws0 → (∀ q, s.heap.size ≤ q → A q) → va_S A s.heap s.heap [] → ∀ ls : Array Slot, lv_has ls maxL (lv_args 0 av) → W p l e rm s m av.toArray below meth c s.heap [] 0 0 (MQ below (Q0 A) av.toArray s 0 0 A) (F0 m 0 ls [])) :
    Met l y wt rm (va_Pc av (mPre E sz ws0)) (Q0 (va_A ws0 sz)) 0 0 (va_A ws0 sz) := by
  refine Met.ofW (cc := cc) (maxL := maxL) (ret := ret) hy hw ?_
  intro p e s m args below meth c s₁ B hml hv
  obtain ⟨rfl, hsz, hP, hK, hD0⟩ := hv
  subst hsz
  have hts := atoms_spec (ws := wt) B.pre
  have hown : s.vm.findClass y.cls = some m.cls := findClass_of_methodNamed B.named
  rw [lg_entry_eq]
  exact body (va_A ws0 s.heap.size) p e s m below meth c B.exec B.bytes B.returns hml hts hown B.notSynchronized hP hK hD0.self (fun q h => Or.inr h) va_S.rf _ (lv_entry av hn)
theorem map_fm {ws wc : va_W} : ∀ {is : List Nat} (_ : is.map (fun i => ws[i]?) = wc.map some), is.filterMap (fun i => ws[i]?) = wc := by
  intro is h
  have h1 : (is.map (fun i => ws[i]?)).filterMap id = (wc.map some).filterMap id := by rw [h]
  rw [List.filterMap_map] at h1
  have h2 : (wc.map some).filterMap id = wc := by
    rw [List.filterMap_map]
    exact List.filterMap_some
  rw [h2] at h1
  exact h1
theorem mPre_blind {E : wE} {sz : Nat} {ws : va_W} {av : List Value} : FrameBlind (va_Pc av (mPre E sz ws)) := fun a U g mk q => by
  obtain ⟨q0, q1, qP, qK, qD⟩ := q
  exact ⟨q0, q1, qP, KK.same (u := U) (U := U.calling g mk a) rfl (Vm.Alike.refl U.vm) qK, qD⟩
section IC
variable {p : Program} {l : Launch} {e : Env} {R : Room} {s : State} {m : MethodId} {args : Array Value} {below : List Frame} {meth : Method} {c : Code} {H : Heap} {locs : List Loc} {cells slots : Nat} {Q : State → Prop}
variable {cc bytes : ByteArray} {pc nL maxL n index : Nat} {ls : Array Slot} {rest As : List Value} {E : wE} {A : Nat → Prop} {b : Nat} {ws ws1 wc wr w1 : va_W} {H0 : Heap} {Ts wt : List Cond} {own C : String} {y : MethodName} {ret : Option FieldType} {rm : Room} {r : Int}
/-- the callee's world is a part of mine -/
theorem iv_callI (S : CallFix p m c cc nL s args Ts own) (hM : cI l y wt rm E H.size (.ref b :: As) wc w1 r) (cw : CallW R s args own C index y bytes maxL ret wt rm 0 0 n)
    (hK : KK E s) (hP : va_P E.1 vwCl ws H) (hD : va_D A ws) (hS : va_S A H0 H locs) (hA : ∀ q, H0.size ≤ q → A q) (q0 ci : Nat) {T : u_T} {N : Nat} {fs : List Value} (he : ws[q0]? = some (b, .inr (ci, fs))) (hc : vwCl[ci]? = some (C, T, N))
    (isC isR perm : List Nat) (hC : isC.map (fun i => ws[i]?) = wc.map some) (hR : isR.map (fun i => ws[i]?) = wr.map some) (hnC : va_nd isC = true) (hn : va_nd isR = true) (hdis : ∀ i ∈ isR, i ∉ isC) (hp : perm.map (fun i => (wr ++ w1)[i]?) = ws1.map some) (hpn : va_nd perm = true)
    (hlen : As.length = n) (hl : ls.size = nL) (hroom : (rest.map fun v => v.category).sum ≤ 8) (hf : cells ≤ R.cells ∧ slots ≤ R.slots) (hdg : decode cc pc = .ok (.invokevirtual index, 3))
    (kk : ∀ (H1 : Heap) (locs1 : List Loc), va_P E.1 vwCl ws1 H1 → va_D A ws1 → va_S A H0 H1 locs1 → W p l e R s m args below meth c H1 locs1 cells slots Q (F0 m (pc + 3) ls (.int (zi r) :: rest))) : W p l e R s m args below meth c H locs cells slots Q (F0 m pc ls (As.reverse ++ .ref b :: rest)) := by
  have hPc := hP.sub isC (map_fm hC)
  have hDc := hD.sub isC hnC hC
  have hFc := va_free hD hS hA isC hC
  refine va_calli (va_runV (As := As) (rest := rest) S hM cw ⟨mPre_blind, va_recv hK.1 hP hc he, fun U hU hW => ⟨rfl, by rw [hU], by rw [hU]; exact hPc, KK.warm hW hK, hDc.weaken (fun _ _ _ _ => trivial)⟩⟩ rfl hlen hl rfl (lv_room hroom) hdg hf) hS (fun q _ h => hFc q h) hFc (fun r0 u t H1 locs1 ht hvm hw hB hz1 hk1 hS1 => ?_)
  obtain ⟨hP1, hK1, hD1⟩ := hB
  rw [ht] at hP1
  subst hw
  obtain ⟨hP2, hD2⟩ := va_join hP hD isC isR hC hR hn hdis hk1 hFc hP1 hD1
  exact kk H1 locs1 (hP2.sub perm (map_fm hp)) (hD2.sub perm hpn hp) hS1
theorem iv_callV (S : CallFix p m c cc nL s args Ts own) (hM : cV l y wt rm E H.size (.ref b :: As) wc w1) (cw : CallW R s args own C index y bytes maxL ret wt rm 0 0 n)
    (hK : KK E s) (hP : va_P E.1 vwCl ws H) (hD : va_D A ws) (hS : va_S A H0 H locs) (hA : ∀ q, H0.size ≤ q → A q) (q0 ci : Nat) {T : u_T} {N : Nat} {fs : List Value} (he : ws[q0]? = some (b, .inr (ci, fs))) (hc : vwCl[ci]? = some (C, T, N))
    (isC isR perm : List Nat) (hC : isC.map (fun i => ws[i]?) = wc.map some) (hR : isR.map (fun i => ws[i]?) = wr.map some) (hnC : va_nd isC = true) (hn : va_nd isR = true) (hdis : ∀ i ∈ isR, i ∉ isC) (hp : perm.map (fun i => (wr ++ w1)[i]?) = ws1.map some) (hpn : va_nd perm = true)
    (hlen : As.length = n) (hl : ls.size = nL) (hroom : (rest.map fun v => v.category).sum ≤ 8) (hf : cells ≤ R.cells ∧ slots ≤ R.slots) (hdg : decode cc pc = .ok (.invokevirtual index, 3))
    (kk : ∀ (H1 : Heap) (locs1 : List Loc), va_P E.1 vwCl ws1 H1 → va_D A ws1 → va_S A H0 H1 locs1 → W p l e R s m args below meth c H1 locs1 cells slots Q (F0 m (pc + 3) ls rest)) : W p l e R s m args below meth c H locs cells slots Q (F0 m pc ls (As.reverse ++ .ref b :: rest)) := by
  have hPc := hP.sub isC (map_fm hC)
  have hDc := hD.sub isC hnC hC
  have hFc := va_free hD hS hA isC hC
  refine va_callv (va_runV (As := As) (rest := rest) S hM cw ⟨mPre_blind, va_recv hK.1 hP hc he, fun U hU hW => ⟨rfl, by rw [hU], by rw [hU]; exact hPc, KK.warm hW hK, hDc.weaken (fun _ _ _ _ => trivial)⟩⟩ rfl hlen hl rfl (lv_room hroom) hdg hf) hS (fun q _ h => hFc q h) hFc (fun u t H1 locs1 ht hvm hw hB hz1 hk1 hS1 => ?_)
  obtain ⟨hP1, hK1, hD1⟩ := hB
  rw [ht] at hP1
  obtain ⟨hP2, hD2⟩ := va_join hP hD isC isR hC hR hn hdis hk1 hFc hP1 hD1
  exact kk H1 locs1 (hP2.sub perm (map_fm hp)) (hD2.sub perm hpn hp) hS1
/-- the callee's world is mine -/
theorem iv_callIf (S : CallFix p m c cc nL s args Ts own) (hM : cI l y wt rm E H.size (.ref b :: As) ws w1 r) (cw : CallW R s args own C index y bytes maxL ret wt rm 0 0 n)
    (hK : KK E s) (hP : va_P E.1 vwCl ws H) (hD : va_D A ws) (hS : va_S A H0 H locs) (hA : ∀ q, H0.size ≤ q → A q) (q0 ci : Nat) {T : u_T} {N : Nat} {fs : List Value} (he : ws[q0]? = some (b, .inr (ci, fs))) (hc : vwCl[ci]? = some (C, T, N))
    (hlen : As.length = n) (hl : ls.size = nL) (hroom : (rest.map fun v => v.category).sum ≤ 8) (hf : cells ≤ R.cells ∧ slots ≤ R.slots) (hdg : decode cc pc = .ok (.invokevirtual index, 3))
    (kk : ∀ (H1 : Heap) (locs1 : List Loc), va_P E.1 vwCl w1 H1 → va_D A w1 → va_S A H0 H1 locs1 → W p l e R s m args below meth c H1 locs1 cells slots Q (F0 m (pc + 3) ls (.int (zi r) :: rest))) : W p l e R s m args below meth c H locs cells slots Q (F0 m pc ls (As.reverse ++ .ref b :: rest)) := by
  have hFc : ∀ q, va_A ws H.size q → A q := fun q h => by
    rcases h with ⟨k, z, h⟩ | h
    · exact hD.2 k _ h
    · exact hA q (Nat.le_trans hS.1 h)
  refine va_calli (va_runV (As := As) (rest := rest) S hM cw ⟨mPre_blind, va_recv hK.1 hP hc he, fun U hU hW => ⟨rfl, by rw [hU], by rw [hU]; exact hP, KK.warm hW hK, hD.weaken (fun _ _ _ _ => trivial)⟩⟩ rfl hlen hl rfl (lv_room hroom) hdg hf) hS (fun q _ h => hFc q h) hFc (fun r0 u t H1 locs1 ht hvm hw hB hz1 hk1 hS1 => ?_)
  obtain ⟨hP1, hK1, hD1⟩ := hB
  rw [ht] at hP1
  subst hw
  exact kk H1 locs1 hP1 (hD1.weaken (fun k q _ h => hFc q.1 h)) hS1
theorem iv_callVf (S : CallFix p m c cc nL s args Ts own) (hM : cV l y wt rm E H.size (.ref b :: As) ws w1) (cw : CallW R s args own C index y bytes maxL ret wt rm 0 0 n)
    (hK : KK E s) (hP : va_P E.1 vwCl ws H) (hD : va_D A ws) (hS : va_S A H0 H locs) (hA : ∀ q, H0.size ≤ q → A q) (q0 ci : Nat) {T : u_T} {N : Nat} {fs : List Value} (he : ws[q0]? = some (b, .inr (ci, fs))) (hc : vwCl[ci]? = some (C, T, N))
    (hlen : As.length = n) (hl : ls.size = nL) (hroom : (rest.map fun v => v.category).sum ≤ 8) (hf : cells ≤ R.cells ∧ slots ≤ R.slots) (hdg : decode cc pc = .ok (.invokevirtual index, 3))
    (kk : ∀ (H1 : Heap) (locs1 : List Loc), va_P E.1 vwCl w1 H1 → va_D A w1 → va_S A H0 H1 locs1 → W p l e R s m args below meth c H1 locs1 cells slots Q (F0 m (pc + 3) ls rest)) : W p l e R s m args below meth c H locs cells slots Q (F0 m pc ls (As.reverse ++ .ref b :: rest)) := by
  have hFc : ∀ q, va_A ws H.size q → A q := fun q h => by
    rcases h with ⟨k, z, h⟩ | h
    · exact hD.2 k _ h
    · exact hA q (Nat.le_trans hS.1 h)
  refine va_callv (va_runV (As := As) (rest := rest) S hM cw ⟨mPre_blind, va_recv hK.1 hP hc he, fun U hU hW => ⟨rfl, by rw [hU], by rw [hU]; exact hP, KK.warm hW hK, hD.weaken (fun _ _ _ _ => trivial)⟩⟩ rfl hlen hl rfl (lv_room hroom) hdg hf) hS (fun q _ h => hFc q h) hFc (fun u t H1 locs1 ht hvm hw hB hz1 hk1 hS1 => ?_)
  obtain ⟨hP1, hK1, hD1⟩ := hB
  rw [ht] at hP1
  exact kk H1 locs1 hP1 (hD1.weaken (fun k q _ h => hFc q.1 h)) hS1
/-- a static method without a world -/
theorem iv_callS (S : CallFix p m c cc nL s args Ts own) (hM : cI l y wt rm E H.size As [] [] r) (cw : CallB R s args own index y bytes maxL ret wt rm 0 0 n ∧ (Cond.static y).before args s = true)
    (hK : KK E s) (hP : va_P E.1 vwCl ws H) (hS : va_S A H0 H locs) (hA : ∀ q, H0.size ≤ q → A q)
    (hlen : As.length = n) (hl : ls.size = nL) (hroom : (rest.map fun v => v.category).sum ≤ 8) (hf : cells ≤ R.cells ∧ slots ≤ R.slots) (hdg : decode cc pc = .ok (.invokestatic index, 3))
    (kk : ∀ (H1 : Heap) (locs1 : List Loc), va_P E.1 vwCl ws H1 → va_S A H0 H1 locs1 → W p l e R s m args below meth c H1 locs1 cells slots Q (F0 m (pc + 3) ls (.int (zi r) :: rest))) : W p l e R s m args below meth c H locs cells slots Q (F0 m pc ls (As.reverse ++ rest)) := by
  have hFc : ∀ q, va_A [] H.size q → A q := fun q h => by
    rcases h with ⟨k, z, h⟩ | h
    · simp at h
    · exact hA q (Nat.le_trans hS.1 h)
  refine va_calli (va_runS (As := As) (rest := rest) S hM cw ⟨mPre_blind, fun U hU hW => ⟨rfl, by rw [hU], fun k q h => by simp at h, KK.warm hW hK, ⟨fun i j p q h => by simp at h, fun k q h => by simp at h⟩⟩⟩ rfl hlen hl rfl (lv_room hroom) hdg hf) hS (fun q _ h => hFc q h) hFc (fun r0 u t H1 locs1 ht hvm hw hB hz1 hk1 hS1 => ?_)
  subst hw
  refine kk H1 locs1 (hP.kept (fun k q hq => ?_)) hS1
  have hlt := (hP k q hq).lt
  refine hk1 q.1 hlt (fun h => ?_)
  rcases h with ⟨k2, z, h⟩ | h
  · simp at h
  · omega
/-- the same, a private one of a nest mate -/
theorem iv_callSn {host : String} (S : CallFix p m c cc nL s args Ts own) (hM : cI l y wt rm E H.size As [] [] r) (cw : va_CN R s args own index y host bytes maxL ret wt rm 0 0 n ∧ (Cond.static y).before args s = true ∧ True)
    (hK : KK E s) (hP : va_P E.1 vwCl ws H) (hS : va_S A H0 H locs) (hA : ∀ q, H0.size ≤ q → A q)
    (hlen : As.length = n) (hl : ls.size = nL) (hroom : (rest.map fun v => v.category).sum ≤ 8) (hf : cells ≤ R.cells ∧ slots ≤ R.slots) (hdg : decode cc pc = .ok (.invokestatic index, 3))
    (kk : ∀ (H1 : Heap) (locs1 : List Loc), va_P E.1 vwCl ws H1 → va_S A H0 H1 locs1 → W p l e R s m args below meth c H1 locs1 cells slots Q (F0 m (pc + 3) ls (.int (zi r) :: rest))) : W p l e R s m args below meth c H locs cells slots Q (F0 m pc ls (As.reverse ++ rest)) := by
  have hFc : ∀ q, va_A [] H.size q → A q := fun q h => by
    rcases h with ⟨k, z, h⟩ | h
    · simp at h
    · exact hA q (Nat.le_trans hS.1 h)
  refine va_calli (va_runSN (As := As) (rest := rest) S hM cw ⟨mPre_blind, fun U hU hW => ⟨rfl, by rw [hU], fun k q h => by simp at h, KK.warm hW hK, ⟨fun i j p q h => by simp at h, fun k q h => by simp at h⟩⟩⟩ rfl hlen hl rfl (lv_room hroom) hdg hf) hS (fun q _ h => hFc q h) hFc (fun r0 u t H1 locs1 ht hvm hw hB hz1 hk1 hS1 => ?_)
  subst hw
  refine kk H1 locs1 (hP.kept (fun k q hq => ?_)) hS1
  have hlt := (hP k q hq).lt
  refine hk1 q.1 hlt (fun h => ?_)
  rcases h with ⟨k2, z, h⟩ | h
  · simp at h
  · omega
/-- the ends of a method -/
theorem iv_iret (hx : p.tables.exec = Jvm.exec) (hb : c.code = cc) (hr : meth.sig.returnType = some .int) (hlocks : meth.locks = false) (hK : KK E s) (hP : va_P E.1 vwCl ws H) (hD : va_D A ws) (hS : va_S A s.heap H locs) (hdg : decode cc pc = .ok (.ireturn, 1)) : W p l e R s m args below meth c H locs cells slots (MQ below (mQi E ws r A) args s cells slots A) (F0 m pc ls [.int (zi r)]) :=
  W.iret (v := zi r) hx hb hr (fun t ht hW => ⟨⟨zi r, (), rfl, rfl, by rw [ht]; exact hP, KK.warm hW hK, hD⟩, hS.F ht⟩) hS.2.2 hdg
theorem iv_zret (hx : p.tables.exec = Jvm.exec) (hb : c.code = cc) (hr : meth.sig.returnType = some .boolean) (hlocks : meth.locks = false) (g : inb r 2 = true) (hK : KK E s) (hP : va_P E.1 vwCl ws H) (hD : va_D A ws) (hS : va_S A s.heap H locs) (hdg : decode cc pc = .ok (.ireturn, 1)) : W p l e R s m args below meth c H locs cells slots (MQ below (mQi E ws r A) args s cells slots A) (F0 m pc ls [.int (zi r)]) :=
  W.zret (v := zi r) hx hb hr (zi_01 g) (fun t ht hW => ⟨⟨zi r, (), rfl, rfl, by rw [ht]; exact hP, KK.warm hW hK, hD⟩, hS.F ht⟩) hS.2.2 hdg
theorem iv_vret (hx : p.tables.exec = Jvm.exec) (hb : c.code = cc) (hr : meth.sig.returnType = none) (hlocks : meth.locks = false) (hK : KK E s) (hP : va_P E.1 vwCl ws H) (hD : va_D A ws) (hS : va_S A s.heap H locs) (hdg : decode cc pc = .ok (.return_, 1)) : W p l e R s m args below meth c H locs cells slots (MQ below (mQv E ws A) args s cells slots A) (F0 m pc ls []) :=
  W.vret hx hb hr (fun t ht hW => ⟨⟨(), rfl, trivial, by rw [ht]; exact hP, KK.warm hW hK, hD⟩, hS.F ht⟩) hS.2.2 hdg
end IC
section IB
variable {p : Program} {l : Launch} {e : Env} {R : Room} {s : State} {m : MethodId} {args : Array Value} {below : List Frame} {meth : Method} {c : Code} {H : Heap} {locs : List Loc} {cells slots : Nat} {Q : State → Prop}
variable {cc : ByteArray} {pc : Nat} {ls : Array Slot} {rest : List Value} {D : va_G} {cl : List vw_C} {A : Nat → Prop} {a : Nat} {tys : List (ClassId × FieldType)} {ws ws1 : va_W} {H0 : Heap}
theorem iv_tabIn (hx : p.tables.exec = Jvm.exec) (hb : c.code = cc) {dflt lo hi : Int} {offs : Array Int} {len : Nat} {x k : Int} {off : Int} {tgt : Nat} (hdg : decode cc pc = .ok (.tableswitch dflt lo hi offs, len)) (gx : rg x = true) (h : x = k) (h1 : ¬ k < lo) (h2 : ¬ hi < k) (ho : offs[(k - lo).toNat]? = some off) (ht : (pc : Int) + off = (tgt : Int))
    (kk : W p l e R s m args below meth c H locs cells slots Q (F0 m tgt ls rest)) : W p l e R s m args below meth c H locs cells slots Q (F0 m pc ls (.int (zi x) :: rest)) := by
  subst h
  have e1 := zi_toInt gx
  exact lv_tableIn hx hb hdg (by rw [e1]; exact h1) (by rw [e1]; exact h2) (by rw [e1]; exact ho) ht kk
theorem iv_tabOut (hx : p.tables.exec = Jvm.exec) (hb : c.code = cc) {dflt lo hi : Int} {offs : Array Int} {len : Nat} {x : Int} {tgt : Nat} (hdg : decode cc pc = .ok (.tableswitch dflt lo hi offs, len)) (gx : rg x = true) (h : x < lo ∨ hi < x) (ht : (pc : Int) + dflt = (tgt : Int))
    (kk : W p l e R s m args below meth c H locs cells slots Q (F0 m tgt ls rest)) : W p l e R s m args below meth c H locs cells slots Q (F0 m pc ls (.int (zi x) :: rest)) := by
  have e1 := zi_toInt gx
  exact lv_tableOut hx hb hdg (by rw [e1]; exact h) ht kk
theorem iv_aald (hx : p.tables.exec = Jvm.exec) (hb : c.code = cc) (hK : va_K D cl tys s) (hP : va_P D cl ws H) (q0 t0 : Nat) {cA : ClassId} {C : String} {n : Nat} {f : Nat → Option Nat} (ha : ws[q0]? = some (a, .inl (cA, n, .inr (.inr (.inr (.inr f)))))) (ht : tys[t0]? = some (cA, .object C)) {i : Int} {j q : Nat} (hi : i = (j : Int)) (hj : j < n) (hn : n < 2147483648) (hq : f j = some q) (hdg : decode cc pc = .ok (.aaload, 1))
    (kk : W p l e R s m args below meth c H locs cells slots Q (F0 m (pc + 1) ls (.ref q :: rest))) : W p l e R s m args below meth c H locs cells slots Q (F0 m pc ls (.int (zi i) :: .ref a :: rest)) := by
  subst hi
  have g : inb (j : Int) n = true := inb_of (by omega)
  refine va_aldq hx hb hK hP q0 t0 ha ht (inb_vp g hn) hdg ?_
  rw [inb_cl g hn, show (j : Int).toNat = j from rfl, hq]
  exact kk
theorem zi_char {x : Int} (h : inb x 65536 = true) : vp_nar .char (zi x) = zi x := by
  have h1 := inb_i h
  obtain ⟨n, rfl⟩ : ∃ n : Nat, x = (n : Int) := ⟨x.toNat, by omega⟩
  have h2 : zi (n : Int) = nI n := Int32.ofInt_eq_ofNat
  rw [h2]
  have h3 := (pk_charN (q := n) (by omega)).1
  unfold vp_nar
  rw [h3]
theorem iv_cast (hx : p.tables.exec = Jvm.exec) (hb : c.code = cc) (hK : va_K D cl tys s) (hP : va_P D cl ws H) (hD : va_D A ws) (hS : va_S A H0 H locs) (q0 t0 : Nat) {cA : ClassId} {n : Nat} {f : Nat → Int} (ha : ws[q0]? = some (a, .inl (cA, n, .inl (fun j => zi (f j))))) (ht : tys[t0]? = some (cA, .char)) {i x : Int} {j : Nat} (hn : n < 2147483648) (g : inb i n = true) (g2 : inb x 65536 = true) (hj : i.toNat = j) (hw : ws.set q0 (a, .inl (cA, n, .inl (fun k => zi (up f j x k)))) = ws1) (hdg : decode cc pc = .ok (.castore, 1))
    (kk : ∀ (H1 : Heap) (locs1 : List Loc), va_P D cl ws1 H1 → va_D A ws1 → va_S A H0 H1 locs1 → W p l e R s m args below meth c H1 locs1 cells slots Q (F0 m (pc + 1) ls rest)) : W p l e R s m args below meth c H locs cells slots Q (F0 m pc ls (.int (zi x) :: .int (zi i) :: .ref a :: rest)) := by
  refine va_cast hx hb hK hP hD hS q0 t0 ha ht (inb_vp g hn) hdg (fun H1 locs1 h1 h2 h3 => kk H1 locs1 ?_ ?_ h3)
  · rw [inb_cl g hn, hj, zi_char g2, up_zi, hw] at h1
    exact h1
  · rw [inb_cl g hn, hj, zi_char g2, up_zi, hw] at h2
    exact h2
end IB
