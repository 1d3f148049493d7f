set_option maxRecDepth 20000 in
theorem wd_X3_numberAt_f18 : Cond.fieldLink RX3 18 "ShirtButtons$Order" "count" "I" ∈ wsX3_numberAt := by decide +kernel
set_option maxRecDepth 20000 in
theorem in_X3_numberAt_X3 : ∀ w ∈ u_ws RX3 TX3 3, w ∈ wsX3_numberAt := by decide +kernel
set_option maxRecDepth 20000 in
theorem wd_X3_numberAt_f9 : Cond.fieldLink RX3 9 "ShirtButtons$Order" "numbers" "[I" ∈ wsX3_numberAt := by decide +kernel
set_option maxHeartbeats 4000000 in
set_option maxRecDepth 100000 in
theorem k_X3_numberAt (l : Launch) (E : wE) (a : Nat → Nat) (sz : Nat) (x1 : Int) (z : bO) (u : (Int × bO)) (hf : f_X3_numberAt x1 z = some u) : cI l yX3_numberAt wsX3_numberAt { frames := 0, cells := 0, slots := 0, locals := 0 } E sz [.ref (a 0), .int (zi x1)] (wO a E z) (wO a E u.2) u.1 := by
  refine met_go (cc := cX3_numberAt) (maxL := 2) (ret := (some .int)) (Q0 := mQi E (wO a E u.2) u.1) (by decide +kernel) rfl (Nat.le_of_ble_eq_true rfl) ?_
  intro A p e s m below meth c hx hb hr hml hts hown hlocks hP hK hD hA hS ls hl
  have hl : lv_has ls 2 [(0, .ref (a 0)), (1, .int (zi x1))] := hl
  generalize hH : s.heap = H at hP
  have hS : va_S A s.heap H [] := by rw [← hH]; exact hS
  have hown : s.vm.findClass RX3 = some m.cls := hown
  have h := hf
  rw [f_X3_numberAt] at h
  refine lv_iload_n hx hb dX3_numberAt_0 rfl (lv_at hl 1 rfl) ?_
  obtain ⟨g1, h⟩ := gd_t h
  refine iv_lt (tgt := 21) hx hb g1 dX3_numberAt_1 (by decide) (fun c2 => ?_) (fun c2 => ?_)
  · have h := it_t c2 h
    refine iv_bipush hx hb dX3_numberAt_21 (by decide +kernel) ?_
    cases h
    exact iv_iret hx hb hr hlocks hK hP hD hS dX3_numberAt_23
  · have h := it_f c2 h
    refine lv_iload_n hx hb dX3_numberAt_4 rfl (lv_at hl 1 rfl) ?_
    refine lv_aload_n hx hb dX3_numberAt_5 rfl (lv_at hl 0 rfl) ?_
    refine va_get (D := E.1) (ci := 3) (v := .int (zi z.2.2)) (C := RX3) (T := TX3) (N := 3) hx hb hts in_X3_numberAt_X3 hown hK.1 hP 0 rfl rfl 2 (by decide) (hts _ wd_X3_numberAt_f18) (fun _ h9 => h9) rfl dX3_numberAt_6 ?_
    obtain ⟨g3, h⟩ := gd_t h
    refine iv_ige (tgt := 21) hx hb g1 g3 dX3_numberAt_9 (by decide) (fun c4 => ?_) (fun c4 => ?_)
    · have h := it_t c4 h
      refine iv_bipush hx hb dX3_numberAt_21 (by decide +kernel) ?_
      cases h
      exact iv_iret hx hb hr hlocks hK hP hD hS dX3_numberAt_23
    · have h := it_f c4 h
      refine lv_aload_n hx hb dX3_numberAt_12 rfl (lv_at hl 0 rfl) ?_
      refine va_get (D := E.1) (ci := 3) (v := .ref (a 1)) (C := RX3) (T := TX3) (N := 3) hx hb hts in_X3_numberAt_X3 hown hK.1 hP 0 rfl rfl 0 (by decide) (hts _ wd_X3_numberAt_f9) (fun _ h9 => h9) rfl dX3_numberAt_13 ?_
      refine lv_iload_n hx hb dX3_numberAt_16 rfl (lv_at hl 1 rfl) ?_
      obtain ⟨g5, h⟩ := gd_t h
      refine iv_iald (f := z.1) (j := x1.toNat) hx hb hK.1 hP 1 0 rfl rfl (by decide) g5 rfl dX3_numberAt_17 ?_
      refine lv_goto (tgt := 23) hx hb dX3_numberAt_18 (by decide) ?_
      cases h
      exact iv_iret hx hb hr hlocks hK hP hD hS dX3_numberAt_23
set_option maxRecDepth 20000 in
theorem wd_X3_insert_f18 : Cond.fieldLink RX3 18 "ShirtButtons$Order" "count" "I" ∈ wsX3_insert := by decide +kernel
set_option maxRecDepth 20000 in
theorem in_X3_insert_X3 : ∀ w ∈ u_ws RX3 TX3 3, w ∈ wsX3_insert := by decide +kernel
set_option maxRecDepth 20000 in
theorem wd_X3_insert_f9 : Cond.fieldLink RX3 9 "ShirtButtons$Order" "numbers" "[I" ∈ wsX3_insert := by decide +kernel
set_option maxRecDepth 20000 in
theorem wd_X3_insert_f15 : Cond.fieldLink RX3 15 "ShirtButtons$Order" "shine" "[I" ∈ wsX3_insert := by decide +kernel
set_option maxHeartbeats 4000000 in
set_option maxRecDepth 100000 in
theorem k_X3_insert (l : Launch) (E : wE) (a : Nat → Nat) (sz : Nat) (N : Nat) (x1 x2 : Int) (z : bO) (u : bO) (hf : f_X3_insert N x1 x2 z = some u) : cV l yX3_insert wsX3_insert { frames := 0, cells := 0, slots := 0, locals := 0 } E sz [.ref (a 0), .int (zi x1), .int (zi x2)] (wO a E z) (wO a E u) := by
  refine met_go (cc := cX3_insert) (maxL := 4) (ret := none) (Q0 := mQv E (wO a E u)) (by decide +kernel) rfl (Nat.le_of_ble_eq_true rfl) ?_
  intro A p e s m below meth c hx hb hr hml hts hown hlocks hP hK hD hA hS ls hl
  have hl : lv_has ls 4 [(0, .ref (a 0)), (1, .int (zi x1)), (2, .int (zi x2))] := hl
  generalize hH : s.heap = H at hP
  have hS : va_S A s.heap H [] := by rw [← hH]; exact hS
  have hown : s.vm.findClass RX3 = some m.cls := hown
  have loop5 : ∀ (n : Nat) (v1 v2 v3 : Int) (s4 : bO) (H : Heap) (locs : List Loc) (ls : Array Slot), f_X3_insert_L5 N n v1 v2 v3 s4 = some u → va_P E.1 vwCl (wO a E s4) H → va_D A (wO a E s4) → va_S A s.heap H locs → lv_has ls 4 [(0, .ref (a 0)), (1, .int (zi v1)), (2, .int (zi v2)), (3, .int (zi v3))] → W p l e ({ frames := 0, cells := 0, slots := 0, locals := 0 }) s m ([.ref (a 0), .int (zi x1), .int (zi x2)] : List Value).toArray below meth c H locs 0 0 (MQ below (mQv E (wO a E u) A) ([.ref (a 0), .int (zi x1), .int (zi x2)] : List Value).toArray s 0 0 A) (F0 m 5 ls []) := by
    intro n
    induction n with
    | zero =>
      intro v1 v2 v3 s4 H locs ls h
      exact absurd (show (none : Option bO) = some u from h) (by simp)
    | succ n ih =>
      intro v1 v2 v3 s4 H locs ls h hP hD hS hl
      rw [f_X3_insert_L5] at h
      refine lv_iload_n hx hb dX3_insert_5 rfl (lv_at hl 3 rfl) ?_
      obtain ⟨g5, h⟩ := gd_t h
      refine iv_le (tgt := 55) hx hb g5 dX3_insert_6 (by decide) (fun c6 => ?_) (fun c6 => ?_)
      · have h := it_t c6 h
        refine lv_aload_n hx hb dX3_insert_55 rfl (lv_at hl 0 rfl) ?_
        refine va_get (D := E.1) (ci := 3) (v := .ref (a 1)) (C := RX3) (T := TX3) (N := 3) hx hb hts in_X3_insert_X3 hown hK.1 hP 0 rfl rfl 0 (by decide) (hts _ wd_X3_insert_f9) (fun _ h9 => h9) rfl dX3_insert_56 ?_
        refine lv_iload_n hx hb dX3_insert_59 rfl (lv_at hl 3 rfl) ?_
        refine lv_iload_n hx hb dX3_insert_60 rfl (lv_at hl 1 rfl) ?_
        obtain ⟨g7, h⟩ := gd_t h
        obtain ⟨s8, e9, h⟩ := nm_t h
        refine iv_iast (f := s4.1) (j := v3.toNat) (ws1 := wO a E s8) hx hb hK.1 hP hD hS 1 0 rfl rfl (by decide) g7 rfl (by rw [e9]; rfl) dX3_insert_61 (fun H locs hP hD hS => ?_)
        refine lv_aload_n hx hb dX3_insert_62 rfl (lv_at hl 0 rfl) ?_
        refine va_get (D := E.1) (ci := 3) (v := .ref (a 2)) (C := RX3) (T := TX3) (N := 3) hx hb hts in_X3_insert_X3 hown hK.1 hP 0 rfl rfl 1 (by decide) (hts _ wd_X3_insert_f15) (fun _ h9 => h9) rfl dX3_insert_63 ?_
        refine lv_iload_n hx hb dX3_insert_66 rfl (lv_at hl 3 rfl) ?_
        refine lv_iload_n hx hb dX3_insert_67 rfl (lv_at hl 2 rfl) ?_
        obtain ⟨s10, e11, h⟩ := nm_t h
        refine iv_iast (f := s8.2.1) (j := v3.toNat) (ws1 := wO a E s10) hx hb hK.1 hP hD hS 2 0 rfl rfl (by decide) g7 rfl (by rw [e11]; rfl) dX3_insert_68 (fun H locs hP hD hS => ?_)
        refine lv_aload_n hx hb dX3_insert_69 rfl (lv_at hl 0 rfl) ?_
        refine lv_dup hx hb dX3_insert_70 rfl ?_
        refine va_get (D := E.1) (ci := 3) (v := .int (zi s10.2.2)) (C := RX3) (T := TX3) (N := 3) hx hb hts in_X3_insert_X3 hown hK.1 hP 0 rfl rfl 2 (by decide) (hts _ wd_X3_insert_f18) (fun _ h9 => h9) rfl dX3_insert_71 ?_
        refine iv_iconst hx hb dX3_insert_74 ?_
        refine iv_iadd hx hb dX3_insert_75 ?_
        obtain ⟨s12, e13, h⟩ := nm_t h
        refine iv_put (D := E.1) (ci := 3) (v := .int (zi (s10.2.2 + 1))) (ty := .int) (ws1 := wO a E s12) (C := RX3) (T := TX3) (N := 3) hx hb hts in_X3_insert_X3 tyX3 tyX3_ok nmX3 hown hK.1 hP hD hS 0 rfl rfl 2 (by decide) (hts _ wd_X3_insert_f18) (fun _ h9 => h9) rfl (by decide +kernel) rfl rfl (Nat.le_of_ble_eq_true rfl) (by rw [e13]; rfl) dX3_insert_76 (fun H locs hP hD hS => ?_)
        cases h
        exact iv_vret hx hb hr hlocks hK hP hD hS dX3_insert_79
      · have h := it_f c6 h
        refine lv_aload_n hx hb dX3_insert_9 rfl (lv_at hl 0 rfl) ?_
        refine va_get (D := E.1) (ci := 3) (v := .ref (a 2)) (C := RX3) (T := TX3) (N := 3) hx hb hts in_X3_insert_X3 hown hK.1 hP 0 rfl rfl 1 (by decide) (hts _ wd_X3_insert_f15) (fun _ h9 => h9) rfl dX3_insert_10 ?_
        refine lv_iload_n hx hb dX3_insert_13 rfl (lv_at hl 3 rfl) ?_
        refine iv_iconst hx hb dX3_insert_14 ?_
        refine iv_isub hx hb dX3_insert_15 ?_
        obtain ⟨g14, h⟩ := gd_t h
        refine iv_iald (f := s4.2.1) (j := (v3 - 1).toNat) hx hb hK.1 hP 2 0 rfl rfl (by decide) g14 rfl dX3_insert_16 ?_
        refine lv_iload_n hx hb dX3_insert_17 rfl (lv_at hl 2 rfl) ?_
        obtain ⟨g15, h⟩ := gd_t h
        obtain ⟨g16, h⟩ := gd_t h
        refine iv_ile (tgt := 55) hx hb g15 g16 dX3_insert_18 (by decide) (fun c17 => ?_) (fun c17 => ?_)
        · have h := it_t c17 h
          refine lv_aload_n hx hb dX3_insert_55 rfl (lv_at hl 0 rfl) ?_
          refine va_get (D := E.1) (ci := 3) (v := .ref (a 1)) (C := RX3) (T := TX3) (N := 3) hx hb hts in_X3_insert_X3 hown hK.1 hP 0 rfl rfl 0 (by decide) (hts _ wd_X3_insert_f9) (fun _ h9 => h9) rfl dX3_insert_56 ?_
          refine lv_iload_n hx hb dX3_insert_59 rfl (lv_at hl 3 rfl) ?_
          refine lv_iload_n hx hb dX3_insert_60 rfl (lv_at hl 1 rfl) ?_
          obtain ⟨g18, h⟩ := gd_t h
          obtain ⟨s19, e20, h⟩ := nm_t h
          refine iv_iast (f := s4.1) (j := v3.toNat) (ws1 := wO a E s19) hx hb hK.1 hP hD hS 1 0 rfl rfl (by decide) g18 rfl (by rw [e20]; rfl) dX3_insert_61 (fun H locs hP hD hS => ?_)
          refine lv_aload_n hx hb dX3_insert_62 rfl (lv_at hl 0 rfl) ?_
          refine va_get (D := E.1) (ci := 3) (v := .ref (a 2)) (C := RX3) (T := TX3) (N := 3) hx hb hts in_X3_insert_X3 hown hK.1 hP 0 rfl rfl 1 (by decide) (hts _ wd_X3_insert_f15) (fun _ h9 => h9) rfl dX3_insert_63 ?_
          refine lv_iload_n hx hb dX3_insert_66 rfl (lv_at hl 3 rfl) ?_
          refine lv_iload_n hx hb dX3_insert_67 rfl (lv_at hl 2 rfl) ?_
          obtain ⟨s21, e22, h⟩ := nm_t h
          refine iv_iast (f := s19.2.1) (j := v3.toNat) (ws1 := wO a E s21) hx hb hK.1 hP hD hS 2 0 rfl rfl (by decide) g18 rfl (by rw [e22]; rfl) dX3_insert_68 (fun H locs hP hD hS => ?_)
          refine lv_aload_n hx hb dX3_insert_69 rfl (lv_at hl 0 rfl) ?_
          refine lv_dup hx hb dX3_insert_70 rfl ?_
          refine va_get (D := E.1) (ci := 3) (v := .int (zi s21.2.2)) (C := RX3) (T := TX3) (N := 3) hx hb hts in_X3_insert_X3 hown hK.1 hP 0 rfl rfl 2 (by decide) (hts _ wd_X3_insert_f18) (fun _ h9 => h9) rfl dX3_insert_71 ?_
          refine iv_iconst hx hb dX3_insert_74 ?_
          refine iv_iadd hx hb dX3_insert_75 ?_
          obtain ⟨s23, e24, h⟩ := nm_t h
          refine iv_put (D := E.1) (ci := 3) (v := .int (zi (s21.2.2 + 1))) (ty := .int) (ws1 := wO a E s23) (C := RX3) (T := TX3) (N := 3) hx hb hts in_X3_insert_X3 tyX3 tyX3_ok nmX3 hown hK.1 hP hD hS 0 rfl rfl 2 (by decide) (hts _ wd_X3_insert_f18) (fun _ h9 => h9) rfl (by decide +kernel) rfl rfl (Nat.le_of_ble_eq_true rfl) (by rw [e24]; rfl) dX3_insert_76 (fun H locs hP hD hS => ?_)
          cases h
          exact iv_vret hx hb hr hlocks hK hP hD hS dX3_insert_79
        · have h := it_f c17 h
          refine lv_aload_n hx hb dX3_insert_21 rfl (lv_at hl 0 rfl) ?_
          refine va_get (D := E.1) (ci := 3) (v := .ref (a 1)) (C := RX3) (T := TX3) (N := 3) hx hb hts in_X3_insert_X3 hown hK.1 hP 0 rfl rfl 0 (by decide) (hts _ wd_X3_insert_f9) (fun _ h9 => h9) rfl dX3_insert_22 ?_
          refine lv_iload_n hx hb dX3_insert_25 rfl (lv_at hl 3 rfl) ?_
          refine lv_aload_n hx hb dX3_insert_26 rfl (lv_at hl 0 rfl) ?_
          refine va_get (D := E.1) (ci := 3) (v := .ref (a 1)) (C := RX3) (T := TX3) (N := 3) hx hb hts in_X3_insert_X3 hown hK.1 hP 0 rfl rfl 0 (by decide) (hts _ wd_X3_insert_f9) (fun _ h9 => h9) rfl dX3_insert_27 ?_
          refine lv_iload_n hx hb dX3_insert_30 rfl (lv_at hl 3 rfl) ?_
          refine iv_iconst hx hb dX3_insert_31 ?_
          refine iv_isub hx hb dX3_insert_32 ?_
          refine iv_iald (f := s4.1) (j := (v3 - 1).toNat) hx hb hK.1 hP 1 0 rfl rfl (by decide) g14 rfl dX3_insert_33 ?_
          obtain ⟨g25, h⟩ := gd_t h
          obtain ⟨s26, e27, h⟩ := nm_t h
          refine iv_iast (f := s4.1) (j := v3.toNat) (ws1 := wO a E s26) hx hb hK.1 hP hD hS 1 0 rfl rfl (by decide) g25 rfl (by rw [e27]; rfl) dX3_insert_34 (fun H locs hP hD hS => ?_)
          refine lv_aload_n hx hb dX3_insert_35 rfl (lv_at hl 0 rfl) ?_
          refine va_get (D := E.1) (ci := 3) (v := .ref (a 2)) (C := RX3) (T := TX3) (N := 3) hx hb hts in_X3_insert_X3 hown hK.1 hP 0 rfl rfl 1 (by decide) (hts _ wd_X3_insert_f15) (fun _ h9 => h9) rfl dX3_insert_36 ?_
          refine lv_iload_n hx hb dX3_insert_39 rfl (lv_at hl 3 rfl) ?_
          refine lv_aload_n hx hb dX3_insert_40 rfl (lv_at hl 0 rfl) ?_
          refine va_get (D := E.1) (ci := 3) (v := .ref (a 2)) (C := RX3) (T := TX3) (N := 3) hx hb hts in_X3_insert_X3 hown hK.1 hP 0 rfl rfl 1 (by decide) (hts _ wd_X3_insert_f15) (fun _ h9 => h9) rfl dX3_insert_41 ?_
          refine lv_iload_n hx hb dX3_insert_44 rfl (lv_at hl 3 rfl) ?_
          refine iv_iconst hx hb dX3_insert_45 ?_
          refine iv_isub hx hb dX3_insert_46 ?_
          refine iv_iald (f := s26.2.1) (j := (v3 - 1).toNat) hx hb hK.1 hP 2 0 rfl rfl (by decide) g14 rfl dX3_insert_47 ?_
          obtain ⟨s28, e29, h⟩ := nm_t h
          refine iv_iast (f := s26.2.1) (j := v3.toNat) (ws1 := wO a E s28) hx hb hK.1 hP hD hS 2 0 rfl rfl (by decide) g25 rfl (by rw [e29]; rfl) dX3_insert_48 (fun H locs hP hD hS => ?_)
          refine lv_iinc (v := zi (v3 + (-1))) (lv' := [(3, .int (zi (v3 + (-1)))), (0, .ref (a 0)), (1, .int (zi v1)), (2, .int (zi v2))]) hx hb dX3_insert_49 hl (k := 3) rfl (by rw [zi_add]; rfl) (by decide) rfl (fun ls hl => ?_)
          refine lv_goto (tgt := 5) hx hb dX3_insert_52 (by decide) ?_
          exact ih v1 v2 (v3 + (-1)) s28 _ _ _ h hP hD hS (lv_sub hl [1, 2, 3, 0] rfl)
  have h := hf
  rw [f_X3_insert] at h
  refine lv_aload_n hx hb dX3_insert_0 rfl (lv_at hl 0 rfl) ?_
  refine va_get (D := E.1) (ci := 3) (v := .int (zi z.2.2)) (C := RX3) (T := TX3) (N := 3) hx hb hts in_X3_insert_X3 hown hK.1 hP 0 rfl rfl 2 (by decide) (hts _ wd_X3_insert_f18) (fun _ h9 => h9) rfl dX3_insert_1 ?_
  refine lv_istore_n (lv' := [(3, .int (zi z.2.2)), (0, .ref (a 0)), (1, .int (zi x1)), (2, .int (zi x2))]) hx hb dX3_insert_4 rfl hl (by decide) rfl (fun ls hl => ?_)
  exact loop5 N x1 x2 z.2.2 z _ _ _ h hP hD hS (lv_sub hl [1, 2, 3, 0] rfl)
set_option maxRecDepth 20000 in
theorem wd_X3_fill_f18 : Cond.fieldLink RX3 18 "ShirtButtons$Order" "count" "I" ∈ wsX3_fill := by decide +kernel
set_option maxRecDepth 20000 in
theorem in_X3_fill_X3 : ∀ w ∈ u_ws RX3 TX3 3, w ∈ wsX3_fill := by decide +kernel
set_option maxRecDepth 20000 in
theorem wd_X3_fill_f22 : Cond.fieldLink RX3 22 "ShirtButtons$State" "buttons" "LShirtButtons$Buttons;" ∈ wsX3_fill := by decide +kernel
set_option maxRecDepth 20000 in
theorem in_X3_fill_X5 : ∀ w ∈ u_ws RX5 TX5 8, w ∈ wsX3_fill := by decide +kernel
set_option maxRecDepth 20000 in
theorem wd_X3_fill_f28 : Cond.fieldLink RX3 28 "ShirtButtons$Buttons" "count" "I" ∈ wsX3_fill := by decide +kernel
set_option maxRecDepth 20000 in
theorem in_X3_fill_X1 : ∀ w ∈ u_ws RX1 TX1 7, w ∈ wsX3_fill := by decide +kernel
set_option maxRecDepth 20000 in
theorem wd_X3_fill_f31 : Cond.fieldLink RX3 31 "ShirtButtons$State" "places" "LShirtButtons$Places;" ∈ wsX3_fill := by decide +kernel
set_option maxRecDepth 20000 in
theorem wd_X3_fill_f35 : Cond.fieldLink RX3 35 "ShirtButtons$Places" "binOf" "[I" ∈ wsX3_fill := by decide +kernel
set_option maxRecDepth 20000 in
theorem in_X3_fill_X4 : ∀ w ∈ u_ws RX4 TX4 6, w ∈ wsX3_fill := by decide +kernel
set_option maxRecDepth 20000 in
theorem wd_X3_fill_f40 : Cond.fieldLink RX3 40 "ShirtButtons$Buttons" "shine" "[I" ∈ wsX3_fill := by decide +kernel
set_option maxHeartbeats 4000000 in
set_option maxRecDepth 100000 in
theorem k_X3_fill (l : Launch) (E : wE) (a b : Nat → Nat) (sz : Nat) (N : Nat) (x2 : Int) (z : bOS) (u : bOS) (hf : f_X3_fill N x2 z = some u) : cV l yX3_fill wsX3_fill { frames := 1, cells := 0, slots := 0, locals := 23 } E sz [.ref (a 0), .ref (b 0), .int (zi x2)] (wOS a b E z) (wOS a b E u) := by
  refine met_go (cc := cX3_fill) (maxL := 4) (ret := none) (Q0 := mQv E (wOS a b E u)) (by decide +kernel) rfl (Nat.le_of_ble_eq_true rfl) ?_
  intro A p e s m below meth c hx hb hr hml hts hown hlocks hP hK hD hA hS ls hl
  have hl : lv_has ls 4 [(0, .ref (a 0)), (1, .ref (b 0)), (2, .int (zi x2))] := hl
  generalize hH : s.heap = H at hP
  have hS : va_S A s.heap H [] := by rw [← hH]; exact hS
  have hown : s.vm.findClass RX3 = some m.cls := hown
  have loop7 : ∀ (n : Nat) (v3 v4 : Int) (s5 : bOS) (H : Heap) (locs : List Loc) (ls : Array Slot), f_X3_fill_L7 N n v3 v4 s5 = some u → va_P E.1 vwCl (wOS a b E s5) H → va_D A (wOS a b E s5) → va_S A s.heap H locs → lv_has ls 4 [(0, .ref (a 0)), (1, .ref (b 0)), (2, .int (zi v3)), (3, .int (zi v4))] → W p l e ({ frames := 1, cells := 0, slots := 0, locals := 23 }) s m ([.ref (a 0), .ref (b 0), .int (zi x2)] : List Value).toArray below meth c H locs 0 0 (MQ below (mQv E (wOS a b E u) A) ([.ref (a 0), .ref (b 0), .int (zi x2)] : List Value).toArray s 0 0 A) (F0 m 7 ls []) := by
    intro n
    induction n with
    | zero =>
      intro v3 v4 s5 H locs ls h
      exact absurd (show (none : Option bOS) = some u from h) (by simp)
    | succ n ih =>
      intro v3 v4 s5 H locs ls h hP hD hS hl
      rw [f_X3_fill_L7] at h
      refine lv_iload_n hx hb dX3_fill_7 rfl (lv_at hl 3 rfl) ?_
      refine iv_bipush hx hb dX3_fill_8 (by decide +kernel) ?_
      obtain ⟨g6, h⟩ := gd_t h
      refine iv_ige (tgt := 57) hx hb g6 (by decide +kernel) dX3_fill_10 (by decide) (fun c7 => ?_) (fun c7 => ?_)
      · have h := it_t c7 h
        cases h
        exact iv_vret hx hb hr hlocks hK hP hD hS dX3_fill_57
      · have h := it_f c7 h
        refine lv_iload_n hx hb dX3_fill_13 rfl (lv_at hl 3 rfl) ?_
        refine lv_aload_n hx hb dX3_fill_14 rfl (lv_at hl 1 rfl) ?_
        refine va_get (D := E.1) (ci := 5) (v := .ref (b 1)) (C := RX5) (T := TX5) (N := 8) hx hb hts in_X3_fill_X5 hown hK.1 hP 3 rfl rfl 0 (by decide) (hts _ wd_X3_fill_f22) (fun _ h9 => h9) rfl dX3_fill_15 ?_
        refine va_get (D := E.1) (ci := 1) (v := .int (zi s5.2.1.2.2.2.2.2.2)) (C := RX1) (T := TX1) (N := 7) hx hb hts in_X3_fill_X1 hown hK.1 hP 4 rfl rfl 6 (by decide) (hts _ wd_X3_fill_f28) (fun _ h9 => h9) rfl dX3_fill_18 ?_
        obtain ⟨g8, h⟩ := gd_t h
        refine iv_ige (tgt := 57) hx hb g6 g8 dX3_fill_21 (by decide) (fun c9 => ?_) (fun c9 => ?_)
        · have h := it_t c9 h
          cases h
          exact iv_vret hx hb hr hlocks hK hP hD hS dX3_fill_57
        · have h := it_f c9 h
          refine lv_aload_n hx hb dX3_fill_24 rfl (lv_at hl 1 rfl) ?_
          refine va_get (D := E.1) (ci := 5) (v := .ref (b 8)) (C := RX5) (T := TX5) (N := 8) hx hb hts in_X3_fill_X5 hown hK.1 hP 3 rfl rfl 1 (by decide) (hts _ wd_X3_fill_f31) (fun _ h9 => h9) rfl dX3_fill_25 ?_
          refine va_get (D := E.1) (ci := 4) (v := .ref (b 10)) (C := RX4) (T := TX4) (N := 6) hx hb hts in_X3_fill_X4 hown hK.1 hP 11 rfl rfl 1 (by decide) (hts _ wd_X3_fill_f35) (fun _ h9 => h9) rfl dX3_fill_28 ?_
          refine lv_iload_n hx hb dX3_fill_31 rfl (lv_at hl 3 rfl) ?_
          obtain ⟨g10, h⟩ := gd_t h
          refine iv_iald (f := s5.2.2.1.2.1) (j := v4.toNat) hx hb hK.1 hP 13 0 rfl rfl (by decide) g10 rfl dX3_fill_32 ?_
          refine lv_iload_n hx hb dX3_fill_33 rfl (lv_at hl 2 rfl) ?_
          obtain ⟨g11, h⟩ := gd_t h
          obtain ⟨g12, h⟩ := gd_t h
          refine iv_ine (tgt := 51) hx hb g11 g12 dX3_fill_34 (by decide) (fun c13 => ?_) (fun c13 => ?_)
          · have h := it_f c13 h
            refine lv_iinc (v := zi (v4 + 1)) (lv' := [(3, .int (zi (v4 + 1))), (0, .ref (a 0)), (1, .ref (b 0)), (2, .int (zi v3))]) hx hb dX3_fill_51 hl (k := 3) rfl (by rw [zi_add]; rfl) (by decide) rfl (fun ls hl => ?_)
            refine lv_goto (tgt := 7) hx hb dX3_fill_54 (by decide) ?_
            exact ih v3 (v4 + 1) s5 _ _ _ h hP hD hS (lv_sub hl [1, 2, 3, 0] rfl)
          · have h := it_t c13 h
            refine lv_aload_n hx hb dX3_fill_37 rfl (lv_at hl 0 rfl) ?_
            refine lv_iload_n hx hb dX3_fill_38 rfl (lv_at hl 3 rfl) ?_
            refine lv_aload_n hx hb dX3_fill_39 rfl (lv_at hl 1 rfl) ?_
            refine va_get (D := E.1) (ci := 5) (v := .ref (b 1)) (C := RX5) (T := TX5) (N := 8) hx hb hts in_X3_fill_X5 hown hK.1 hP 3 rfl rfl 0 (by decide) (hts _ wd_X3_fill_f22) (fun _ h9 => h9) rfl dX3_fill_40 ?_
            refine va_get (D := E.1) (ci := 1) (v := .ref (b 6)) (C := RX1) (T := TX1) (N := 7) hx hb hts in_X3_fill_X1 hown hK.1 hP 4 rfl rfl 4 (by decide) (hts _ wd_X3_fill_f40) (fun _ h9 => h9) rfl dX3_fill_43 ?_
            refine lv_iload_n hx hb dX3_fill_46 rfl (lv_at hl 3 rfl) ?_
            refine iv_iald (f := s5.2.1.2.2.2.2.1) (j := v4.toNat) hx hb hK.1 hP 9 0 rfl rfl (by decide) g10 rfl dX3_fill_47 ?_
            obtain ⟨u14, q15, h⟩ := bd_t h
            obtain ⟨s16, e17, h⟩ := nm_t h
            refine iv_callVp (As := [.int (zi v4), .int (zi (s5.2.1.2.2.2.2.1 v4.toNat))]) (rest := []) (ws1 := wOS a b E s16) ⟨hx, hb, hml, hown, hts⟩ (k_X3_insert l E a H.size N v4 (s5.2.1.2.2.2.2.1 v4.toNat) s5.1 u14 q15) (cwV 2 hts gX3_fill_X3_insert rfl rfl rfl (by decide +kernel) ⟨Nat.le_of_ble_eq_true rfl, Nat.le_of_ble_eq_true rfl⟩) hK hP hD hS hA 0 3 rfl rfl (pm_last) (by rw [e17]; exact pm_last) rfl hl.1 (Nat.le_of_ble_eq_true rfl) ⟨Nat.zero_le _, Nat.zero_le _⟩ dX3_fill_48 (fun H locs hP hD hS => ?_)
            refine lv_iinc (v := zi (v4 + 1)) (lv' := [(3, .int (zi (v4 + 1))), (0, .ref (a 0)), (1, .ref (b 0)), (2, .int (zi v3))]) hx hb dX3_fill_51 hl (k := 3) rfl (by rw [zi_add]; rfl) (by decide) rfl (fun ls hl => ?_)
            refine lv_goto (tgt := 7) hx hb dX3_fill_54 (by decide) ?_
            exact ih v3 (v4 + 1) s16 _ _ _ h hP hD hS (lv_sub hl [1, 2, 3, 0] rfl)
  have h := hf
  rw [f_X3_fill] at h
  refine lv_aload_n hx hb dX3_fill_0 rfl (lv_at hl 0 rfl) ?_
  refine iv_iconst hx hb dX3_fill_1 ?_
  obtain ⟨s1, e2, h⟩ := nm_t h
  refine iv_put (D := E.1) (ci := 3) (v := .int (zi 0)) (ty := .int) (ws1 := wOS a b E s1) (C := RX3) (T := TX3) (N := 3) hx hb hts in_X3_fill_X3 tyX3 tyX3_ok nmX3 hown hK.1 hP hD hS 0 rfl rfl 2 (by decide) (hts _ wd_X3_fill_f18) (fun _ h9 => h9) rfl (by decide +kernel) rfl rfl (Nat.le_of_ble_eq_true rfl) (by rw [e2]; rfl) dX3_fill_2 (fun H locs hP hD hS => ?_)
  refine iv_iconst hx hb dX3_fill_5 ?_
  refine lv_istore_n (lv' := [(3, .int (zi 0)), (0, .ref (a 0)), (1, .ref (b 0)), (2, .int (zi x2))]) hx hb dX3_fill_6 rfl hl (by decide) rfl (fun ls hl => ?_)
  exact loop7 N x2 0 s1 _ _ _ h hP hD hS (lv_sub hl [1, 2, 3, 0] rfl)
set_option maxRecDepth 20000 in
theorem wd_X3_spreadFrom_f15 : Cond.fieldLink RX3 15 "ShirtButtons$Order" "shine" "[I" ∈ wsX3_spreadFrom := by decide +kernel
set_option maxRecDepth 20000 in
theorem in_X3_spreadFrom_X3 : ∀ w ∈ u_ws RX3 TX3 3, w ∈ wsX3_spreadFrom := by decide +kernel
set_option maxHeartbeats 4000000 in
set_option maxRecDepth 100000 in
theorem k_X3_spreadFrom (l : Launch) (E : wE) (a : Nat → Nat) (sz : Nat) (x1 x2 : Int) (z : bO) (u : (Int × bO)) (hf : f_X3_spreadFrom x1 x2 z = some u) : cI l yX3_spreadFrom wsX3_spreadFrom { frames := 0, cells := 0, slots := 0, locals := 0 } E sz [.ref (a 0), .int (zi x1), .int (zi x2)] (wO a E z) (wO a E u.2) u.1 := by
  refine met_go (cc := cX3_spreadFrom) (maxL := 3) (ret := (some .int)) (Q0 := mQi E (wO a E u.2) u.1) (by decide +kernel) rfl (Nat.le_of_ble_eq_true rfl) ?_
  intro A p e s m below meth c hx hb hr hml hts hown hlocks hP hK hD hA hS ls hl
  have hl : lv_has ls 3 [(0, .ref (a 0)), (1, .int (zi x1)), (2, .int (zi x2))] := hl
  generalize hH : s.heap = H at hP
  have hS : va_S A s.heap H [] := by rw [← hH]; exact hS
  have hown : s.vm.findClass RX3 = some m.cls := hown
  have h := hf
  rw [f_X3_spreadFrom] at h
  refine lv_aload_n hx hb dX3_spreadFrom_0 rfl (lv_at hl 0 rfl) ?_
  refine va_get (D := E.1) (ci := 3) (v := .ref (a 2)) (C := RX3) (T := TX3) (N := 3) hx hb hts in_X3_spreadFrom_X3 hown hK.1 hP 0 rfl rfl 1 (by decide) (hts _ wd_X3_spreadFrom_f15) (fun _ h9 => h9) rfl dX3_spreadFrom_1 ?_
  refine lv_iload_n hx hb dX3_spreadFrom_4 rfl (lv_at hl 1 rfl) ?_
  refine lv_iload_n hx hb dX3_spreadFrom_5 rfl (lv_at hl 2 rfl) ?_
  refine iv_iadd hx hb dX3_spreadFrom_6 ?_
  refine iv_iconst hx hb dX3_spreadFrom_7 ?_
  refine iv_isub hx hb dX3_spreadFrom_8 ?_
  obtain ⟨g1, h⟩ := gd_t h
  refine iv_iald (f := z.2.1) (j := ((x1 + x2) - 1).toNat) hx hb hK.1 hP 2 0 rfl rfl (by decide) g1 rfl dX3_spreadFrom_9 ?_
  refine lv_aload_n hx hb dX3_spreadFrom_10 rfl (lv_at hl 0 rfl) ?_
  refine va_get (D := E.1) (ci := 3) (v := .ref (a 2)) (C := RX3) (T := TX3) (N := 3) hx hb hts in_X3_spreadFrom_X3 hown hK.1 hP 0 rfl rfl 1 (by decide) (hts _ wd_X3_spreadFrom_f15) (fun _ h9 => h9) rfl dX3_spreadFrom_11 ?_
  refine lv_iload_n hx hb dX3_spreadFrom_14 rfl (lv_at hl 1 rfl) ?_
  obtain ⟨g2, h⟩ := gd_t h
  refine iv_iald (f := z.2.1) (j := x1.toNat) hx hb hK.1 hP 2 0 rfl rfl (by decide) g2 rfl dX3_spreadFrom_15 ?_
  refine iv_isub hx hb dX3_spreadFrom_16 ?_
  cases h
  exact iv_iret hx hb hr hlocks hK hP hD hS dX3_spreadFrom_17
set_option maxRecDepth 20000 in
theorem wd_X3_firstAlike_f18 : Cond.fieldLink RX3 18 "ShirtButtons$Order" "count" "I" ∈ wsX3_firstAlike := by decide +kernel
set_option maxRecDepth 20000 in
theorem in_X3_firstAlike_X3 : ∀ w ∈ u_ws RX3 TX3 3, w ∈ wsX3_firstAlike := by decide +kernel
set_option maxHeartbeats 4000000 in
set_option maxRecDepth 100000 in
theorem k_X3_firstAlike (l : Launch) (E : wE) (a : Nat → Nat) (sz : Nat) (N : Nat) (x1 x2 : Int) (z : bO) (u : (Int × bO)) (hf : f_X3_firstAlike N x1 x2 z = some u) : cI l yX3_firstAlike wsX3_firstAlike { frames := 1, cells := 0, slots := 0, locals := 22 } E sz [.ref (a 0), .int (zi x1), .int (zi x2)] (wO a E z) (wO a E u.2) u.1 := by
  refine met_go (cc := cX3_firstAlike) (maxL := 4) (ret := (some .int)) (Q0 := mQi E (wO a E u.2) u.1) (by decide +kernel) rfl (Nat.le_of_ble_eq_true rfl) ?_
  intro A p e s m below meth c hx hb hr hml hts hown hlocks hP hK hD hA hS ls hl
  have hl : lv_has ls 4 [(0, .ref (a 0)), (1, .int (zi x1)), (2, .int (zi x2))] := hl
  generalize hH : s.heap = H at hP
  have hS : va_S A s.heap H [] := by rw [← hH]; exact hS
  have hown : s.vm.findClass RX3 = some m.cls := hown
  have loop2 : ∀ (n : Nat) (v1 v2 v3 : Int) (s4 : bO) (H : Heap) (locs : List Loc) (ls : Array Slot), f_X3_firstAlike_L2 N n v1 v2 v3 s4 = some u → va_P E.1 vwCl (wO a E s4) H → va_D A (wO a E s4) → va_S A s.heap H locs → lv_has ls 4 [(0, .ref (a 0)), (1, .int (zi v1)), (2, .int (zi v2)), (3, .int (zi v3))] → W p l e ({ frames := 1, cells := 0, slots := 0, locals := 22 }) s m ([.ref (a 0), .int (zi x1), .int (zi x2)] : List Value).toArray below meth c H locs 0 0 (MQ below (mQi E (wO a E u.2) u.1 A) ([.ref (a 0), .int (zi x1), .int (zi x2)] : List Value).toArray s 0 0 A) (F0 m 2 ls []) := by
    intro n
    induction n with
    | zero =>
      intro v1 v2 v3 s4 H locs ls h
      exact absurd (show (none : Option (Int × bO)) = some u from h) (by simp)
    | succ n ih =>
      intro v1 v2 v3 s4 H locs ls h hP hD hS hl
      rw [f_X3_firstAlike_L2] at h
      refine lv_iload_n hx hb dX3_firstAlike_2 rfl (lv_at hl 3 rfl) ?_
      refine lv_iload_n hx hb dX3_firstAlike_3 rfl (lv_at hl 1 rfl) ?_
      refine iv_iadd hx hb dX3_firstAlike_4 ?_
      refine lv_aload_n hx hb dX3_firstAlike_5 rfl (lv_at hl 0 rfl) ?_
      refine va_get (D := E.1) (ci := 3) (v := .int (zi s4.2.2)) (C := RX3) (T := TX3) (N := 3) hx hb hts in_X3_firstAlike_X3 hown hK.1 hP 0 rfl rfl 2 (by decide) (hts _ wd_X3_firstAlike_f18) (fun _ h9 => h9) rfl dX3_firstAlike_6 ?_
      obtain ⟨g5, h⟩ := gd_t h
      obtain ⟨g6, h⟩ := gd_t h
      refine iv_igt (tgt := 30) hx hb g5 g6 dX3_firstAlike_9 (by decide) (fun c7 => ?_) (fun c7 => ?_)
      · have h := it_t c7 h
        refine iv_iconst hx hb dX3_firstAlike_30 ?_
        cases h
        exact iv_iret hx hb hr hlocks hK hP hD hS dX3_firstAlike_31
      · have h := it_f c7 h
        refine lv_aload_n hx hb dX3_firstAlike_12 rfl (lv_at hl 0 rfl) ?_
        refine lv_iload_n hx hb dX3_firstAlike_13 rfl (lv_at hl 3 rfl) ?_
        refine lv_iload_n hx hb dX3_firstAlike_14 rfl (lv_at hl 1 rfl) ?_
        obtain ⟨u8, q9, h⟩ := bd_t h
        refine iv_callIf (As := [.int (zi v3), .int (zi v1)]) (rest := []) ⟨hx, hb, hml, hown, hts⟩ (k_X3_spreadFrom l E a H.size v3 v1 s4 u8 q9) (cwV 2 hts gX3_firstAlike_X3_spreadFrom rfl rfl rfl (by decide +kernel) ⟨Nat.le_of_ble_eq_true rfl, Nat.le_of_ble_eq_true rfl⟩) hK hP hD hS hA 0 3 rfl rfl rfl hl.1 (Nat.le_of_ble_eq_true rfl) ⟨Nat.zero_le _, Nat.zero_le _⟩ dX3_firstAlike_15 (fun H locs hP hD hS => ?_)
        refine lv_iload_n hx hb dX3_firstAlike_18 rfl (lv_at hl 2 rfl) ?_
        obtain ⟨g10, h⟩ := gd_t h
        obtain ⟨g11, h⟩ := gd_t h
        refine iv_igt (tgt := 24) hx hb g10 g11 dX3_firstAlike_19 (by decide) (fun c12 => ?_) (fun c12 => ?_)
        · have h := it_t c12 h
          refine lv_iinc (v := zi (v3 + 1)) (lv' := [(3, .int (zi (v3 + 1))), (0, .ref (a 0)), (1, .int (zi v1)), (2, .int (zi v2))]) hx hb dX3_firstAlike_24 hl (k := 3) rfl (by rw [zi_add]; rfl) (by decide) rfl (fun ls hl => ?_)
          refine lv_goto (tgt := 2) hx hb dX3_firstAlike_27 (by decide) ?_
          exact ih v1 v2 (v3 + 1) u8.2 _ _ _ h hP hD hS (lv_sub hl [1, 2, 3, 0] rfl)
        · have h := it_f c12 h
          refine lv_iload_n hx hb dX3_firstAlike_22 rfl (lv_at hl 3 rfl) ?_
          cases h
          exact iv_iret hx hb hr hlocks hK hP hD hS dX3_firstAlike_23
  have h := hf
  rw [f_X3_firstAlike] at h
  refine iv_iconst hx hb dX3_firstAlike_0 ?_
  refine lv_istore_n (lv' := [(3, .int (zi 0)), (0, .ref (a 0)), (1, .int (zi x1)), (2, .int (zi x2))]) hx hb dX3_firstAlike_1 rfl hl (by decide) rfl (fun ls hl => ?_)
  exact loop2 N x1 x2 0 z _ _ _ h hP hD hS (lv_sub hl [1, 2, 3, 0] rfl)
set_option maxRecDepth 20000 in
theorem wd_X3_narrowest_f18 : Cond.fieldLink RX3 18 "ShirtButtons$Order" "count" "I" ∈ wsX3_narrowest := by decide +kernel
set_option maxRecDepth 20000 in
theorem in_X3_narrowest_X3 : ∀ w ∈ u_ws RX3 TX3 3, w ∈ wsX3_narrowest := by decide +kernel
set_option maxRecDepth 20000 in
theorem wd_X3_narrowest_m49 : Cond.methodLink RX3 49 Lib.Math.min.name ∈ wsX3_narrowest := by decide +kernel
set_option maxRecDepth 20000 in
theorem wd_X3_narrowest_mins : Cond.static Lib.Math.min.name ∈ wsX3_narrowest := by decide +kernel
set_option maxRecDepth 20000 in
theorem wd_X3_narrowest_mini : Cond.initialized "java/lang/Math" ∈ wsX3_narrowest := by decide +kernel
set_option maxRecDepth 20000 in
theorem wd_X3_narrowest_minc : Cond.code Lib.Math.min.name Lib.Math.min.code 2 (some .int) ∈ wsX3_narrowest := by decide +kernel
set_option maxHeartbeats 4000000 in
set_option maxRecDepth 100000 in
theorem k_X3_narrowest (l : Launch) (E : wE) (a : Nat → Nat) (sz : Nat) (N : Nat) (x1 : Int) (z : bO) (u : (Int × bO)) (hf : f_X3_narrowest N x1 z = some u) : cI l yX3_narrowest wsX3_narrowest { frames := 1, cells := 0, slots := 0, locals := 24 } E sz [.ref (a 0), .int (zi x1)] (wO a E z) (wO a E u.2) u.1 := by
  refine met_go (cc := cX3_narrowest) (maxL := 4) (ret := (some .int)) (Q0 := mQi E (wO a E u.2) u.1) (by decide +kernel) rfl (Nat.le_of_ble_eq_true rfl) ?_
  intro A p e s m below meth c hx hb hr hml hts hown hlocks hP hK hD hA hS ls hl
  have hl : lv_has ls 4 [(0, .ref (a 0)), (1, .int (zi x1))] := hl
  generalize hH : s.heap = H at hP
  have hS : va_S A s.heap H [] := by rw [← hH]; exact hS
  have hown : s.vm.findClass RX3 = some m.cls := hown
  have loop5 : ∀ (n : Nat) (v1 v2 v3 : Int) (s4 : bO) (H : Heap) (locs : List Loc) (ls : Array Slot), f_X3_narrowest_L5 N n v1 v2 v3 s4 = some u → va_P E.1 vwCl (wO a E s4) H → va_D A (wO a E s4) → va_S A s.heap H locs → lv_has ls 4 [(0, .ref (a 0)), (1, .int (zi v1)), (2, .int (zi v2)), (3, .int (zi v3))] → W p l e ({ frames := 1, cells := 0, slots := 0, locals := 24 }) s m ([.ref (a 0), .int (zi x1)] : List Value).toArray below meth c H locs 0 0 (MQ below (mQi E (wO a E u.2) u.1 A) ([.ref (a 0), .int (zi x1)] : List Value).toArray s 0 0 A) (F0 m 5 ls []) := by
    intro n
    induction n with
    | zero =>
      intro v1 v2 v3 s4 H locs ls h
      exact absurd (show (none : Option (Int × bO)) = some u from h) (by simp)
    | succ n ih =>
      intro v1 v2 v3 s4 H locs ls h hP hD hS hl
      rw [f_X3_narrowest_L5] at h
      refine lv_iload_n hx hb dX3_narrowest_5 rfl (lv_at hl 3 rfl) ?_
      refine lv_iload_n hx hb dX3_narrowest_6 rfl (lv_at hl 1 rfl) ?_
      refine iv_iadd hx hb dX3_narrowest_7 ?_
      refine lv_aload_n hx hb dX3_narrowest_8 rfl (lv_at hl 0 rfl) ?_
      refine va_get (D := E.1) (ci := 3) (v := .int (zi s4.2.2)) (C := RX3) (T := TX3) (N := 3) hx hb hts in_X3_narrowest_X3 hown hK.1 hP 0 rfl rfl 2 (by decide) (hts _ wd_X3_narrowest_f18) (fun _ h9 => h9) rfl dX3_narrowest_9 ?_
      obtain ⟨g5, h⟩ := gd_t h
      obtain ⟨g6, h⟩ := gd_t h
      refine iv_igt (tgt := 32) hx hb g5 g6 dX3_narrowest_12 (by decide) (fun c7 => ?_) (fun c7 => ?_)
      · have h := it_t c7 h
        refine lv_iload_n hx hb dX3_narrowest_32 rfl (lv_at hl 2 rfl) ?_
        cases h
        exact iv_iret hx hb hr hlocks hK hP hD hS dX3_narrowest_33
      · have h := it_f c7 h
        refine lv_iload_n hx hb dX3_narrowest_15 rfl (lv_at hl 2 rfl) ?_
        refine lv_aload_n hx hb dX3_narrowest_16 rfl (lv_at hl 0 rfl) ?_
        refine lv_iload_n hx hb dX3_narrowest_17 rfl (lv_at hl 3 rfl) ?_
        refine lv_iload_n hx hb dX3_narrowest_18 rfl (lv_at hl 1 rfl) ?_
        obtain ⟨u8, q9, h⟩ := bd_t h
        refine iv_callIf (As := [.int (zi v3), .int (zi v1)]) (rest := [.int (zi v2)]) ⟨hx, hb, hml, hown, hts⟩ (k_X3_spreadFrom l E a H.size v3 v1 s4 u8 q9) (cwV 2 hts gX3_narrowest_X3_spreadFrom rfl rfl rfl (by decide +kernel) ⟨Nat.le_of_ble_eq_true rfl, Nat.le_of_ble_eq_true rfl⟩) hK hP hD hS hA 0 3 rfl rfl rfl hl.1 (Nat.le_of_ble_eq_true rfl) ⟨Nat.zero_le _, Nat.zero_le _⟩ dX3_narrowest_19 (fun H locs hP hD hS => ?_)
        obtain ⟨g10, h⟩ := gd_t h
        obtain ⟨g11, h⟩ := gd_t h
        refine iv_min hx hb (hml.trans hl.1.symm) hown (hts _ wd_X3_narrowest_m49) (hts _ wd_X3_narrowest_mins) (hts _ wd_X3_narrowest_mini) (hts _ wd_X3_narrowest_minc) (by decide) (Nat.le_of_ble_eq_true rfl) (Nat.zero_le _) (Nat.zero_le _) g10 g11 dX3_narrowest_22 ?_
        obtain ⟨v12, e13, h⟩ := nm_t h
        refine iv_nm e13 ?_
        refine lv_istore_n (lv' := [(2, .int (zi v12)), (0, .ref (a 0)), (1, .int (zi v1)), (3, .int (zi v3))]) hx hb dX3_narrowest_25 rfl hl (by decide) rfl (fun ls hl => ?_)
        refine lv_iinc (v := zi (v3 + 1)) (lv' := [(3, .int (zi (v3 + 1))), (2, .int (zi v12)), (0, .ref (a 0)), (1, .int (zi v1))]) hx hb dX3_narrowest_26 hl (k := 3) rfl (by rw [zi_add]; rfl) (by decide) rfl (fun ls hl => ?_)
        refine lv_goto (tgt := 5) hx hb dX3_narrowest_29 (by decide) ?_
        exact ih v1 v12 (v3 + 1) u8.2 _ _ _ h hP hD hS (lv_sub hl [2, 3, 1, 0] rfl)
  have h := hf
  rw [f_X3_narrowest] at h
  refine iv_bipush hx hb dX3_narrowest_0 (by decide +kernel) ?_
  refine lv_istore_n (lv' := [(2, .int (zi 9)), (0, .ref (a 0)), (1, .int (zi x1))]) hx hb dX3_narrowest_2 rfl hl (by decide) rfl (fun ls hl => ?_)
  refine iv_iconst hx hb dX3_narrowest_3 ?_
  refine lv_istore_n (lv' := [(3, .int (zi 0)), (2, .int (zi 9)), (0, .ref (a 0)), (1, .int (zi x1))]) hx hb dX3_narrowest_4 rfl hl (by decide) rfl (fun ls hl => ?_)
  exact loop5 N x1 9 0 z _ _ _ h hP hD hS (lv_sub hl [2, 3, 1, 0] rfl)
set_option maxHeartbeats 4000000 in
set_option maxRecDepth 100000 in
theorem k_X3_mostAlike (l : Launch) (E : wE) (a : Nat → Nat) (sz : Nat) (N : Nat) (x1 : Int) (z : bO) (u : (Int × bO)) (hf : f_X3_mostAlike N x1 z = some u) : cI l yX3_mostAlike wsX3_mostAlike { frames := 2, cells := 0, slots := 0, locals := 45 } E sz [.ref (a 0), .int (zi x1)] (wO a E z) (wO a E u.2) u.1 := by
  refine met_go (cc := cX3_mostAlike) (maxL := 3) (ret := (some .int)) (Q0 := mQi E (wO a E u.2) u.1) (by decide +kernel) rfl (Nat.le_of_ble_eq_true rfl) ?_
  intro A p e s m below meth c hx hb hr hml hts hown hlocks hP hK hD hA hS ls hl
  have hl : lv_has ls 3 [(0, .ref (a 0)), (1, .int (zi x1))] := hl
  generalize hH : s.heap = H at hP
  have hS : va_S A s.heap H [] := by rw [← hH]; exact hS
  have hown : s.vm.findClass RX3 = some m.cls := hown
  have loop3 : ∀ (n : Nat) (v1 v2 : Int) (s3 : bO) (H : Heap) (locs : List Loc) (ls : Array Slot), f_X3_mostAlike_L3 N n v1 v2 s3 = some u → va_P E.1 vwCl (wO a E s3) H → va_D A (wO a E s3) → va_S A s.heap H locs → lv_has ls 3 [(0, .ref (a 0)), (1, .int (zi v1)), (2, .int (zi v2))] → W p l e ({ frames := 2, cells := 0, slots := 0, locals := 45 }) s m ([.ref (a 0), .int (zi x1)] : List Value).toArray below meth c H locs 0 0 (MQ below (mQi E (wO a E u.2) u.1 A) ([.ref (a 0), .int (zi x1)] : List Value).toArray s 0 0 A) (F0 m 3 ls []) := by
    intro n
    induction n with
    | zero =>
      intro v1 v2 s3 H locs ls h
      exact absurd (show (none : Option (Int × bO)) = some u from h) (by simp)
    | succ n ih =>
      intro v1 v2 s3 H locs ls h hP hD hS hl
      rw [f_X3_mostAlike_L3] at h
      refine lv_iload_n hx hb dX3_mostAlike_3 rfl (lv_at hl 2 rfl) ?_
      obtain ⟨g4, h⟩ := gd_t h
      refine iv_le (tgt := 24) hx hb g4 dX3_mostAlike_4 (by decide) (fun c5 => ?_) (fun c5 => ?_)
      · have h := it_t c5 h
        refine iv_iconst hx hb dX3_mostAlike_24 ?_
        cases h
        exact iv_iret hx hb hr hlocks hK hP hD hS dX3_mostAlike_25
      · have h := it_f c5 h
        refine lv_aload_n hx hb dX3_mostAlike_7 rfl (lv_at hl 0 rfl) ?_
        refine lv_iload_n hx hb dX3_mostAlike_8 rfl (lv_at hl 2 rfl) ?_
        refine lv_iload_n hx hb dX3_mostAlike_9 rfl (lv_at hl 1 rfl) ?_
        obtain ⟨u6, q7, h⟩ := bd_t h
        refine iv_callIf (As := [.int (zi v2), .int (zi v1)]) (rest := []) ⟨hx, hb, hml, hown, hts⟩ (k_X3_firstAlike l E a H.size N v2 v1 s3 u6 q7) (cwV 2 hts gX3_mostAlike_X3_firstAlike rfl rfl rfl (by decide +kernel) ⟨Nat.le_of_ble_eq_true rfl, Nat.le_of_ble_eq_true rfl⟩) hK hP hD hS hA 0 3 rfl rfl rfl hl.1 (Nat.le_of_ble_eq_true rfl) ⟨Nat.zero_le _, Nat.zero_le _⟩ dX3_mostAlike_10 (fun H locs hP hD hS => ?_)
        obtain ⟨g8, h⟩ := gd_t h
        refine iv_lt (tgt := 18) hx hb g8 dX3_mostAlike_13 (by decide) (fun c9 => ?_) (fun c9 => ?_)
        · have h := it_t c9 h
          refine lv_iinc (v := zi (v2 + (-1))) (lv' := [(2, .int (zi (v2 + (-1)))), (0, .ref (a 0)), (1, .int (zi v1))]) hx hb dX3_mostAlike_18 hl (k := 2) rfl (by rw [zi_add]; rfl) (by decide) rfl (fun ls hl => ?_)
          refine lv_goto (tgt := 3) hx hb dX3_mostAlike_21 (by decide) ?_
          exact ih v1 (v2 + (-1)) u6.2 _ _ _ h hP hD hS (lv_sub hl [1, 2, 0] rfl)
        · have h := it_f c9 h
          refine lv_iload_n hx hb dX3_mostAlike_16 rfl (lv_at hl 2 rfl) ?_
          cases h
          exact iv_iret hx hb hr hlocks hK hP hD hS dX3_mostAlike_17
  have h := hf
  rw [f_X3_mostAlike] at h
  refine iv_bipush hx hb dX3_mostAlike_0 (by decide +kernel) ?_
  refine lv_istore_n (lv' := [(2, .int (zi 9)), (0, .ref (a 0)), (1, .int (zi x1))]) hx hb dX3_mostAlike_2 rfl hl (by decide) rfl (fun ls hl => ?_)
  exact loop3 N x1 9 z _ _ _ h hP hD hS (lv_sub hl [1, 2, 0] rfl)
set_option maxRecDepth 20000 in
theorem wd_X3_groups_f18 : Cond.fieldLink RX3 18 "ShirtButtons$Order" "count" "I" ∈ wsX3_groups := by decide +kernel
set_option maxRecDepth 20000 in
theorem in_X3_groups_X3 : ∀ w ∈ u_ws RX3 TX3 3, w ∈ wsX3_groups := by decide +kernel
set_option maxHeartbeats 4000000 in
set_option maxRecDepth 100000 in
theorem k_X3_groups (l : Launch) (E : wE) (a : Nat → Nat) (sz : Nat) (N : Nat) (x1 x2 : Int) (z : bO) (u : (Int × bO)) (hf : f_X3_groups N x1 x2 z = some u) : cI l yX3_groups wsX3_groups { frames := 1, cells := 0, slots := 0, locals := 22 } E sz [.ref (a 0), .int (zi x1), .int (zi x2)] (wO a E z) (wO a E u.2) u.1 := by
  refine met_go (cc := cX3_groups) (maxL := 6) (ret := (some .int)) (Q0 := mQi E (wO a E u.2) u.1) (by decide +kernel) rfl (Nat.le_of_ble_eq_true rfl) ?_
  intro A p e s m below meth c hx hb hr hml hts hown hlocks hP hK hD hA hS ls hl
  have hl : lv_has ls 6 [(0, .ref (a 0)), (1, .int (zi x1)), (2, .int (zi x2))] := hl
  generalize hH : s.heap = H at hP
  have hS : va_S A s.heap H [] := by rw [← hH]; exact hS
  have hown : s.vm.findClass RX3 = some m.cls := hown
  have loop8 : ∀ (n : Nat) (v1 v2 v3 v4 v5 : Int) (s6 : bO) (H : Heap) (locs : List Loc) (ls : Array Slot), f_X3_groups_L8 N n v1 v2 v3 v4 v5 s6 = some u → va_P E.1 vwCl (wO a E s6) H → va_D A (wO a E s6) → va_S A s.heap H locs → lv_has ls 6 [(0, .ref (a 0)), (1, .int (zi v1)), (2, .int (zi v2)), (3, .int (zi v3)), (4, .int (zi v4)), (5, .int (zi v5))] → W p l e ({ frames := 1, cells := 0, slots := 0, locals := 22 }) s m ([.ref (a 0), .int (zi x1), .int (zi x2)] : List Value).toArray below meth c H locs 0 0 (MQ below (mQi E (wO a E u.2) u.1 A) ([.ref (a 0), .int (zi x1), .int (zi x2)] : List Value).toArray s 0 0 A) (F0 m 8 ls []) := by
    intro n
    induction n with
    | zero =>
      intro v1 v2 v3 v4 v5 s6 H locs ls h
      exact absurd (show (none : Option (Int × bO)) = some u from h) (by simp)
    | succ n ih =>
      intro v1 v2 v3 v4 v5 s6 H locs ls h hP hD hS hl
      rw [f_X3_groups_L8] at h
      refine lv_iload hx hb dX3_groups_8 (lv_at hl 5 rfl) ?_
      refine lv_iload_n hx hb dX3_groups_10 rfl (lv_at hl 1 rfl) ?_
      refine iv_iadd hx hb dX3_groups_11 ?_
      refine lv_aload_n hx hb dX3_groups_12 rfl (lv_at hl 0 rfl) ?_
      refine va_get (D := E.1) (ci := 3) (v := .int (zi s6.2.2)) (C := RX3) (T := TX3) (N := 3) hx hb hts in_X3_groups_X3 hown hK.1 hP 0 rfl rfl 2 (by decide) (hts _ wd_X3_groups_f18) (fun _ h9 => h9) rfl dX3_groups_13 ?_
      obtain ⟨g7, h⟩ := gd_t h
      obtain ⟨g8, h⟩ := gd_t h
      refine iv_igt (tgt := 52) hx hb g7 g8 dX3_groups_16 (by decide) (fun c9 => ?_) (fun c9 => ?_)
      · have h := it_t c9 h
        refine lv_iload_n hx hb dX3_groups_52 rfl (lv_at hl 3 rfl) ?_
        cases h
        exact iv_iret hx hb hr hlocks hK hP hD hS dX3_groups_53
      · have h := it_f c9 h
        refine lv_iload hx hb dX3_groups_19 (lv_at hl 5 rfl) ?_
        refine lv_iload hx hb dX3_groups_21 (lv_at hl 4 rfl) ?_
        obtain ⟨g10, h⟩ := gd_t h
        obtain ⟨g11, h⟩ := gd_t h
        refine iv_ilt (tgt := 46) hx hb g10 g11 dX3_groups_23 (by decide) (fun c12 => ?_) (fun c12 => ?_)
        · have h := it_t c12 h
          refine lv_iinc (v := zi (v5 + 1)) (lv' := [(5, .int (zi (v5 + 1))), (0, .ref (a 0)), (1, .int (zi v1)), (2, .int (zi v2)), (3, .int (zi v3)), (4, .int (zi v4))]) hx hb dX3_groups_46 hl (k := 5) rfl (by rw [zi_add]; rfl) (by decide) rfl (fun ls hl => ?_)
          refine lv_goto (tgt := 8) hx hb dX3_groups_49 (by decide) ?_
          exact ih v1 v2 v3 v4 (v5 + 1) s6 _ _ _ h hP hD hS (lv_sub hl [1, 2, 3, 4, 5, 0] rfl)
        · have h := it_f c12 h
          refine lv_aload_n hx hb dX3_groups_26 rfl (lv_at hl 0 rfl) ?_
          refine lv_iload hx hb dX3_groups_27 (lv_at hl 5 rfl) ?_
          refine lv_iload_n hx hb dX3_groups_29 rfl (lv_at hl 1 rfl) ?_
          obtain ⟨u13, q14, h⟩ := bd_t h
          refine iv_callIf (As := [.int (zi v5), .int (zi v1)]) (rest := []) ⟨hx, hb, hml, hown, hts⟩ (k_X3_spreadFrom l E a H.size v5 v1 s6 u13 q14) (cwV 2 hts gX3_groups_X3_spreadFrom rfl rfl rfl (by decide +kernel) ⟨Nat.le_of_ble_eq_true rfl, Nat.le_of_ble_eq_true rfl⟩) hK hP hD hS hA 0 3 rfl rfl rfl hl.1 (Nat.le_of_ble_eq_true rfl) ⟨Nat.zero_le _, Nat.zero_le _⟩ dX3_groups_30 (fun H locs hP hD hS => ?_)
          refine lv_iload_n hx hb dX3_groups_33 rfl (lv_at hl 2 rfl) ?_
          obtain ⟨g15, h⟩ := gd_t h
          obtain ⟨g16, h⟩ := gd_t h
          refine iv_igt (tgt := 46) hx hb g15 g16 dX3_groups_34 (by decide) (fun c17 => ?_) (fun c17 => ?_)
          · have h := it_t c17 h
            refine lv_iinc (v := zi (v5 + 1)) (lv' := [(5, .int (zi (v5 + 1))), (0, .ref (a 0)), (1, .int (zi v1)), (2, .int (zi v2)), (3, .int (zi v3)), (4, .int (zi v4))]) hx hb dX3_groups_46 hl (k := 5) rfl (by rw [zi_add]; rfl) (by decide) rfl (fun ls hl => ?_)
            refine lv_goto (tgt := 8) hx hb dX3_groups_49 (by decide) ?_
            exact ih v1 v2 v3 v4 (v5 + 1) u13.2 _ _ _ h hP hD hS (lv_sub hl [1, 2, 3, 4, 5, 0] rfl)
          · have h := it_f c17 h
            refine lv_iinc (v := zi (v3 + 1)) (lv' := [(3, .int (zi (v3 + 1))), (0, .ref (a 0)), (1, .int (zi v1)), (2, .int (zi v2)), (4, .int (zi v4)), (5, .int (zi v5))]) hx hb dX3_groups_37 hl (k := 3) rfl (by rw [zi_add]; rfl) (by decide) rfl (fun ls hl => ?_)
            refine lv_iload hx hb dX3_groups_40 (lv_at hl 5 rfl) ?_
            refine lv_iload_n hx hb dX3_groups_42 rfl (lv_at hl 2 rfl) ?_
            refine iv_iadd hx hb dX3_groups_43 ?_
            obtain ⟨v18, e19, h⟩ := nm_t h
            refine iv_nm e19 ?_
            refine lv_istore (lv' := [(4, .int (zi v18)), (3, .int (zi (v3 + 1))), (0, .ref (a 0)), (1, .int (zi v1)), (2, .int (zi v2)), (5, .int (zi v5))]) hx hb dX3_groups_44 hl (by decide) rfl (fun ls hl => ?_)
            refine lv_iinc (v := zi (v5 + 1)) (lv' := [(5, .int (zi (v5 + 1))), (4, .int (zi v18)), (3, .int (zi (v3 + 1))), (0, .ref (a 0)), (1, .int (zi v1)), (2, .int (zi v2))]) hx hb dX3_groups_46 hl (k := 5) rfl (by rw [zi_add]; rfl) (by decide) rfl (fun ls hl => ?_)
            refine lv_goto (tgt := 8) hx hb dX3_groups_49 (by decide) ?_
            exact ih v1 v2 (v3 + 1) v18 (v5 + 1) u13.2 _ _ _ h hP hD hS (lv_sub hl [3, 4, 5, 2, 1, 0] rfl)
  have h := hf
  rw [f_X3_groups] at h
  refine iv_iconst hx hb dX3_groups_0 ?_
  refine lv_istore_n (lv' := [(3, .int (zi 0)), (0, .ref (a 0)), (1, .int (zi x1)), (2, .int (zi x2))]) hx hb dX3_groups_1 rfl hl (by decide) rfl (fun ls hl => ?_)
  refine iv_iconst hx hb dX3_groups_2 ?_
  refine lv_istore (lv' := [(4, .int (zi 0)), (3, .int (zi 0)), (0, .ref (a 0)), (1, .int (zi x1)), (2, .int (zi x2))]) hx hb dX3_groups_3 hl (by decide) rfl (fun ls hl => ?_)
  refine iv_iconst hx hb dX3_groups_5 ?_
  refine lv_istore (lv' := [(5, .int (zi 0)), (4, .int (zi 0)), (3, .int (zi 0)), (0, .ref (a 0)), (1, .int (zi x1)), (2, .int (zi x2))]) hx hb dX3_groups_6 hl (by decide) rfl (fun ls hl => ?_)
  exact loop8 N x1 x2 0 0 0 z _ _ _ h hP hD hS (lv_sub hl [3, 4, 5, 2, 1, 0] rfl)
set_option maxRecDepth 20000 in
theorem wd_X3_shineSum_f18 : Cond.fieldLink RX3 18 "ShirtButtons$Order" "count" "I" ∈ wsX3_shineSum := by decide +kernel
set_option maxRecDepth 20000 in
theorem in_X3_shineSum_X3 : ∀ w ∈ u_ws RX3 TX3 3, w ∈ wsX3_shineSum := by decide +kernel
set_option maxRecDepth 20000 in
theorem wd_X3_shineSum_f15 : Cond.fieldLink RX3 15 "ShirtButtons$Order" "shine" "[I" ∈ wsX3_shineSum := by decide +kernel
set_option maxHeartbeats 4000000 in
set_option maxRecDepth 100000 in
theorem k_X3_shineSum (l : Launch) (E : wE) (a : Nat → Nat) (sz : Nat) (N : Nat) (z : bO) (u : (Int × bO)) (hf : f_X3_shineSum N z = some u) : cI l yX3_shineSum wsX3_shineSum { frames := 0, cells := 0, slots := 0, locals := 0 } E sz [.ref (a 0)] (wO a E z) (wO a E u.2) u.1 := by
  refine met_go (cc := cX3_shineSum) (maxL := 3) (ret := (some .int)) (Q0 := mQi E (wO a E u.2) u.1) (by decide +kernel) rfl (Nat.le_of_ble_eq_true rfl) ?_
  intro A p e s m below meth c hx hb hr hml hts hown hlocks hP hK hD hA hS ls hl
  have hl : lv_has ls 3 [(0, .ref (a 0))] := hl
  generalize hH : s.heap = H at hP
  have hS : va_S A s.heap H [] := by rw [← hH]; exact hS
  have hown : s.vm.findClass RX3 = some m.cls := hown
  have loop4 : ∀ (n : Nat) (v1 v2 : Int) (s3 : bO) (H : Heap) (locs : List Loc) (ls : Array Slot), f_X3_shineSum_L4 N n v1 v2 s3 = some u → va_P E.1 vwCl (wO a E s3) H → va_D A (wO a E s3) → va_S A s.heap H locs → lv_has ls 3 [(0, .ref (a 0)), (1, .int (zi v1)), (2, .int (zi v2))] → W p l e ({ frames := 0, cells := 0, slots := 0, locals := 0 }) s m ([.ref (a 0)] : List Value).toArray below meth c H locs 0 0 (MQ below (mQi E (wO a E u.2) u.1 A) ([.ref (a 0)] : List Value).toArray s 0 0 A) (F0 m 4 ls []) := by
    intro n
    induction n with
    | zero =>
      intro v1 v2 s3 H locs ls h
      exact absurd (show (none : Option (Int × bO)) = some u from h) (by simp)
    | succ n ih =>
      intro v1 v2 s3 H locs ls h hP hD hS hl
      rw [f_X3_shineSum_L4] at h
      refine lv_iload_n hx hb dX3_shineSum_4 rfl (lv_at hl 2 rfl) ?_
      refine lv_aload_n hx hb dX3_shineSum_5 rfl (lv_at hl 0 rfl) ?_
      refine va_get (D := E.1) (ci := 3) (v := .int (zi s3.2.2)) (C := RX3) (T := TX3) (N := 3) hx hb hts in_X3_shineSum_X3 hown hK.1 hP 0 rfl rfl 2 (by decide) (hts _ wd_X3_shineSum_f18) (fun _ h9 => h9) rfl dX3_shineSum_6 ?_
      obtain ⟨g4, h⟩ := gd_t h
      obtain ⟨g5, h⟩ := gd_t h
      refine iv_ige (tgt := 27) hx hb g4 g5 dX3_shineSum_9 (by decide) (fun c6 => ?_) (fun c6 => ?_)
      · have h := it_t c6 h
        refine lv_iload_n hx hb dX3_shineSum_27 rfl (lv_at hl 1 rfl) ?_
        cases h
        exact iv_iret hx hb hr hlocks hK hP hD hS dX3_shineSum_28
      · have h := it_f c6 h
        refine lv_iload_n hx hb dX3_shineSum_12 rfl (lv_at hl 1 rfl) ?_
        refine lv_aload_n hx hb dX3_shineSum_13 rfl (lv_at hl 0 rfl) ?_
        refine va_get (D := E.1) (ci := 3) (v := .ref (a 2)) (C := RX3) (T := TX3) (N := 3) hx hb hts in_X3_shineSum_X3 hown hK.1 hP 0 rfl rfl 1 (by decide) (hts _ wd_X3_shineSum_f15) (fun _ h9 => h9) rfl dX3_shineSum_14 ?_
        refine lv_iload_n hx hb dX3_shineSum_17 rfl (lv_at hl 2 rfl) ?_
        obtain ⟨g7, h⟩ := gd_t h
        refine iv_iald (f := s3.2.1) (j := v2.toNat) hx hb hK.1 hP 2 0 rfl rfl (by decide) g7 rfl dX3_shineSum_18 ?_
        refine iv_iadd hx hb dX3_shineSum_19 ?_
        obtain ⟨v8, e9, h⟩ := nm_t h
        refine iv_nm e9 ?_
        refine lv_istore_n (lv' := [(1, .int (zi v8)), (0, .ref (a 0)), (2, .int (zi v2))]) hx hb dX3_shineSum_20 rfl hl (by decide) rfl (fun ls hl => ?_)
        refine lv_iinc (v := zi (v2 + 1)) (lv' := [(2, .int (zi (v2 + 1))), (1, .int (zi v8)), (0, .ref (a 0))]) hx hb dX3_shineSum_21 hl (k := 2) rfl (by rw [zi_add]; rfl) (by decide) rfl (fun ls hl => ?_)
        refine lv_goto (tgt := 4) hx hb dX3_shineSum_24 (by decide) ?_
        exact ih v8 (v2 + 1) s3 _ _ _ h hP hD hS (lv_sub hl [2, 1, 0] rfl)
  have h := hf
  rw [f_X3_shineSum] at h
  refine iv_iconst hx hb dX3_shineSum_0 ?_
  refine lv_istore_n (lv' := [(1, .int (zi 0)), (0, .ref (a 0))]) hx hb dX3_shineSum_1 rfl hl (by decide) rfl (fun ls hl => ?_)
  refine iv_iconst hx hb dX3_shineSum_2 ?_
  refine lv_istore_n (lv' := [(2, .int (zi 0)), (1, .int (zi 0)), (0, .ref (a 0))]) hx hb dX3_shineSum_3 rfl hl (by decide) rfl (fun ls hl => ?_)
  exact loop4 N 0 0 z _ _ _ h hP hD hS (lv_sub hl [2, 1, 0] rfl)
set_option maxRecDepth 20000 in
theorem wd_X5_takeIn_f12 : Cond.fieldLink RX5 12 "ShirtButtons$State" "buttons" "LShirtButtons$Buttons;" ∈ wsX5_takeIn := by decide +kernel
set_option maxRecDepth 20000 in
theorem in_X5_takeIn_X5 : ∀ w ∈ u_ws RX5 TX5 8, w ∈ wsX5_takeIn := by decide +kernel
set_option maxRecDepth 20000 in
theorem wd_X5_takeIn_f53 : Cond.fieldLink RX5 53 "ShirtButtons$Buttons" "count" "I" ∈ wsX5_takeIn := by decide +kernel
set_option maxRecDepth 20000 in
theorem in_X5_takeIn_X1 : ∀ w ∈ u_ws RX1 TX1 7, w ∈ wsX5_takeIn := by decide +kernel
set_option maxRecDepth 20000 in
theorem wd_X5_takeIn_f56 : Cond.fieldLink RX5 56 "ShirtButtons$Buttons" "holes" "[I" ∈ wsX5_takeIn := by decide +kernel
set_option maxRecDepth 20000 in
theorem wd_X5_takeIn_f59 : Cond.fieldLink RX5 59 "ShirtButtons$Batch" "holes" "[I" ∈ wsX5_takeIn := by decide +kernel
set_option maxRecDepth 20000 in
theorem in_X5_takeIn_X0 : ∀ w ∈ u_ws RX0 TX0 8, w ∈ wsX5_takeIn := by decide +kernel
set_option maxRecDepth 20000 in
theorem wd_X5_takeIn_f62 : Cond.fieldLink RX5 62 "ShirtButtons$Buttons" "size" "[I" ∈ wsX5_takeIn := by decide +kernel
set_option maxRecDepth 20000 in
theorem wd_X5_takeIn_f65 : Cond.fieldLink RX5 65 "ShirtButtons$Batch" "size" "[I" ∈ wsX5_takeIn := by decide +kernel
set_option maxRecDepth 20000 in
theorem wd_X5_takeIn_f66 : Cond.fieldLink RX5 66 "ShirtButtons$Buttons" "iron" "[I" ∈ wsX5_takeIn := by decide +kernel
set_option maxRecDepth 20000 in
theorem wd_X5_takeIn_f69 : Cond.fieldLink RX5 69 "ShirtButtons$Batch" "iron" "[I" ∈ wsX5_takeIn := by decide +kernel
set_option maxRecDepth 20000 in
theorem wd_X5_takeIn_f70 : Cond.fieldLink RX5 70 "ShirtButtons$Buttons" "chips" "[I" ∈ wsX5_takeIn := by decide +kernel
set_option maxRecDepth 20000 in
theorem wd_X5_takeIn_f73 : Cond.fieldLink RX5 73 "ShirtButtons$Batch" "chips" "[I" ∈ wsX5_takeIn := by decide +kernel
set_option maxRecDepth 20000 in
theorem wd_X5_takeIn_f74 : Cond.fieldLink RX5 74 "ShirtButtons$Buttons" "shine" "[I" ∈ wsX5_takeIn := by decide +kernel
set_option maxRecDepth 20000 in
theorem wd_X5_takeIn_f77 : Cond.fieldLink RX5 77 "ShirtButtons$Batch" "shine" "[I" ∈ wsX5_takeIn := by decide +kernel
set_option maxRecDepth 20000 in
theorem wd_X5_takeIn_f78 : Cond.fieldLink RX5 78 "ShirtButtons$Buttons" "sortings" "[I" ∈ wsX5_takeIn := by decide +kernel
set_option maxRecDepth 20000 in
theorem wd_X5_takeIn_f21 : Cond.fieldLink RX5 21 "ShirtButtons$State" "places" "LShirtButtons$Places;" ∈ wsX5_takeIn := by decide +kernel
set_option maxHeartbeats 4000000 in
set_option maxRecDepth 100000 in
theorem k_X5_takeIn (l : Launch) (E : wE) (a b : Nat → Nat) (sz : Nat) (x2 : Int) (z : bSB) (u : bSB) (hf : f_X5_takeIn x2 z = some u) : cV l yX5_takeIn wsX5_takeIn { frames := 4, cells := 0, slots := 0, locals := 88 } E sz [.ref (a 0), .ref (b 0), .int (zi x2)] (wSB a b E z) (wSB a b E u) := by
  refine met_go (cc := cX5_takeIn) (maxL := 4) (ret := none) (Q0 := mQv E (wSB a b E u)) (by decide +kernel) rfl (Nat.le_of_ble_eq_true rfl) ?_
  intro A p e s m below meth c hx hb hr hml hts hown hlocks hP hK hD hA hS ls hl
  have hl : lv_has ls 4 [(0, .ref (a 0)), (1, .ref (b 0)), (2, .int (zi x2))] := hl
  generalize hH : s.heap = H at hP
  have hS : va_S A s.heap H [] := by rw [← hH]; exact hS
  have hown : s.vm.findClass RX5 = some m.cls := hown
  have h := hf
  rw [f_X5_takeIn] at h
  refine lv_aload_n hx hb dX5_takeIn_0 rfl (lv_at hl 0 rfl) ?_
  refine va_get (D := E.1) (ci := 5) (v := .ref (a 1)) (C := RX5) (T := TX5) (N := 8) hx hb hts in_X5_takeIn_X5 hown hK.1 hP 0 rfl rfl 0 (by decide) (hts _ wd_X5_takeIn_f12) (fun _ h9 => h9) rfl dX5_takeIn_1 ?_
  refine va_get (D := E.1) (ci := 1) (v := .int (zi z.1.1.2.2.2.2.2.2)) (C := RX1) (T := TX1) (N := 7) hx hb hts in_X5_takeIn_X1 hown hK.1 hP 1 rfl rfl 6 (by decide) (hts _ wd_X5_takeIn_f53) (fun _ h9 => h9) rfl dX5_takeIn_4 ?_
  refine lv_istore_n (lv' := [(3, .int (zi z.1.1.2.2.2.2.2.2)), (0, .ref (a 0)), (1, .ref (b 0)), (2, .int (zi x2))]) hx hb dX5_takeIn_7 rfl hl (by decide) rfl (fun ls hl => ?_)
  refine lv_iload_n hx hb dX5_takeIn_8 rfl (lv_at hl 0 rfl) ?_
  refine iv_bipush hx hb dX5_takeIn_9 (by decide +kernel) ?_
  obtain ⟨g1, h⟩ := gd_t h
  refine iv_ilt (tgt := 15) hx hb g1 (by decide +kernel) dX5_takeIn_11 (by decide) (fun c2 => ?_) (fun c2 => ?_)
  · have h := it_t c2 h
    refine lv_aload_n hx hb dX5_takeIn_15 rfl (lv_at hl 1 rfl) ?_
    refine va_get (D := E.1) (ci := 5) (v := .ref (a 1)) (C := RX5) (T := TX5) (N := 8) hx hb hts in_X5_takeIn_X5 hown hK.1 hP 0 rfl rfl 0 (by decide) (hts _ wd_X5_takeIn_f12) (fun _ h9 => h9) rfl dX5_takeIn_16 ?_
    refine va_get (D := E.1) (ci := 1) (v := .ref (a 2)) (C := RX1) (T := TX1) (N := 7) hx hb hts in_X5_takeIn_X1 hown hK.1 hP 1 rfl rfl 0 (by decide) (hts _ wd_X5_takeIn_f56) (fun _ h9 => h9) rfl dX5_takeIn_19 ?_
    refine lv_iload_n hx hb dX5_takeIn_22 rfl (lv_at hl 0 rfl) ?_
    refine lv_aload_n hx hb dX5_takeIn_23 rfl (lv_at hl 2 rfl) ?_
    refine va_get (D := E.1) (ci := 0) (v := .ref (b 1)) (C := RX0) (T := TX0) (N := 8) hx hb hts in_X5_takeIn_X0 hown hK.1 hP 16 rfl rfl 0 (by decide) (hts _ wd_X5_takeIn_f59) (fun _ h9 => h9) rfl dX5_takeIn_24 ?_
    refine lv_iload_n hx hb dX5_takeIn_27 rfl (lv_at hl 3 rfl) ?_
    obtain ⟨g3, h⟩ := gd_t h
    refine iv_iald (f := z.2.1) (j := x2.toNat) hx hb hK.1 hP 17 0 rfl rfl (by decide) g3 rfl dX5_takeIn_28 ?_
    obtain ⟨g4, h⟩ := gd_t h
    obtain ⟨s5, e6, h⟩ := nm_t h
    refine iv_iast (f := z.1.1.1) (j := z.1.1.2.2.2.2.2.2.toNat) (ws1 := wSB a b E s5) hx hb hK.1 hP hD hS 2 0 rfl rfl (by decide) g4 rfl (by rw [e6]; rfl) dX5_takeIn_29 (fun H locs hP hD hS => ?_)
    refine lv_aload_n hx hb dX5_takeIn_30 rfl (lv_at hl 1 rfl) ?_
    refine va_get (D := E.1) (ci := 5) (v := .ref (a 1)) (C := RX5) (T := TX5) (N := 8) hx hb hts in_X5_takeIn_X5 hown hK.1 hP 0 rfl rfl 0 (by decide) (hts _ wd_X5_takeIn_f12) (fun _ h9 => h9) rfl dX5_takeIn_31 ?_
    refine va_get (D := E.1) (ci := 1) (v := .ref (a 3)) (C := RX1) (T := TX1) (N := 7) hx hb hts in_X5_takeIn_X1 hown hK.1 hP 1 rfl rfl 1 (by decide) (hts _ wd_X5_takeIn_f62) (fun _ h9 => h9) rfl dX5_takeIn_34 ?_
    refine lv_iload_n hx hb dX5_takeIn_37 rfl (lv_at hl 0 rfl) ?_
    refine lv_aload_n hx hb dX5_takeIn_38 rfl (lv_at hl 2 rfl) ?_
    refine va_get (D := E.1) (ci := 0) (v := .ref (b 2)) (C := RX0) (T := TX0) (N := 8) hx hb hts in_X5_takeIn_X0 hown hK.1 hP 16 rfl rfl 1 (by decide) (hts _ wd_X5_takeIn_f65) (fun _ h9 => h9) rfl dX5_takeIn_39 ?_
    refine lv_iload_n hx hb dX5_takeIn_42 rfl (lv_at hl 3 rfl) ?_
    refine iv_iald (f := s5.2.2.1) (j := x2.toNat) hx hb hK.1 hP 18 0 rfl rfl (by decide) g3 rfl dX5_takeIn_43 ?_
    obtain ⟨s7, e8, h⟩ := nm_t h
    refine iv_iast (f := s5.1.1.2.1) (j := z.1.1.2.2.2.2.2.2.toNat) (ws1 := wSB a b E s7) hx hb hK.1 hP hD hS 3 0 rfl rfl (by decide) g4 rfl (by rw [e8]; rfl) dX5_takeIn_44 (fun H locs hP hD hS => ?_)
    refine lv_aload_n hx hb dX5_takeIn_45 rfl (lv_at hl 1 rfl) ?_
    refine va_get (D := E.1) (ci := 5) (v := .ref (a 1)) (C := RX5) (T := TX5) (N := 8) hx hb hts in_X5_takeIn_X5 hown hK.1 hP 0 rfl rfl 0 (by decide) (hts _ wd_X5_takeIn_f12) (fun _ h9 => h9) rfl dX5_takeIn_46 ?_
    refine va_get (D := E.1) (ci := 1) (v := .ref (a 4)) (C := RX1) (T := TX1) (N := 7) hx hb hts in_X5_takeIn_X1 hown hK.1 hP 1 rfl rfl 2 (by decide) (hts _ wd_X5_takeIn_f66) (fun _ h9 => h9) rfl dX5_takeIn_49 ?_
    refine lv_iload_n hx hb dX5_takeIn_52 rfl (lv_at hl 0 rfl) ?_
    refine lv_aload_n hx hb dX5_takeIn_53 rfl (lv_at hl 2 rfl) ?_
    refine va_get (D := E.1) (ci := 0) (v := .ref (b 3)) (C := RX0) (T := TX0) (N := 8) hx hb hts in_X5_takeIn_X0 hown hK.1 hP 16 rfl rfl 2 (by decide) (hts _ wd_X5_takeIn_f69) (fun _ h9 => h9) rfl dX5_takeIn_54 ?_
    refine lv_iload_n hx hb dX5_takeIn_57 rfl (lv_at hl 3 rfl) ?_
    refine iv_iald (f := s7.2.2.2.1) (j := x2.toNat) hx hb hK.1 hP 19 0 rfl rfl (by decide) g3 rfl dX5_takeIn_58 ?_
    obtain ⟨s9, e10, h⟩ := nm_t h
    refine iv_iast (f := s7.1.1.2.2.1) (j := z.1.1.2.2.2.2.2.2.toNat) (ws1 := wSB a b E s9) hx hb hK.1 hP hD hS 4 0 rfl rfl (by decide) g4 rfl (by rw [e10]; rfl) dX5_takeIn_59 (fun H locs hP hD hS => ?_)
    refine lv_aload_n hx hb dX5_takeIn_60 rfl (lv_at hl 1 rfl) ?_
    refine va_get (D := E.1) (ci := 5) (v := .ref (a 1)) (C := RX5) (T := TX5) (N := 8) hx hb hts in_X5_takeIn_X5 hown hK.1 hP 0 rfl rfl 0 (by decide) (hts _ wd_X5_takeIn_f12) (fun _ h9 => h9) rfl dX5_takeIn_61 ?_
    refine va_get (D := E.1) (ci := 1) (v := .ref (a 5)) (C := RX1) (T := TX1) (N := 7) hx hb hts in_X5_takeIn_X1 hown hK.1 hP 1 rfl rfl 3 (by decide) (hts _ wd_X5_takeIn_f70) (fun _ h9 => h9) rfl dX5_takeIn_64 ?_
    refine lv_iload_n hx hb dX5_takeIn_67 rfl (lv_at hl 0 rfl) ?_
    refine lv_aload_n hx hb dX5_takeIn_68 rfl (lv_at hl 2 rfl) ?_
    refine va_get (D := E.1) (ci := 0) (v := .ref (b 4)) (C := RX0) (T := TX0) (N := 8) hx hb hts in_X5_takeIn_X0 hown hK.1 hP 16 rfl rfl 3 (by decide) (hts _ wd_X5_takeIn_f73) (fun _ h9 => h9) rfl dX5_takeIn_69 ?_
    refine lv_iload_n hx hb dX5_takeIn_72 rfl (lv_at hl 3 rfl) ?_
    refine iv_iald (f := s9.2.2.2.2.1) (j := x2.toNat) hx hb hK.1 hP 20 0 rfl rfl (by decide) g3 rfl dX5_takeIn_73 ?_
    obtain ⟨s11, e12, h⟩ := nm_t h
    refine iv_iast (f := s9.1.1.2.2.2.1) (j := z.1.1.2.2.2.2.2.2.toNat) (ws1 := wSB a b E s11) hx hb hK.1 hP hD hS 5 0 rfl rfl (by decide) g4 rfl (by rw [e12]; rfl) dX5_takeIn_74 (fun H locs hP hD hS => ?_)
    refine lv_aload_n hx hb dX5_takeIn_75 rfl (lv_at hl 1 rfl) ?_
    refine va_get (D := E.1) (ci := 5) (v := .ref (a 1)) (C := RX5) (T := TX5) (N := 8) hx hb hts in_X5_takeIn_X5 hown hK.1 hP 0 rfl rfl 0 (by decide) (hts _ wd_X5_takeIn_f12) (fun _ h9 => h9) rfl dX5_takeIn_76 ?_
    refine va_get (D := E.1) (ci := 1) (v := .ref (a 6)) (C := RX1) (T := TX1) (N := 7) hx hb hts in_X5_takeIn_X1 hown hK.1 hP 1 rfl rfl 4 (by decide) (hts _ wd_X5_takeIn_f74) (fun _ h9 => h9) rfl dX5_takeIn_79 ?_
    refine lv_iload_n hx hb dX5_takeIn_82 rfl (lv_at hl 0 rfl) ?_
    refine lv_aload_n hx hb dX5_takeIn_83 rfl (lv_at hl 2 rfl) ?_
    refine va_get (D := E.1) (ci := 0) (v := .ref (b 5)) (C := RX0) (T := TX0) (N := 8) hx hb hts in_X5_takeIn_X0 hown hK.1 hP 16 rfl rfl 4 (by decide) (hts _ wd_X5_takeIn_f77) (fun _ h9 => h9) rfl dX5_takeIn_84 ?_
    refine lv_iload_n hx hb dX5_takeIn_87 rfl (lv_at hl 3 rfl) ?_
    refine iv_iald (f := s11.2.2.2.2.2.1) (j := x2.toNat) hx hb hK.1 hP 21 0 rfl rfl (by decide) g3 rfl dX5_takeIn_88 ?_
    obtain ⟨s13, e14, h⟩ := nm_t h
    refine iv_iast (f := s11.1.1.2.2.2.2.1) (j := z.1.1.2.2.2.2.2.2.toNat) (ws1 := wSB a b E s13) hx hb hK.1 hP hD hS 6 0 rfl rfl (by decide) g4 rfl (by rw [e14]; rfl) dX5_takeIn_89 (fun H locs hP hD hS => ?_)
    refine lv_aload_n hx hb dX5_takeIn_90 rfl (lv_at hl 1 rfl) ?_
    refine va_get (D := E.1) (ci := 5) (v := .ref (a 1)) (C := RX5) (T := TX5) (N := 8) hx hb hts in_X5_takeIn_X5 hown hK.1 hP 0 rfl rfl 0 (by decide) (hts _ wd_X5_takeIn_f12) (fun _ h9 => h9) rfl dX5_takeIn_91 ?_
    refine va_get (D := E.1) (ci := 1) (v := .ref (a 7)) (C := RX1) (T := TX1) (N := 7) hx hb hts in_X5_takeIn_X1 hown hK.1 hP 1 rfl rfl 5 (by decide) (hts _ wd_X5_takeIn_f78) (fun _ h9 => h9) rfl dX5_takeIn_94 ?_
    refine lv_iload_n hx hb dX5_takeIn_97 rfl (lv_at hl 0 rfl) ?_
    refine iv_iconst hx hb dX5_takeIn_98 ?_
    obtain ⟨s15, e16, h⟩ := nm_t h
    refine iv_iast (f := s13.1.1.2.2.2.2.2.1) (j := z.1.1.2.2.2.2.2.2.toNat) (ws1 := wSB a b E s15) hx hb hK.1 hP hD hS 7 0 rfl rfl (by decide) g4 rfl (by rw [e16]; rfl) dX5_takeIn_99 (fun H locs hP hD hS => ?_)
    refine lv_aload_n hx hb dX5_takeIn_100 rfl (lv_at hl 1 rfl) ?_
    refine va_get (D := E.1) (ci := 5) (v := .ref (a 1)) (C := RX5) (T := TX5) (N := 8) hx hb hts in_X5_takeIn_X5 hown hK.1 hP 0 rfl rfl 0 (by decide) (hts _ wd_X5_takeIn_f12) (fun _ h9 => h9) rfl dX5_takeIn_101 ?_
    refine lv_dup hx hb dX5_takeIn_104 rfl ?_
    refine va_get (D := E.1) (ci := 1) (v := .int (zi s15.1.1.2.2.2.2.2.2)) (C := RX1) (T := TX1) (N := 7) hx hb hts in_X5_takeIn_X1 hown hK.1 hP 1 rfl rfl 6 (by decide) (hts _ wd_X5_takeIn_f53) (fun _ h9 => h9) rfl dX5_takeIn_105 ?_
    refine iv_iconst hx hb dX5_takeIn_108 ?_
    refine iv_iadd hx hb dX5_takeIn_109 ?_
    obtain ⟨s17, e18, h⟩ := nm_t h
    refine iv_put (D := E.1) (ci := 1) (v := .int (zi (s15.1.1.2.2.2.2.2.2 + 1))) (ty := .int) (ws1 := wSB a b E s17) (C := RX1) (T := TX1) (N := 7) hx hb hts in_X5_takeIn_X1 tyX1 tyX1_ok nmX1 hown hK.1 hP hD hS 1 rfl rfl 6 (by decide) (hts _ wd_X5_takeIn_f53) (fun _ h9 => h9) rfl (by decide +kernel) rfl rfl (Nat.le_of_ble_eq_true rfl) (by rw [e18]; rfl) dX5_takeIn_110 (fun H locs hP hD hS => ?_)
    refine lv_aload_n hx hb dX5_takeIn_113 rfl (lv_at hl 1 rfl) ?_
    refine va_get (D := E.1) (ci := 5) (v := .ref (a 8)) (C := RX5) (T := TX5) (N := 8) hx hb hts in_X5_takeIn_X5 hown hK.1 hP 0 rfl rfl 1 (by decide) (hts _ wd_X5_takeIn_f21) (fun _ h9 => h9) rfl dX5_takeIn_114 ?_
    refine lv_iload_n hx hb dX5_takeIn_117 rfl (lv_at hl 0 rfl) ?_
    obtain ⟨u19, q20, h⟩ := bd_t h
    obtain ⟨s21, e22, h⟩ := nm_t h
    refine iv_callVp (As := [.int (zi z.1.1.2.2.2.2.2.2)]) (rest := []) (ws1 := wSB a b E s21) ⟨hx, hb, hml, hown, hts⟩ (k_X4_bringToHopper l E (fun i => a (8 + i)) H.size z.1.1.2.2.2.2.2.2 s17.1.2.1 u19 q20) (cwV 1 hts gX5_takeIn_X4_bringToHopper rfl rfl rfl (by decide +kernel) ⟨Nat.le_of_ble_eq_true rfl, Nat.le_of_ble_eq_true rfl⟩) hK hP hD hS hA 8 4 rfl rfl (pm_in (pm_skip (pm_in (pm_skip (pm_in (pm_last)))))) (by rw [e22]; exact pm_in (pm_skip (pm_in (pm_skip (pm_in (pm_last)))))) rfl hl.1 (Nat.le_of_ble_eq_true rfl) ⟨Nat.zero_le _, Nat.zero_le _⟩ dX5_takeIn_118 (fun H locs hP hD hS => ?_)
    cases h
    exact iv_vret hx hb hr hlocks hK hP hD hS dX5_takeIn_121
  · have h := it_f c2 h
    cases h
    exact iv_vret hx hb hr hlocks hK hP hD hS dX5_takeIn_14
set_option maxRecDepth 20000 in
theorem wd_X5_meshClass_f34 : Cond.fieldLink RX5 34 "ShirtButtons$State" "settings" "[I" ∈ wsX5_meshClass := by decide +kernel
set_option maxRecDepth 20000 in
theorem in_X5_meshClass_X5 : ∀ w ∈ u_ws RX5 TX5 8, w ∈ wsX5_meshClass := by decide +kernel
set_option maxRecDepth 20000 in
theorem wd_X5_meshClass_f12 : Cond.fieldLink RX5 12 "ShirtButtons$State" "buttons" "LShirtButtons$Buttons;" ∈ wsX5_meshClass := by decide +kernel
set_option maxRecDepth 20000 in
theorem wd_X5_meshClass_f62 : Cond.fieldLink RX5 62 "ShirtButtons$Buttons" "size" "[I" ∈ wsX5_meshClass := by decide +kernel
set_option maxRecDepth 20000 in
theorem in_X5_meshClass_X1 : ∀ w ∈ u_ws RX1 TX1 7, w ∈ wsX5_meshClass := by decide +kernel
set_option maxHeartbeats 4000000 in
set_option maxRecDepth 100000 in
theorem k_X5_meshClass (l : Launch) (E : wE) (a : Nat → Nat) (sz : Nat) (N : Nat) (x1 : Int) (z : bS) (u : (Int × bS)) (hf : f_X5_meshClass N x1 z = some u) : cI l yX5_meshClass wsX5_meshClass { frames := 0, cells := 0, slots := 0, locals := 0 } E sz [.ref (a 0), .int (zi x1)] (wS a E z) (wS a E u.2) u.1 := by
  refine met_go (cc := cX5_meshClass) (maxL := 3) (ret := (some .int)) (Q0 := mQi E (wS a E u.2) u.1) (by decide +kernel) rfl (Nat.le_of_ble_eq_true rfl) ?_
  intro A p e s m below meth c hx hb hr hml hts hown hlocks hP hK hD hA hS ls hl
  have hl : lv_has ls 3 [(0, .ref (a 0)), (1, .int (zi x1))] := hl
  generalize hH : s.heap = H at hP
  have hS : va_S A s.heap H [] := by rw [← hH]; exact hS
  have hown : s.vm.findClass RX5 = some m.cls := hown
  have loop2 : ∀ (n : Nat) (v1 v2 : Int) (s3 : bS) (H : Heap) (locs : List Loc) (ls : Array Slot), f_X5_meshClass_L2 N n v1 v2 s3 = some u → va_P E.1 vwCl (wS a E s3) H → va_D A (wS a E s3) → va_S A s.heap H locs → lv_has ls 3 [(0, .ref (a 0)), (1, .int (zi v1)), (2, .int (zi v2))] → W p l e ({ frames := 0, cells := 0, slots := 0, locals := 0 }) s m ([.ref (a 0), .int (zi x1)] : List Value).toArray below meth c H locs 0 0 (MQ below (mQi E (wS a E u.2) u.1 A) ([.ref (a 0), .int (zi x1)] : List Value).toArray s 0 0 A) (F0 m 2 ls []) := by
    intro n
    induction n with
    | zero =>
      intro v1 v2 s3 H locs ls h
      exact absurd (show (none : Option (Int × bS)) = some u from h) (by simp)
    | succ n ih =>
      intro v1 v2 s3 H locs ls h hP hD hS hl
      rw [f_X5_meshClass_L2] at h
      refine lv_iload_n hx hb dX5_meshClass_2 rfl (lv_at hl 2 rfl) ?_
      refine iv_iconst hx hb dX5_meshClass_3 ?_
      obtain ⟨g4, h⟩ := gd_t h
      refine iv_ige (tgt := 31) hx hb g4 (by decide +kernel) dX5_meshClass_4 (by decide) (fun c5 => ?_) (fun c5 => ?_)
      · have h := it_t c5 h
        refine lv_iload_n hx hb dX5_meshClass_31 rfl (lv_at hl 2 rfl) ?_
        cases h
        exact iv_iret hx hb hr hlocks hK hP hD hS dX5_meshClass_32
      · have h := it_f c5 h
        refine lv_aload_n hx hb dX5_meshClass_7 rfl (lv_at hl 0 rfl) ?_
        refine va_get (D := E.1) (ci := 5) (v := .ref (a 15)) (C := RX5) (T := TX5) (N := 8) hx hb hts in_X5_meshClass_X5 hown hK.1 hP 0 rfl rfl 2 (by decide) (hts _ wd_X5_meshClass_f34) (fun _ h9 => h9) rfl dX5_meshClass_8 ?_
        refine lv_iload_n hx hb dX5_meshClass_11 rfl (lv_at hl 2 rfl) ?_
        obtain ⟨g6, h⟩ := gd_t h
        refine iv_iald (f := s3.2.2.1) (j := v2.toNat) hx hb hK.1 hP 15 0 rfl rfl (by decide) g6 rfl dX5_meshClass_12 ?_
        refine lv_aload_n hx hb dX5_meshClass_13 rfl (lv_at hl 0 rfl) ?_
        refine va_get (D := E.1) (ci := 5) (v := .ref (a 1)) (C := RX5) (T := TX5) (N := 8) hx hb hts in_X5_meshClass_X5 hown hK.1 hP 0 rfl rfl 0 (by decide) (hts _ wd_X5_meshClass_f12) (fun _ h9 => h9) rfl dX5_meshClass_14 ?_
        refine va_get (D := E.1) (ci := 1) (v := .ref (a 3)) (C := RX1) (T := TX1) (N := 7) hx hb hts in_X5_meshClass_X1 hown hK.1 hP 1 rfl rfl 1 (by decide) (hts _ wd_X5_meshClass_f62) (fun _ h9 => h9) rfl dX5_meshClass_17 ?_
        refine lv_iload_n hx hb dX5_meshClass_20 rfl (lv_at hl 1 rfl) ?_
        obtain ⟨g7, h⟩ := gd_t h
        refine iv_iald (f := s3.1.2.1) (j := v1.toNat) hx hb hK.1 hP 3 0 rfl rfl (by decide) g7 rfl dX5_meshClass_21 ?_
        obtain ⟨g8, h⟩ := gd_t h
        obtain ⟨g9, h⟩ := gd_t h
        refine iv_ige (tgt := 31) hx hb g8 g9 dX5_meshClass_22 (by decide) (fun c10 => ?_) (fun c10 => ?_)
        · have h := it_t c10 h
          refine lv_iload_n hx hb dX5_meshClass_31 rfl (lv_at hl 2 rfl) ?_
          cases h
          exact iv_iret hx hb hr hlocks hK hP hD hS dX5_meshClass_32
        · have h := it_f c10 h
          refine lv_iinc (v := zi (v2 + 1)) (lv' := [(2, .int (zi (v2 + 1))), (0, .ref (a 0)), (1, .int (zi v1))]) hx hb dX5_meshClass_25 hl (k := 2) rfl (by rw [zi_add]; rfl) (by decide) rfl (fun ls hl => ?_)
          refine lv_goto (tgt := 2) hx hb dX5_meshClass_28 (by decide) ?_
          exact ih v1 (v2 + 1) s3 _ _ _ h hP hD hS (lv_sub hl [1, 2, 0] rfl)
  have h := hf
  rw [f_X5_meshClass] at h
  refine iv_iconst hx hb dX5_meshClass_0 ?_
  refine lv_istore_n (lv' := [(2, .int (zi 0)), (0, .ref (a 0)), (1, .int (zi x1))]) hx hb dX5_meshClass_1 rfl hl (by decide) rfl (fun ls hl => ?_)
  exact loop2 N x1 0 z _ _ _ h hP hD hS (lv_sub hl [1, 2, 0] rfl)
set_option maxRecDepth 20000 in
theorem wd_X5_binFor_f12 : Cond.fieldLink RX5 12 "ShirtButtons$State" "buttons" "LShirtButtons$Buttons;" ∈ wsX5_binFor := by decide +kernel
set_option maxRecDepth 20000 in
theorem in_X5_binFor_X5 : ∀ w ∈ u_ws RX5 TX5 8, w ∈ wsX5_binFor := by decide +kernel
set_option maxRecDepth 20000 in
theorem wd_X5_binFor_f56 : Cond.fieldLink RX5 56 "ShirtButtons$Buttons" "holes" "[I" ∈ wsX5_binFor := by decide +kernel
set_option maxRecDepth 20000 in
theorem in_X5_binFor_X1 : ∀ w ∈ u_ws RX1 TX1 7, w ∈ wsX5_binFor := by decide +kernel
set_option maxHeartbeats 4000000 in
set_option maxRecDepth 100000 in
theorem k_X5_binFor (l : Launch) (E : wE) (a : Nat → Nat) (sz : Nat) (N : Nat) (x1 : Int) (z : bS) (u : (Int × bS)) (hf : f_X5_binFor N x1 z = some u) : cI l yX5_binFor wsX5_binFor { frames := 1, cells := 0, slots := 0, locals := 22 } E sz [.ref (a 0), .int (zi x1)] (wS a E z) (wS a E u.2) u.1 := by
  refine met_go (cc := cX5_binFor) (maxL := 2) (ret := (some .int)) (Q0 := mQi E (wS a E u.2) u.1) (by decide +kernel) rfl (Nat.le_of_ble_eq_true rfl) ?_
  intro A p e s m below meth c hx hb hr hml hts hown hlocks hP hK hD hA hS ls hl
  have hl : lv_has ls 2 [(0, .ref (a 0)), (1, .int (zi x1))] := hl
  generalize hH : s.heap = H at hP
  have hS : va_S A s.heap H [] := by rw [← hH]; exact hS
  have hown : s.vm.findClass RX5 = some m.cls := hown
  have h := hf
  rw [f_X5_binFor] at h
  refine iv_iconst hx hb dX5_binFor_0 ?_
  refine lv_aload_n hx hb dX5_binFor_1 rfl (lv_at hl 0 rfl) ?_
  refine lv_iload_n hx hb dX5_binFor_2 rfl (lv_at hl 1 rfl) ?_
  obtain ⟨u1, q2, h⟩ := bd_t h
  refine iv_callIf (As := [.int (zi x1)]) (rest := [.int (zi 4)]) ⟨hx, hb, hml, hown, hts⟩ (k_X5_meshClass l E a H.size N x1 z u1 q2) (cwV 1 hts gX5_binFor_X5_meshClass rfl rfl rfl (by decide +kernel) ⟨Nat.le_of_ble_eq_true rfl, Nat.le_of_ble_eq_true rfl⟩) hK hP hD hS hA 0 5 rfl rfl rfl hl.1 (Nat.le_of_ble_eq_true rfl) ⟨Nat.zero_le _, Nat.zero_le _⟩ dX5_binFor_3 (fun H locs hP hD hS => ?_)
  refine iv_imul hx hb dX5_binFor_6 ?_
  refine lv_aload_n hx hb dX5_binFor_7 rfl (lv_at hl 0 rfl) ?_
  refine va_get (D := E.1) (ci := 5) (v := .ref (a 1)) (C := RX5) (T := TX5) (N := 8) hx hb hts in_X5_binFor_X5 hown hK.1 hP 0 rfl rfl 0 (by decide) (hts _ wd_X5_binFor_f12) (fun _ h9 => h9) rfl dX5_binFor_8 ?_
  refine va_get (D := E.1) (ci := 1) (v := .ref (a 2)) (C := RX1) (T := TX1) (N := 7) hx hb hts in_X5_binFor_X1 hown hK.1 hP 1 rfl rfl 0 (by decide) (hts _ wd_X5_binFor_f56) (fun _ h9 => h9) rfl dX5_binFor_11 ?_
  refine lv_iload_n hx hb dX5_binFor_14 rfl (lv_at hl 1 rfl) ?_
  obtain ⟨g3, h⟩ := gd_t h
  refine iv_iald (f := u1.2.1.1) (j := x1.toNat) hx hb hK.1 hP 2 0 rfl rfl (by decide) g3 rfl dX5_binFor_15 ?_
  refine iv_iadd hx hb dX5_binFor_16 ?_
  refine iv_iconst hx hb dX5_binFor_17 ?_
  refine iv_isub hx hb dX5_binFor_18 ?_
  cases h
  exact iv_iret hx hb hr hlocks hK hP hD hS dX5_binFor_19
set_option maxRecDepth 20000 in
theorem wd_X5_hasRoom_st_X7_isBin : Cond.static yX7_isBin ∈ wsX5_hasRoom := by decide +kernel
set_option maxRecDepth 20000 in
theorem wd_X5_hasRoom_ini7 : Cond.initialized RX7 ∈ wsX5_hasRoom := by decide +kernel
set_option maxRecDepth 20000 in
theorem wd_X5_hasRoom_f21 : Cond.fieldLink RX5 21 "ShirtButtons$State" "places" "LShirtButtons$Places;" ∈ wsX5_hasRoom := by decide +kernel
set_option maxRecDepth 20000 in
theorem in_X5_hasRoom_X5 : ∀ w ∈ u_ws RX5 TX5 8, w ∈ wsX5_hasRoom := by decide +kernel
set_option maxRecDepth 20000 in
theorem wd_X5_hasRoom_f99 : Cond.fieldLink RX5 99 "ShirtButtons$Places" "inBin" "[I" ∈ wsX5_hasRoom := by decide +kernel
set_option maxRecDepth 20000 in
theorem in_X5_hasRoom_X4 : ∀ w ∈ u_ws RX4 TX4 6, w ∈ wsX5_hasRoom := by decide +kernel
set_option maxRecDepth 20000 in
theorem wd_X5_hasRoom_f34 : Cond.fieldLink RX5 34 "ShirtButtons$State" "settings" "[I" ∈ wsX5_hasRoom := by decide +kernel
set_option maxHeartbeats 4000000 in
set_option maxRecDepth 100000 in
theorem k_X5_hasRoom (l : Launch) (E : wE) (a : Nat → Nat) (sz : Nat) (x1 : Int) (z : bS) (u : (Int × bS)) (hf : f_X5_hasRoom x1 z = some u) : cI l yX5_hasRoom wsX5_hasRoom { frames := 1, cells := 0, slots := 0, locals := 20 } E sz [.ref (a 0), .int (zi x1)] (wS a E z) (wS a E u.2) u.1 := by
  refine met_go (cc := cX5_hasRoom) (maxL := 2) (ret := (some .boolean)) (Q0 := mQi E (wS a E u.2) u.1) (by decide +kernel) rfl (Nat.le_of_ble_eq_true rfl) ?_
  intro A p e s m below meth c hx hb hr hml hts hown hlocks hP hK hD hA hS ls hl
  have hl : lv_has ls 2 [(0, .ref (a 0)), (1, .int (zi x1))] := hl
  generalize hH : s.heap = H at hP
  have hS : va_S A s.heap H [] := by rw [← hH]; exact hS
  have hown : s.vm.findClass RX5 = some m.cls := hown
  have h := hf
  rw [f_X5_hasRoom] at h
  refine lv_iload_n hx hb dX5_hasRoom_0 rfl (lv_at hl 1 rfl) ?_
  obtain ⟨u1, q2, h⟩ := bd_t h
  refine iv_callSn (host := RX7) (As := [.int (zi x1)]) (rest := []) ⟨hx, hb, hml, hown, hts⟩ (k_X7_isBin l E H.size x1 u1 q2) ⟨va_cnB 1 hts gX5_hasRoom_X7_isBin_n96 rfl rfl rfl hK.2.2.2 (hts _ wd_X5_hasRoom_ini7) (by decide +kernel) ⟨Nat.le_of_ble_eq_true rfl, Nat.le_of_ble_eq_true rfl⟩, hts _ wd_X5_hasRoom_st_X7_isBin, trivial⟩ hK hP hS hA rfl hl.1 (Nat.le_of_ble_eq_true rfl) ⟨Nat.zero_le _, Nat.zero_le _⟩ dX5_hasRoom_1 (fun H locs hP hS => ?_)
  obtain ⟨g3, h⟩ := gd_t h
  refine iv_eq (tgt := 30) hx hb g3 dX5_hasRoom_4 (by decide) (fun c4 => ?_) (fun c4 => ?_)
  · have h := it_t c4 h
    refine iv_iconst hx hb dX5_hasRoom_30 ?_
    cases h
    exact iv_zret (r := 0) hx hb hr hlocks (by decide +kernel) hK hP hD hS dX5_hasRoom_31
  · have h := it_f c4 h
    refine lv_aload_n hx hb dX5_hasRoom_7 rfl (lv_at hl 0 rfl) ?_
    refine va_get (D := E.1) (ci := 5) (v := .ref (a 8)) (C := RX5) (T := TX5) (N := 8) hx hb hts in_X5_hasRoom_X5 hown hK.1 hP 0 rfl rfl 1 (by decide) (hts _ wd_X5_hasRoom_f21) (fun _ h9 => h9) rfl dX5_hasRoom_8 ?_
    refine va_get (D := E.1) (ci := 4) (v := .ref (a 14)) (C := RX4) (T := TX4) (N := 6) hx hb hts in_X5_hasRoom_X4 hown hK.1 hP 8 rfl rfl 5 (by decide) (hts _ wd_X5_hasRoom_f99) (fun _ h9 => h9) rfl dX5_hasRoom_11 ?_
    refine lv_iload_n hx hb dX5_hasRoom_14 rfl (lv_at hl 1 rfl) ?_
    obtain ⟨g5, h⟩ := gd_t h
    refine iv_iald (f := z.2.1.2.2.2.2.2) (j := x1.toNat) hx hb hK.1 hP 14 0 rfl rfl (by decide) g5 rfl dX5_hasRoom_15 ?_
    refine lv_aload_n hx hb dX5_hasRoom_16 rfl (lv_at hl 0 rfl) ?_
    refine va_get (D := E.1) (ci := 5) (v := .ref (a 15)) (C := RX5) (T := TX5) (N := 8) hx hb hts in_X5_hasRoom_X5 hown hK.1 hP 0 rfl rfl 2 (by decide) (hts _ wd_X5_hasRoom_f34) (fun _ h9 => h9) rfl dX5_hasRoom_17 ?_
    refine iv_bipush hx hb dX5_hasRoom_20 (by decide +kernel) ?_
    refine iv_iald (f := z.2.2.1) (j := 6) hx hb hK.1 hP 15 0 rfl rfl (by decide) (by decide +kernel) rfl dX5_hasRoom_22 ?_
    obtain ⟨g6, h⟩ := gd_t h
    obtain ⟨g7, h⟩ := gd_t h
    refine iv_ige (tgt := 30) hx hb g6 g7 dX5_hasRoom_23 (by decide) (fun c8 => ?_) (fun c8 => ?_)
    · have h := it_t c8 h
      refine iv_iconst hx hb dX5_hasRoom_30 ?_
      cases h
      exact iv_zret (r := 0) hx hb hr hlocks (by decide +kernel) hK hP hD hS dX5_hasRoom_31
    · have h := it_f c8 h
      refine iv_iconst hx hb dX5_hasRoom_26 ?_
      refine lv_goto (tgt := 31) hx hb dX5_hasRoom_27 (by decide) ?_
      cases h
      exact iv_zret (r := 1) hx hb hr hlocks (by decide +kernel) hK hP hD hS dX5_hasRoom_31
set_option maxRecDepth 20000 in
theorem wd_X5_placeFor_f12 : Cond.fieldLink RX5 12 "ShirtButtons$State" "buttons" "LShirtButtons$Buttons;" ∈ wsX5_placeFor := by decide +kernel
set_option maxRecDepth 20000 in
theorem in_X5_placeFor_X5 : ∀ w ∈ u_ws RX5 TX5 8, w ∈ wsX5_placeFor := by decide +kernel
set_option maxRecDepth 20000 in
theorem wd_X5_placeFor_f70 : Cond.fieldLink RX5 70 "ShirtButtons$Buttons" "chips" "[I" ∈ wsX5_placeFor := by decide +kernel
set_option maxRecDepth 20000 in
theorem in_X5_placeFor_X1 : ∀ w ∈ u_ws RX1 TX1 7, w ∈ wsX5_placeFor := by decide +kernel
set_option maxRecDepth 20000 in
theorem wd_X5_placeFor_f34 : Cond.fieldLink RX5 34 "ShirtButtons$State" "settings" "[I" ∈ wsX5_placeFor := by decide +kernel
set_option maxRecDepth 20000 in
theorem wd_X5_placeFor_f66 : Cond.fieldLink RX5 66 "ShirtButtons$Buttons" "iron" "[I" ∈ wsX5_placeFor := by decide +kernel
set_option maxRecDepth 20000 in
theorem wd_X5_placeFor_f62 : Cond.fieldLink RX5 62 "ShirtButtons$Buttons" "size" "[I" ∈ wsX5_placeFor := by decide +kernel
set_option maxRecDepth 20000 in
theorem wd_X5_placeFor_f21 : Cond.fieldLink RX5 21 "ShirtButtons$State" "places" "LShirtButtons$Places;" ∈ wsX5_placeFor := by decide +kernel
set_option maxRecDepth 20000 in
theorem wd_X5_placeFor_f85 : Cond.fieldLink RX5 85 "ShirtButtons$Places" "at" "[I" ∈ wsX5_placeFor := by decide +kernel
set_option maxRecDepth 20000 in
theorem in_X5_placeFor_X4 : ∀ w ∈ u_ws RX4 TX4 6, w ∈ wsX5_placeFor := by decide +kernel
set_option maxHeartbeats 4000000 in
set_option maxRecDepth 100000 in
theorem k_X5_placeFor (l : Launch) (E : wE) (a : Nat → Nat) (sz : Nat) (N : Nat) (x1 : Int) (z : bS) (u : (Int × bS)) (hf : f_X5_placeFor N x1 z = some u) : cI l yX5_placeFor wsX5_placeFor { frames := 2, cells := 0, slots := 0, locals := 43 } E sz [.ref (a 0), .int (zi x1)] (wS a E z) (wS a E u.2) u.1 := by
  refine met_go (cc := cX5_placeFor) (maxL := 2) (ret := (some .int)) (Q0 := mQi E (wS a E u.2) u.1) (by decide +kernel) rfl (Nat.le_of_ble_eq_true rfl) ?_
  intro A p e s m below meth c hx hb hr hml hts hown hlocks hP hK hD hA hS ls hl
  have hl : lv_has ls 2 [(0, .ref (a 0)), (1, .int (zi x1))] := hl
  generalize hH : s.heap = H at hP
  have hS : va_S A s.heap H [] := by rw [← hH]; exact hS
  have hown : s.vm.findClass RX5 = some m.cls := hown
  have h := hf
  rw [f_X5_placeFor] at h
  refine lv_aload_n hx hb dX5_placeFor_0 rfl (lv_at hl 0 rfl) ?_
  refine va_get (D := E.1) (ci := 5) (v := .ref (a 1)) (C := RX5) (T := TX5) (N := 8) hx hb hts in_X5_placeFor_X5 hown hK.1 hP 0 rfl rfl 0 (by decide) (hts _ wd_X5_placeFor_f12) (fun _ h9 => h9) rfl dX5_placeFor_1 ?_
  refine va_get (D := E.1) (ci := 1) (v := .ref (a 5)) (C := RX1) (T := TX1) (N := 7) hx hb hts in_X5_placeFor_X1 hown hK.1 hP 1 rfl rfl 3 (by decide) (hts _ wd_X5_placeFor_f70) (fun _ h9 => h9) rfl dX5_placeFor_4 ?_
  refine lv_iload_n hx hb dX5_placeFor_7 rfl (lv_at hl 1 rfl) ?_
  obtain ⟨g1, h⟩ := gd_t h
  refine iv_iald (f := z.1.2.2.2.1) (j := x1.toNat) hx hb hK.1 hP 5 0 rfl rfl (by decide) g1 rfl dX5_placeFor_8 ?_
  refine lv_aload_n hx hb dX5_placeFor_9 rfl (lv_at hl 0 rfl) ?_
  refine va_get (D := E.1) (ci := 5) (v := .ref (a 15)) (C := RX5) (T := TX5) (N := 8) hx hb hts in_X5_placeFor_X5 hown hK.1 hP 0 rfl rfl 2 (by decide) (hts _ wd_X5_placeFor_f34) (fun _ h9 => h9) rfl dX5_placeFor_10 ?_
  refine iv_iconst hx hb dX5_placeFor_13 ?_
  refine iv_iald (f := z.2.2.1) (j := 3) hx hb hK.1 hP 15 0 rfl rfl (by decide) (by decide +kernel) rfl dX5_placeFor_14 ?_
  obtain ⟨g2, h⟩ := gd_t h
  obtain ⟨g3, h⟩ := gd_t h
  refine iv_ile (tgt := 20) hx hb g2 g3 dX5_placeFor_15 (by decide) (fun c4 => ?_) (fun c4 => ?_)
  · have h := it_t c4 h
    refine lv_aload_n hx hb dX5_placeFor_20 rfl (lv_at hl 0 rfl) ?_
    refine va_get (D := E.1) (ci := 5) (v := .ref (a 1)) (C := RX5) (T := TX5) (N := 8) hx hb hts in_X5_placeFor_X5 hown hK.1 hP 0 rfl rfl 0 (by decide) (hts _ wd_X5_placeFor_f12) (fun _ h9 => h9) rfl dX5_placeFor_21 ?_
    refine va_get (D := E.1) (ci := 1) (v := .ref (a 4)) (C := RX1) (T := TX1) (N := 7) hx hb hts in_X5_placeFor_X1 hown hK.1 hP 1 rfl rfl 2 (by decide) (hts _ wd_X5_placeFor_f66) (fun _ h9 => h9) rfl dX5_placeFor_24 ?_
    refine lv_iload_n hx hb dX5_placeFor_27 rfl (lv_at hl 1 rfl) ?_
    refine iv_iald (f := z.1.2.2.1) (j := x1.toNat) hx hb hK.1 hP 4 0 rfl rfl (by decide) g1 rfl dX5_placeFor_28 ?_
    refine lv_aload_n hx hb dX5_placeFor_29 rfl (lv_at hl 0 rfl) ?_
    refine va_get (D := E.1) (ci := 5) (v := .ref (a 15)) (C := RX5) (T := TX5) (N := 8) hx hb hts in_X5_placeFor_X5 hown hK.1 hP 0 rfl rfl 2 (by decide) (hts _ wd_X5_placeFor_f34) (fun _ h9 => h9) rfl dX5_placeFor_30 ?_
    refine iv_iconst hx hb dX5_placeFor_33 ?_
    refine iv_iald (f := z.2.2.1) (j := 4) hx hb hK.1 hP 15 0 rfl rfl (by decide) (by decide +kernel) rfl dX5_placeFor_34 ?_
    obtain ⟨g5, h⟩ := gd_t h
    obtain ⟨g6, h⟩ := gd_t h
    refine iv_ilt (tgt := 64) hx hb g5 g6 dX5_placeFor_35 (by decide) (fun c7 => ?_) (fun c7 => ?_)
    · have h := it_t c7 h
      refine lv_aload_n hx hb dX5_placeFor_64 rfl (lv_at hl 0 rfl) ?_
      refine va_get (D := E.1) (ci := 5) (v := .ref (a 1)) (C := RX5) (T := TX5) (N := 8) hx hb hts in_X5_placeFor_X5 hown hK.1 hP 0 rfl rfl 0 (by decide) (hts _ wd_X5_placeFor_f12) (fun _ h9 => h9) rfl dX5_placeFor_65 ?_
      refine va_get (D := E.1) (ci := 1) (v := .ref (a 3)) (C := RX1) (T := TX1) (N := 7) hx hb hts in_X5_placeFor_X1 hown hK.1 hP 1 rfl rfl 1 (by decide) (hts _ wd_X5_placeFor_f62) (fun _ h9 => h9) rfl dX5_placeFor_68 ?_
      refine lv_iload_n hx hb dX5_placeFor_71 rfl (lv_at hl 1 rfl) ?_
      refine iv_iald (f := z.1.2.1) (j := x1.toNat) hx hb hK.1 hP 3 0 rfl rfl (by decide) g1 rfl dX5_placeFor_72 ?_
      refine lv_aload_n hx hb dX5_placeFor_73 rfl (lv_at hl 0 rfl) ?_
      refine va_get (D := E.1) (ci := 5) (v := .ref (a 15)) (C := RX5) (T := TX5) (N := 8) hx hb hts in_X5_placeFor_X5 hown hK.1 hP 0 rfl rfl 2 (by decide) (hts _ wd_X5_placeFor_f34) (fun _ h9 => h9) rfl dX5_placeFor_74 ?_
      refine iv_iconst hx hb dX5_placeFor_77 ?_
      refine iv_iald (f := z.2.2.1) (j := 2) hx hb hK.1 hP 15 0 rfl rfl (by decide) (by decide +kernel) rfl dX5_placeFor_78 ?_
      obtain ⟨g8, h⟩ := gd_t h
      obtain ⟨g9, h⟩ := gd_t h
      refine iv_ile (tgt := 84) hx hb g8 g9 dX5_placeFor_79 (by decide) (fun c10 => ?_) (fun c10 => ?_)
      · have h := it_t c10 h
        refine lv_aload_n hx hb dX5_placeFor_84 rfl (lv_at hl 0 rfl) ?_
        refine lv_aload_n hx hb dX5_placeFor_85 rfl (lv_at hl 0 rfl) ?_
        refine lv_iload_n hx hb dX5_placeFor_86 rfl (lv_at hl 1 rfl) ?_
        obtain ⟨u11, q12, h⟩ := bd_t h
        refine iv_callIf (As := [.int (zi x1)]) (rest := [.ref (a 0)]) ⟨hx, hb, hml, hown, hts⟩ (k_X5_binFor l E a H.size N x1 z u11 q12) (cwV 1 hts gX5_placeFor_X5_binFor rfl rfl rfl (by decide +kernel) ⟨Nat.le_of_ble_eq_true rfl, Nat.le_of_ble_eq_true rfl⟩) hK hP hD hS hA 0 5 rfl rfl rfl hl.1 (Nat.le_of_ble_eq_true rfl) ⟨Nat.zero_le _, Nat.zero_le _⟩ dX5_placeFor_87 (fun H locs hP hD hS => ?_)
        obtain ⟨u13, q14, h⟩ := bd_t h
        refine iv_callIf (As := [.int (zi u11.1)]) (rest := []) ⟨hx, hb, hml, hown, hts⟩ (k_X5_hasRoom l E a H.size u11.1 u11.2 u13 q14) (cwV 1 hts gX5_placeFor_X5_hasRoom rfl rfl rfl (by decide +kernel) ⟨Nat.le_of_ble_eq_true rfl, Nat.le_of_ble_eq_true rfl⟩) hK hP hD hS hA 0 5 rfl rfl rfl hl.1 (Nat.le_of_ble_eq_true rfl) ⟨Nat.zero_le _, Nat.zero_le _⟩ dX5_placeFor_90 (fun H locs hP hD hS => ?_)
        obtain ⟨g15, h⟩ := gd_t h
        refine iv_eq (tgt := 100) hx hb g15 dX5_placeFor_93 (by decide) (fun c16 => ?_) (fun c16 => ?_)
        · have h := it_t c16 h
          refine iv_iconst hx hb dX5_placeFor_100 ?_
          cases h
          exact iv_iret hx hb hr hlocks hK hP hD hS dX5_placeFor_101
        · have h := it_f c16 h
          refine iv_iconst hx hb dX5_placeFor_96 ?_
          refine lv_goto (tgt := 101) hx hb dX5_placeFor_97 (by decide) ?_
          cases h
          exact iv_iret hx hb hr hlocks hK hP hD hS dX5_placeFor_101
      · have h := it_f c10 h
        refine iv_iconst hx hb dX5_placeFor_82 ?_
        cases h
        exact iv_iret hx hb hr hlocks hK hP hD hS dX5_placeFor_83
    · have h := it_f c7 h
      refine lv_aload_n hx hb dX5_placeFor_38 rfl (lv_at hl 0 rfl) ?_
      refine va_get (D := E.1) (ci := 5) (v := .ref (a 8)) (C := RX5) (T := TX5) (N := 8) hx hb hts in_X5_placeFor_X5 hown hK.1 hP 0 rfl rfl 1 (by decide) (hts _ wd_X5_placeFor_f21) (fun _ h9 => h9) rfl dX5_placeFor_39 ?_
      refine va_get (D := E.1) (ci := 4) (v := .ref (a 13)) (C := RX4) (T := TX4) (N := 6) hx hb hts in_X5_placeFor_X4 hown hK.1 hP 8 rfl rfl 4 (by decide) (hts _ wd_X5_placeFor_f85) (fun _ h9 => h9) rfl dX5_placeFor_42 ?_
      refine iv_iconst hx hb dX5_placeFor_45 ?_
      refine iv_iald (f := z.2.1.2.2.2.2.1) (j := 2) hx hb hK.1 hP 13 0 rfl rfl (by decide) (by decide +kernel) rfl dX5_placeFor_46 ?_
      refine iv_iconst hx hb dX5_placeFor_47 ?_
      refine iv_iadd hx hb dX5_placeFor_48 ?_
      refine lv_aload_n hx hb dX5_placeFor_49 rfl (lv_at hl 0 rfl) ?_
      refine va_get (D := E.1) (ci := 5) (v := .ref (a 15)) (C := RX5) (T := TX5) (N := 8) hx hb hts in_X5_placeFor_X5 hown hK.1 hP 0 rfl rfl 2 (by decide) (hts _ wd_X5_placeFor_f34) (fun _ h9 => h9) rfl dX5_placeFor_50 ?_
      refine iv_iconst hx hb dX5_placeFor_53 ?_
      refine iv_iald (f := z.2.2.1) (j := 5) hx hb hK.1 hP 15 0 rfl rfl (by decide) (by decide +kernel) rfl dX5_placeFor_54 ?_
      obtain ⟨g17, h⟩ := gd_t h
      obtain ⟨g18, h⟩ := gd_t h
      refine iv_ilt (tgt := 62) hx hb g17 g18 dX5_placeFor_55 (by decide) (fun c19 => ?_) (fun c19 => ?_)
      · have h := it_t c19 h
        refine iv_iconst hx hb dX5_placeFor_62 ?_
        cases h
        exact iv_iret hx hb hr hlocks hK hP hD hS dX5_placeFor_63
      · have h := it_f c19 h
        refine iv_iconst hx hb dX5_placeFor_58 ?_
        refine lv_goto (tgt := 63) hx hb dX5_placeFor_59 (by decide) ?_
        cases h
        exact iv_iret hx hb hr hlocks hK hP hD hS dX5_placeFor_63
  · have h := it_f c4 h
    refine iv_iconst hx hb dX5_placeFor_18 ?_
    cases h
    exact iv_iret hx hb hr hlocks hK hP hD hS dX5_placeFor_19
set_option maxRecDepth 20000 in
theorem wd_X5_emptyMagnet_f12 : Cond.fieldLink RX5 12 "ShirtButtons$State" "buttons" "LShirtButtons$Buttons;" ∈ wsX5_emptyMagnet := by decide +kernel
set_option maxRecDepth 20000 in
theorem in_X5_emptyMagnet_X5 : ∀ w ∈ u_ws RX5 TX5 8, w ∈ wsX5_emptyMagnet := by decide +kernel
set_option maxRecDepth 20000 in
theorem wd_X5_emptyMagnet_f53 : Cond.fieldLink RX5 53 "ShirtButtons$Buttons" "count" "I" ∈ wsX5_emptyMagnet := by decide +kernel
set_option maxRecDepth 20000 in
theorem in_X5_emptyMagnet_X1 : ∀ w ∈ u_ws RX1 TX1 7, w ∈ wsX5_emptyMagnet := by decide +kernel
set_option maxRecDepth 20000 in
theorem wd_X5_emptyMagnet_f21 : Cond.fieldLink RX5 21 "ShirtButtons$State" "places" "LShirtButtons$Places;" ∈ wsX5_emptyMagnet := by decide +kernel
set_option maxRecDepth 20000 in
theorem wd_X5_emptyMagnet_f131 : Cond.fieldLink RX5 131 "ShirtButtons$Places" "place" "[I" ∈ wsX5_emptyMagnet := by decide +kernel
set_option maxRecDepth 20000 in
theorem in_X5_emptyMagnet_X4 : ∀ w ∈ u_ws RX4 TX4 6, w ∈ wsX5_emptyMagnet := by decide +kernel
set_option maxHeartbeats 4000000 in
set_option maxRecDepth 100000 in
theorem k_X5_emptyMagnet (l : Launch) (E : wE) (a : Nat → Nat) (sz : Nat) (N : Nat) (z : bS) (u : bS) (hf : f_X5_emptyMagnet N z = some u) : cV l yX5_emptyMagnet wsX5_emptyMagnet { frames := 3, cells := 0, slots := 0, locals := 66 } E sz [.ref (a 0)] (wS a E z) (wS a E u) := by
  refine met_go (cc := cX5_emptyMagnet) (maxL := 2) (ret := none) (Q0 := mQv E (wS a E u)) (by decide +kernel) rfl (Nat.le_of_ble_eq_true rfl) ?_
  intro A p e s m below meth c hx hb hr hml hts hown hlocks hP hK hD hA hS ls hl
  have hl : lv_has ls 2 [(0, .ref (a 0))] := hl
  generalize hH : s.heap = H at hP
  have hS : va_S A s.heap H [] := by rw [← hH]; exact hS
  have hown : s.vm.findClass RX5 = some m.cls := hown
  have loop2 : ∀ (n : Nat) (v1 : Int) (s2 : bS) (H : Heap) (locs : List Loc) (ls : Array Slot), f_X5_emptyMagnet_L2 N n v1 s2 = some u → va_P E.1 vwCl (wS a E s2) H → va_D A (wS a E s2) → va_S A s.heap H locs → lv_has ls 2 [(0, .ref (a 0)), (1, .int (zi v1))] → W p l e ({ frames := 3, cells := 0, slots := 0, locals := 66 }) s m ([.ref (a 0)] : List Value).toArray below meth c H locs 0 0 (MQ below (mQv E (wS a E u) A) ([.ref (a 0)] : List Value).toArray s 0 0 A) (F0 m 2 ls []) := by
    intro n
    induction n with
    | zero =>
      intro v1 s2 H locs ls h
      exact absurd (show (none : Option bS) = some u from h) (by simp)
    | succ n ih =>
      intro v1 s2 H locs ls h hP hD hS hl
      rw [f_X5_emptyMagnet_L2] at h
      refine lv_iload_n hx hb dX5_emptyMagnet_2 rfl (lv_at hl 1 rfl) ?_
      refine lv_aload_n hx hb dX5_emptyMagnet_3 rfl (lv_at hl 0 rfl) ?_
      refine va_get (D := E.1) (ci := 5) (v := .ref (a 1)) (C := RX5) (T := TX5) (N := 8) hx hb hts in_X5_emptyMagnet_X5 hown hK.1 hP 0 rfl rfl 0 (by decide) (hts _ wd_X5_emptyMagnet_f12) (fun _ h9 => h9) rfl dX5_emptyMagnet_4 ?_
      refine va_get (D := E.1) (ci := 1) (v := .int (zi s2.1.2.2.2.2.2.2)) (C := RX1) (T := TX1) (N := 7) hx hb hts in_X5_emptyMagnet_X1 hown hK.1 hP 1 rfl rfl 6 (by decide) (hts _ wd_X5_emptyMagnet_f53) (fun _ h9 => h9) rfl dX5_emptyMagnet_7 ?_
      obtain ⟨g3, h⟩ := gd_t h
      obtain ⟨g4, h⟩ := gd_t h
      refine iv_ige (tgt := 49) hx hb g3 g4 dX5_emptyMagnet_10 (by decide) (fun c5 => ?_) (fun c5 => ?_)
      · have h := it_t c5 h
        cases h
        exact iv_vret hx hb hr hlocks hK hP hD hS dX5_emptyMagnet_49
      · have h := it_f c5 h
        refine lv_aload_n hx hb dX5_emptyMagnet_13 rfl (lv_at hl 0 rfl) ?_
        refine va_get (D := E.1) (ci := 5) (v := .ref (a 8)) (C := RX5) (T := TX5) (N := 8) hx hb hts in_X5_emptyMagnet_X5 hown hK.1 hP 0 rfl rfl 1 (by decide) (hts _ wd_X5_emptyMagnet_f21) (fun _ h9 => h9) rfl dX5_emptyMagnet_14 ?_
        refine va_get (D := E.1) (ci := 4) (v := .ref (a 9)) (C := RX4) (T := TX4) (N := 6) hx hb hts in_X5_emptyMagnet_X4 hown hK.1 hP 8 rfl rfl 0 (by decide) (hts _ wd_X5_emptyMagnet_f131) (fun _ h9 => h9) rfl dX5_emptyMagnet_17 ?_
        refine lv_iload_n hx hb dX5_emptyMagnet_20 rfl (lv_at hl 1 rfl) ?_
        obtain ⟨g6, h⟩ := gd_t h
        refine iv_iald (f := s2.2.1.1) (j := v1.toNat) hx hb hK.1 hP 9 0 rfl rfl (by decide) g6 rfl dX5_emptyMagnet_21 ?_
        refine iv_iconst hx hb dX5_emptyMagnet_22 ?_
        obtain ⟨g7, h⟩ := gd_t h
        refine iv_ine (tgt := 43) hx hb g7 (by decide +kernel) dX5_emptyMagnet_23 (by decide) (fun c8 => ?_) (fun c8 => ?_)
        · have h := it_f c8 h
          refine lv_iinc (v := zi (v1 + 1)) (lv' := [(1, .int (zi (v1 + 1))), (0, .ref (a 0))]) hx hb dX5_emptyMagnet_43 hl (k := 1) rfl (by rw [zi_add]; rfl) (by decide) rfl (fun ls hl => ?_)
          refine lv_goto (tgt := 2) hx hb dX5_emptyMagnet_46 (by decide) ?_
          exact ih (v1 + 1) s2 _ _ _ h hP hD hS (lv_sub hl [1, 0] rfl)
        · have h := it_t c8 h
          refine lv_aload_n hx hb dX5_emptyMagnet_26 rfl (lv_at hl 0 rfl) ?_
          refine va_get (D := E.1) (ci := 5) (v := .ref (a 8)) (C := RX5) (T := TX5) (N := 8) hx hb hts in_X5_emptyMagnet_X5 hown hK.1 hP 0 rfl rfl 1 (by decide) (hts _ wd_X5_emptyMagnet_f21) (fun _ h9 => h9) rfl dX5_emptyMagnet_27 ?_
          refine lv_iload_n hx hb dX5_emptyMagnet_30 rfl (lv_at hl 1 rfl) ?_
          obtain ⟨u9, q10, h⟩ := bd_t h
          obtain ⟨s11, e12, h⟩ := nm_t h
          refine iv_callVp (As := [.int (zi v1)]) (rest := []) (ws1 := wS a E s11) ⟨hx, hb, hml, hown, hts⟩ (k_X4_leave l E (fun i => a (8 + i)) H.size v1 s2.2.1 u9 q10) (cwV 1 hts gX5_emptyMagnet_X4_leave rfl rfl rfl (by decide +kernel) ⟨Nat.le_of_ble_eq_true rfl, Nat.le_of_ble_eq_true rfl⟩) hK hP hD hS hA 8 4 rfl rfl (pm_skip (pm_skip (pm_last))) (by rw [e12]; exact pm_skip (pm_skip (pm_last))) rfl hl.1 (Nat.le_of_ble_eq_true rfl) ⟨Nat.zero_le _, Nat.zero_le _⟩ dX5_emptyMagnet_31 (fun H locs hP hD hS => ?_)
          refine lv_aload_n hx hb dX5_emptyMagnet_34 rfl (lv_at hl 0 rfl) ?_
          refine va_get (D := E.1) (ci := 5) (v := .ref (a 8)) (C := RX5) (T := TX5) (N := 8) hx hb hts in_X5_emptyMagnet_X5 hown hK.1 hP 0 rfl rfl 1 (by decide) (hts _ wd_X5_emptyMagnet_f21) (fun _ h9 => h9) rfl dX5_emptyMagnet_35 ?_
          refine lv_iload_n hx hb dX5_emptyMagnet_38 rfl (lv_at hl 1 rfl) ?_
          refine iv_iconst hx hb dX5_emptyMagnet_39 ?_
          obtain ⟨u13, q14, h⟩ := bd_t h
          obtain ⟨s15, e16, h⟩ := nm_t h
          refine iv_callVp (As := [.int (zi v1), .int (zi 3)]) (rest := []) (ws1 := wS a E s15) ⟨hx, hb, hml, hown, hts⟩ (k_X4_bring l E (fun i => a (8 + i)) H.size v1 3 s11.2.1 u13 q14) (cwV 2 hts gX5_emptyMagnet_X4_bring rfl rfl rfl (by decide +kernel) ⟨Nat.le_of_ble_eq_true rfl, Nat.le_of_ble_eq_true rfl⟩) hK hP hD hS hA 8 4 rfl rfl (pm_skip (pm_skip (pm_last))) (by rw [e16]; exact pm_skip (pm_skip (pm_last))) rfl hl.1 (Nat.le_of_ble_eq_true rfl) ⟨Nat.zero_le _, Nat.zero_le _⟩ dX5_emptyMagnet_40 (fun H locs hP hD hS => ?_)
          refine lv_iinc (v := zi (v1 + 1)) (lv' := [(1, .int (zi (v1 + 1))), (0, .ref (a 0))]) hx hb dX5_emptyMagnet_43 hl (k := 1) rfl (by rw [zi_add]; rfl) (by decide) rfl (fun ls hl => ?_)
          refine lv_goto (tgt := 2) hx hb dX5_emptyMagnet_46 (by decide) ?_
          exact ih (v1 + 1) s15 _ _ _ h hP hD hS (lv_sub hl [1, 0] rfl)
  have h := hf
  rw [f_X5_emptyMagnet] at h
  refine iv_iconst hx hb dX5_emptyMagnet_0 ?_
  refine lv_istore_n (lv' := [(1, .int (zi 0)), (0, .ref (a 0))]) hx hb dX5_emptyMagnet_1 rfl hl (by decide) rfl (fun ls hl => ?_)
  exact loop2 N 0 z _ _ _ h hP hD hS (lv_sub hl [1, 0] rfl)
set_option maxRecDepth 20000 in
theorem wd_X5_rub_f12 : Cond.fieldLink RX5 12 "ShirtButtons$State" "buttons" "LShirtButtons$Buttons;" ∈ wsX5_rub := by decide +kernel
set_option maxRecDepth 20000 in
theorem in_X5_rub_X5 : ∀ w ∈ u_ws RX5 TX5 8, w ∈ wsX5_rub := by decide +kernel
set_option maxRecDepth 20000 in
theorem wd_X5_rub_f62 : Cond.fieldLink RX5 62 "ShirtButtons$Buttons" "size" "[I" ∈ wsX5_rub := by decide +kernel
set_option maxRecDepth 20000 in
theorem in_X5_rub_X1 : ∀ w ∈ u_ws RX1 TX1 7, w ∈ wsX5_rub := by decide +kernel
set_option maxRecDepth 20000 in
theorem wd_X5_rub_f34 : Cond.fieldLink RX5 34 "ShirtButtons$State" "settings" "[I" ∈ wsX5_rub := by decide +kernel
set_option maxRecDepth 20000 in
theorem wd_X5_rub_f50 : Cond.fieldLink RX5 50 "ShirtButtons$State" "rubbed" "I" ∈ wsX5_rub := by decide +kernel
set_option maxHeartbeats 4000000 in
set_option maxRecDepth 100000 in
theorem k_X5_rub (l : Launch) (E : wE) (a : Nat → Nat) (sz : Nat) (N : Nat) (x1 : Int) (z : bS) (u : bS) (hf : f_X5_rub N x1 z = some u) : cV l yX5_rub wsX5_rub { frames := 1, cells := 0, slots := 0, locals := 22 } E sz [.ref (a 0), .int (zi x1)] (wS a E z) (wS a E u) := by
  refine met_go (cc := cX5_rub) (maxL := 2) (ret := none) (Q0 := mQv E (wS a E u)) (by decide +kernel) rfl (Nat.le_of_ble_eq_true rfl) ?_
  intro A p e s m below meth c hx hb hr hml hts hown hlocks hP hK hD hA hS ls hl
  have hl : lv_has ls 2 [(0, .ref (a 0)), (1, .int (zi x1))] := hl
  generalize hH : s.heap = H at hP
  have hS : va_S A s.heap H [] := by rw [← hH]; exact hS
  have hown : s.vm.findClass RX5 = some m.cls := hown
  have h := hf
  rw [f_X5_rub] at h
  refine lv_aload_n hx hb dX5_rub_0 rfl (lv_at hl 0 rfl) ?_
  refine va_get (D := E.1) (ci := 5) (v := .ref (a 1)) (C := RX5) (T := TX5) (N := 8) hx hb hts in_X5_rub_X5 hown hK.1 hP 0 rfl rfl 0 (by decide) (hts _ wd_X5_rub_f12) (fun _ h9 => h9) rfl dX5_rub_1 ?_
  refine va_get (D := E.1) (ci := 1) (v := .ref (a 3)) (C := RX1) (T := TX1) (N := 7) hx hb hts in_X5_rub_X1 hown hK.1 hP 1 rfl rfl 1 (by decide) (hts _ wd_X5_rub_f62) (fun _ h9 => h9) rfl dX5_rub_4 ?_
  refine lv_iload_n hx hb dX5_rub_7 rfl (lv_at hl 1 rfl) ?_
  obtain ⟨g1, h⟩ := gd_t h
  refine iv_iald (f := z.1.2.1) (j := x1.toNat) hx hb hK.1 hP 3 0 rfl rfl (by decide) g1 rfl dX5_rub_8 ?_
  refine lv_aload_n hx hb dX5_rub_9 rfl (lv_at hl 0 rfl) ?_
  refine va_get (D := E.1) (ci := 5) (v := .ref (a 15)) (C := RX5) (T := TX5) (N := 8) hx hb hts in_X5_rub_X5 hown hK.1 hP 0 rfl rfl 2 (by decide) (hts _ wd_X5_rub_f34) (fun _ h9 => h9) rfl dX5_rub_10 ?_
  refine lv_aload_n hx hb dX5_rub_13 rfl (lv_at hl 0 rfl) ?_
  refine lv_iload_n hx hb dX5_rub_14 rfl (lv_at hl 1 rfl) ?_
  obtain ⟨u2, q3, h⟩ := bd_t h
  refine iv_callIf (As := [.int (zi x1)]) (rest := [.ref (a 15), .int (zi (z.1.2.1 x1.toNat))]) ⟨hx, hb, hml, hown, hts⟩ (k_X5_meshClass l E a H.size N x1 z u2 q3) (cwV 1 hts gX5_rub_X5_meshClass rfl rfl rfl (by decide +kernel) ⟨Nat.le_of_ble_eq_true rfl, Nat.le_of_ble_eq_true rfl⟩) hK hP hD hS hA 0 5 rfl rfl rfl hl.1 (Nat.le_of_ble_eq_true rfl) ⟨Nat.zero_le _, Nat.zero_le _⟩ dX5_rub_15 (fun H locs hP hD hS => ?_)
  obtain ⟨g4, h⟩ := gd_t h
  refine iv_iald (f := u2.2.2.2.1) (j := u2.1.toNat) hx hb hK.1 hP 15 0 rfl rfl (by decide) g4 rfl dX5_rub_18 ?_
  obtain ⟨g5, h⟩ := gd_t h
  obtain ⟨g6, h⟩ := gd_t h
  refine iv_ine (tgt := 40) hx hb g5 g6 dX5_rub_19 (by decide) (fun c7 => ?_) (fun c7 => ?_)
  · have h := it_f c7 h
    cases h
    exact iv_vret hx hb hr hlocks hK hP hD hS dX5_rub_40
  · have h := it_t c7 h
    refine lv_aload_n hx hb dX5_rub_22 rfl (lv_at hl 0 rfl) ?_
    refine lv_dup hx hb dX5_rub_23 rfl ?_
    refine va_get (D := E.1) (ci := 5) (v := .int (zi u2.2.2.2.2.2.2.2.2)) (C := RX5) (T := TX5) (N := 8) hx hb hts in_X5_rub_X5 hown hK.1 hP 0 rfl rfl 7 (by decide) (hts _ wd_X5_rub_f50) (fun _ h9 => h9) rfl dX5_rub_24 ?_
    refine iv_iconst hx hb dX5_rub_27 ?_
    refine iv_iadd hx hb dX5_rub_28 ?_
    obtain ⟨s8, e9, h⟩ := nm_t h
    refine iv_put (D := E.1) (ci := 5) (v := .int (zi (u2.2.2.2.2.2.2.2.2 + 1))) (ty := .int) (ws1 := wS a E s8) (C := RX5) (T := TX5) (N := 8) hx hb hts in_X5_rub_X5 tyX5 tyX5_ok nmX5 hown hK.1 hP hD hS 0 rfl rfl 7 (by decide) (hts _ wd_X5_rub_f50) (fun _ h9 => h9) rfl (by decide +kernel) rfl rfl (Nat.le_of_ble_eq_true rfl) (by rw [e9]; rfl) dX5_rub_29 (fun H locs hP hD hS => ?_)
    refine lv_aload_n hx hb dX5_rub_32 rfl (lv_at hl 0 rfl) ?_
    refine va_get (D := E.1) (ci := 5) (v := .ref (a 1)) (C := RX5) (T := TX5) (N := 8) hx hb hts in_X5_rub_X5 hown hK.1 hP 0 rfl rfl 0 (by decide) (hts _ wd_X5_rub_f12) (fun _ h9 => h9) rfl dX5_rub_33 ?_
    refine lv_iload_n hx hb dX5_rub_36 rfl (lv_at hl 1 rfl) ?_
    obtain ⟨u10, q11, h⟩ := bd_t h
    obtain ⟨s12, e13, h⟩ := nm_t h
    refine iv_callVp (As := [.int (zi x1)]) (rest := []) (ws1 := wS a E s12) ⟨hx, hb, hml, hown, hts⟩ (k_X1_chip l E (fun i => a (1 + i)) H.size x1 s8.1 u10 q11) (cwV 1 hts gX5_rub_X1_chip rfl rfl rfl (by decide +kernel) ⟨Nat.le_of_ble_eq_true rfl, Nat.le_of_ble_eq_true rfl⟩) hK hP hD hS hA 1 1 rfl rfl (pm_skip (pm_last)) (by rw [e13]; exact pm_skip (pm_last)) rfl hl.1 (Nat.le_of_ble_eq_true rfl) ⟨Nat.zero_le _, Nat.zero_le _⟩ dX5_rub_37 (fun H locs hP hD hS => ?_)
    cases h
    exact iv_vret hx hb hr hlocks hK hP hD hS dX5_rub_40
set_option maxRecDepth 20000 in
theorem wd_X5_sortFirst_f21 : Cond.fieldLink RX5 21 "ShirtButtons$State" "places" "LShirtButtons$Places;" ∈ wsX5_sortFirst := by decide +kernel
set_option maxRecDepth 20000 in
theorem in_X5_sortFirst_X5 : ∀ w ∈ u_ws RX5 TX5 8, w ∈ wsX5_sortFirst := by decide +kernel
set_option maxRecDepth 20000 in
theorem wd_X5_sortFirst_f12 : Cond.fieldLink RX5 12 "ShirtButtons$State" "buttons" "LShirtButtons$Buttons;" ∈ wsX5_sortFirst := by decide +kernel
set_option maxRecDepth 20000 in
theorem wd_X5_sortFirst_f78 : Cond.fieldLink RX5 78 "ShirtButtons$Buttons" "sortings" "[I" ∈ wsX5_sortFirst := by decide +kernel
set_option maxRecDepth 20000 in
theorem in_X5_sortFirst_X1 : ∀ w ∈ u_ws RX1 TX1 7, w ∈ wsX5_sortFirst := by decide +kernel
set_option maxRecDepth 20000 in
theorem wd_X5_sortFirst_f44 : Cond.fieldLink RX5 44 "ShirtButtons$State" "sortingsDone" "I" ∈ wsX5_sortFirst := by decide +kernel
set_option maxRecDepth 20000 in
theorem wd_X5_sortFirst_f47 : Cond.fieldLink RX5 47 "ShirtButtons$State" "goneBack" "I" ∈ wsX5_sortFirst := by decide +kernel
set_option maxHeartbeats 4000000 in
set_option maxRecDepth 100000 in
theorem k_X5_sortFirst (l : Launch) (E : wE) (a : Nat → Nat) (sz : Nat) (N : Nat) (z : bS) (u : bS) (hf : f_X5_sortFirst N z = some u) : cV l yX5_sortFirst wsX5_sortFirst { frames := 4, cells := 0, slots := 0, locals := 88 } E sz [.ref (a 0)] (wS a E z) (wS a E u) := by
  refine met_go (cc := cX5_sortFirst) (maxL := 3) (ret := none) (Q0 := mQv E (wS a E u)) (by decide +kernel) rfl (Nat.le_of_ble_eq_true rfl) ?_
  intro A p e s m below meth c hx hb hr hml hts hown hlocks hP hK hD hA hS ls hl
  have hl : lv_has ls 3 [(0, .ref (a 0))] := hl
  generalize hH : s.heap = H at hP
  have hS : va_S A s.heap H [] := by rw [← hH]; exact hS
  have hown : s.vm.findClass RX5 = some m.cls := hown
  have h := hf
  rw [f_X5_sortFirst] at h
  refine lv_aload_n hx hb dX5_sortFirst_0 rfl (lv_at hl 0 rfl) ?_
  refine va_get (D := E.1) (ci := 5) (v := .ref (a 8)) (C := RX5) (T := TX5) (N := 8) hx hb hts in_X5_sortFirst_X5 hown hK.1 hP 0 rfl rfl 1 (by decide) (hts _ wd_X5_sortFirst_f21) (fun _ h9 => h9) rfl dX5_sortFirst_1 ?_
  obtain ⟨u1, q2, h⟩ := bd_t h
  obtain ⟨s3, e4, h⟩ := nm_t h
  refine iv_callIp (As := []) (rest := []) (ws1 := wS a E s3) ⟨hx, hb, hml, hown, hts⟩ (k_X4_takeFirst l E (fun i => a (8 + i)) H.size  z.2.1 u1 q2) (cwV 0 hts gX5_sortFirst_X4_takeFirst rfl rfl rfl (by decide +kernel) ⟨Nat.le_of_ble_eq_true rfl, Nat.le_of_ble_eq_true rfl⟩) hK hP hD hS hA 8 4 rfl rfl (pm_skip (pm_skip (pm_last))) (by rw [e4]; exact pm_skip (pm_skip (pm_last))) rfl hl.1 (Nat.le_of_ble_eq_true rfl) ⟨Nat.zero_le _, Nat.zero_le _⟩ dX5_sortFirst_4 (fun H locs hP hD hS => ?_)
  refine lv_istore_n (lv' := [(1, .int (zi u1.1)), (0, .ref (a 0))]) hx hb dX5_sortFirst_7 rfl hl (by decide) rfl (fun ls hl => ?_)
  refine lv_aload_n hx hb dX5_sortFirst_8 rfl (lv_at hl 1 rfl) ?_
  refine va_get (D := E.1) (ci := 5) (v := .ref (a 1)) (C := RX5) (T := TX5) (N := 8) hx hb hts in_X5_sortFirst_X5 hown hK.1 hP 0 rfl rfl 0 (by decide) (hts _ wd_X5_sortFirst_f12) (fun _ h9 => h9) rfl dX5_sortFirst_9 ?_
  refine lv_iload_n hx hb dX5_sortFirst_12 rfl (lv_at hl 0 rfl) ?_
  obtain ⟨u5, q6, h⟩ := bd_t h
  obtain ⟨s7, e8, h⟩ := nm_t h
  refine iv_callIp (As := [.int (zi u1.1)]) (rest := []) (ws1 := wS a E s7) ⟨hx, hb, hml, hown, hts⟩ (k_X1_has l E (fun i => a (1 + i)) H.size u1.1 s3.1 u5 q6) (cwV 1 hts gX5_sortFirst_X1_has rfl rfl rfl (by decide +kernel) ⟨Nat.le_of_ble_eq_true rfl, Nat.le_of_ble_eq_true rfl⟩) hK hP hD hS hA 1 1 rfl rfl (pm_skip (pm_last)) (by rw [e8]; exact pm_skip (pm_last)) rfl hl.1 (Nat.le_of_ble_eq_true rfl) ⟨Nat.zero_le _, Nat.zero_le _⟩ dX5_sortFirst_13 (fun H locs hP hD hS => ?_)
  obtain ⟨g9, h⟩ := gd_t h
  refine iv_ne (tgt := 20) hx hb g9 dX5_sortFirst_16 (by decide) (fun c10 => ?_) (fun c10 => ?_)
  · have h := it_f c10 h
    refine lv_aload_n hx hb dX5_sortFirst_20 rfl (lv_at hl 1 rfl) ?_
    refine va_get (D := E.1) (ci := 5) (v := .ref (a 1)) (C := RX5) (T := TX5) (N := 8) hx hb hts in_X5_sortFirst_X5 hown hK.1 hP 0 rfl rfl 0 (by decide) (hts _ wd_X5_sortFirst_f12) (fun _ h9 => h9) rfl dX5_sortFirst_21 ?_
    refine va_get (D := E.1) (ci := 1) (v := .ref (a 7)) (C := RX1) (T := TX1) (N := 7) hx hb hts in_X5_sortFirst_X1 hown hK.1 hP 1 rfl rfl 5 (by decide) (hts _ wd_X5_sortFirst_f78) (fun _ h9 => h9) rfl dX5_sortFirst_24 ?_
    refine lv_iload_n hx hb dX5_sortFirst_27 rfl (lv_at hl 0 rfl) ?_
    refine lv_dup2_11 hx hb dX5_sortFirst_28 rfl rfl ?_
    obtain ⟨g11, h⟩ := gd_t h
    refine iv_iald (f := s7.1.2.2.2.2.2.1) (j := u1.1.toNat) hx hb hK.1 hP 7 0 rfl rfl (by decide) g11 rfl dX5_sortFirst_29 ?_
    refine iv_iconst hx hb dX5_sortFirst_30 ?_
    refine iv_iadd hx hb dX5_sortFirst_31 ?_
    obtain ⟨s12, e13, h⟩ := nm_t h
    refine iv_iast (f := s7.1.2.2.2.2.2.1) (j := u1.1.toNat) (ws1 := wS a E s12) hx hb hK.1 hP hD hS 7 0 rfl rfl (by decide) g11 rfl (by rw [e13]; rfl) dX5_sortFirst_32 (fun H locs hP hD hS => ?_)
    refine lv_aload_n hx hb dX5_sortFirst_33 rfl (lv_at hl 1 rfl) ?_
    refine lv_dup hx hb dX5_sortFirst_34 rfl ?_
    refine va_get (D := E.1) (ci := 5) (v := .int (zi s12.2.2.2.2.2.1)) (C := RX5) (T := TX5) (N := 8) hx hb hts in_X5_sortFirst_X5 hown hK.1 hP 0 rfl rfl 5 (by decide) (hts _ wd_X5_sortFirst_f44) (fun _ h9 => h9) rfl dX5_sortFirst_35 ?_
    refine iv_iconst hx hb dX5_sortFirst_38 ?_
    refine iv_iadd hx hb dX5_sortFirst_39 ?_
    obtain ⟨s14, e15, h⟩ := nm_t h
    refine iv_put (D := E.1) (ci := 5) (v := .int (zi (s12.2.2.2.2.2.1 + 1))) (ty := .int) (ws1 := wS a E s14) (C := RX5) (T := TX5) (N := 8) hx hb hts in_X5_sortFirst_X5 tyX5 tyX5_ok nmX5 hown hK.1 hP hD hS 0 rfl rfl 5 (by decide) (hts _ wd_X5_sortFirst_f44) (fun _ h9 => h9) rfl (by decide +kernel) rfl rfl (Nat.le_of_ble_eq_true rfl) (by rw [e15]; rfl) dX5_sortFirst_40 (fun H locs hP hD hS => ?_)
    refine lv_aload_n hx hb dX5_sortFirst_43 rfl (lv_at hl 1 rfl) ?_
    refine lv_iload_n hx hb dX5_sortFirst_44 rfl (lv_at hl 0 rfl) ?_
    obtain ⟨u16, q17, h⟩ := bd_t h
    refine iv_callIf (As := [.int (zi u1.1)]) (rest := []) ⟨hx, hb, hml, hown, hts⟩ (k_X5_placeFor l E a H.size N u1.1 s14 u16 q17) (cwV 1 hts gX5_sortFirst_X5_placeFor rfl rfl rfl (by decide +kernel) ⟨Nat.le_of_ble_eq_true rfl, Nat.le_of_ble_eq_true rfl⟩) hK hP hD hS hA 0 5 rfl rfl rfl hl.1 (Nat.le_of_ble_eq_true rfl) ⟨Nat.zero_le _, Nat.zero_le _⟩ dX5_sortFirst_45 (fun H locs hP hD hS => ?_)
    refine lv_istore_n (lv' := [(2, .int (zi u16.1)), (1, .int (zi u1.1)), (0, .ref (a 0))]) hx hb dX5_sortFirst_48 rfl hl (by decide) rfl (fun ls hl => ?_)
    refine lv_iload_n hx hb dX5_sortFirst_49 rfl (lv_at hl 0 rfl) ?_
    obtain ⟨g18, h⟩ := gd_t h
    by_cases c19 : u16.1 = 0
    · have h := it_t c19 h
      refine lv_lookup (tgt := 121) (off := 71) hx hb dX5_sortFirst_50 (by decide +kernel) (by rw [zi_toInt g18, c19]; decide +kernel) (by decide) ?_
      refine lv_aload_n hx hb dX5_sortFirst_121 rfl (lv_at hl 2 rfl) ?_
      refine lv_iload_n hx hb dX5_sortFirst_122 rfl (lv_at hl 1 rfl) ?_
      obtain ⟨u20, q21, h⟩ := bd_t h
      refine iv_callVf (As := [.int (zi u1.1)]) (rest := []) ⟨hx, hb, hml, hown, hts⟩ (k_X5_rub l E a H.size N u1.1 u16.2 u20 q21) (cwV 1 hts gX5_sortFirst_X5_rub rfl rfl rfl (by decide +kernel) ⟨Nat.le_of_ble_eq_true rfl, Nat.le_of_ble_eq_true rfl⟩) hK hP hD hS hA 0 5 rfl rfl rfl hl.1 (Nat.le_of_ble_eq_true rfl) ⟨Nat.zero_le _, Nat.zero_le _⟩ dX5_sortFirst_123 (fun H locs hP hD hS => ?_)
      refine lv_aload_n hx hb dX5_sortFirst_126 rfl (lv_at hl 2 rfl) ?_
      refine lv_dup hx hb dX5_sortFirst_127 rfl ?_
      refine va_get (D := E.1) (ci := 5) (v := .int (zi u20.2.2.2.2.2.2.1)) (C := RX5) (T := TX5) (N := 8) hx hb hts in_X5_sortFirst_X5 hown hK.1 hP 0 rfl rfl 6 (by decide) (hts _ wd_X5_sortFirst_f47) (fun _ h9 => h9) rfl dX5_sortFirst_128 ?_
      refine iv_iconst hx hb dX5_sortFirst_131 ?_
      refine iv_iadd hx hb dX5_sortFirst_132 ?_
      obtain ⟨s22, e23, h⟩ := nm_t h
      refine iv_put (D := E.1) (ci := 5) (v := .int (zi (u20.2.2.2.2.2.2.1 + 1))) (ty := .int) (ws1 := wS a E s22) (C := RX5) (T := TX5) (N := 8) hx hb hts in_X5_sortFirst_X5 tyX5 tyX5_ok nmX5 hown hK.1 hP hD hS 0 rfl rfl 6 (by decide) (hts _ wd_X5_sortFirst_f47) (fun _ h9 => h9) rfl (by decide +kernel) rfl rfl (Nat.le_of_ble_eq_true rfl) (by rw [e23]; rfl) dX5_sortFirst_133 (fun H locs hP hD hS => ?_)
      refine lv_aload_n hx hb dX5_sortFirst_136 rfl (lv_at hl 2 rfl) ?_
      refine va_get (D := E.1) (ci := 5) (v := .ref (a 8)) (C := RX5) (T := TX5) (N := 8) hx hb hts in_X5_sortFirst_X5 hown hK.1 hP 0 rfl rfl 1 (by decide) (hts _ wd_X5_sortFirst_f21) (fun _ h9 => h9) rfl dX5_sortFirst_137 ?_
      refine lv_iload_n hx hb dX5_sortFirst_140 rfl (lv_at hl 1 rfl) ?_
      obtain ⟨u24, q25, h⟩ := bd_t h
      obtain ⟨s26, e27, h⟩ := nm_t h
      refine iv_callVp (As := [.int (zi u1.1)]) (rest := []) (ws1 := wS a E s26) ⟨hx, hb, hml, hown, hts⟩ (k_X4_bringToHopper l E (fun i => a (8 + i)) H.size u1.1 s22.2.1 u24 q25) (cwV 1 hts gX5_sortFirst_X4_bringToHopper rfl rfl rfl (by decide +kernel) ⟨Nat.le_of_ble_eq_true rfl, Nat.le_of_ble_eq_true rfl⟩) hK hP hD hS hA 8 4 rfl rfl (pm_skip (pm_skip (pm_last))) (by rw [e27]; exact pm_skip (pm_skip (pm_last))) rfl hl.1 (Nat.le_of_ble_eq_true rfl) ⟨Nat.zero_le _, Nat.zero_le _⟩ dX5_sortFirst_141 (fun H locs hP hD hS => ?_)
      refine lv_goto (tgt := 156) hx hb dX5_sortFirst_144 (by decide) ?_
      cases h
      exact iv_vret hx hb hr hlocks hK hP hD hS dX5_sortFirst_156
    have h := it_f c19 h
    by_cases c28 : u16.1 = 3
    · have h := it_t c28 h
      refine lv_lookup (tgt := 84) (off := 34) hx hb dX5_sortFirst_50 (by decide +kernel) (by rw [zi_toInt g18, c28]; decide +kernel) (by decide) ?_
      refine lv_aload_n hx hb dX5_sortFirst_84 rfl (lv_at hl 2 rfl) ?_
      refine va_get (D := E.1) (ci := 5) (v := .ref (a 8)) (C := RX5) (T := TX5) (N := 8) hx hb hts in_X5_sortFirst_X5 hown hK.1 hP 0 rfl rfl 1 (by decide) (hts _ wd_X5_sortFirst_f21) (fun _ h9 => h9) rfl dX5_sortFirst_85 ?_
      refine lv_iload_n hx hb dX5_sortFirst_88 rfl (lv_at hl 1 rfl) ?_
      refine iv_iconst hx hb dX5_sortFirst_89 ?_
      obtain ⟨u29, q30, h⟩ := bd_t h
      obtain ⟨s31, e32, h⟩ := nm_t h
      refine iv_callVp (As := [.int (zi u1.1), .int (zi 2)]) (rest := []) (ws1 := wS a E s31) ⟨hx, hb, hml, hown, hts⟩ (k_X4_bring l E (fun i => a (8 + i)) H.size u1.1 2 u16.2.2.1 u29 q30) (cwV 2 hts gX5_sortFirst_X4_bring rfl rfl rfl (by decide +kernel) ⟨Nat.le_of_ble_eq_true rfl, Nat.le_of_ble_eq_true rfl⟩) hK hP hD hS hA 8 4 rfl rfl (pm_skip (pm_skip (pm_last))) (by rw [e32]; exact pm_skip (pm_skip (pm_last))) rfl hl.1 (Nat.le_of_ble_eq_true rfl) ⟨Nat.zero_le _, Nat.zero_le _⟩ dX5_sortFirst_90 (fun H locs hP hD hS => ?_)
      refine lv_aload_n hx hb dX5_sortFirst_93 rfl (lv_at hl 2 rfl) ?_
      obtain ⟨u33, q34, h⟩ := bd_t h
      refine iv_callVf (As := []) (rest := []) ⟨hx, hb, hml, hown, hts⟩ (k_X5_emptyMagnet l E a H.size N  s31 u33 q34) (cwV 0 hts gX5_sortFirst_X5_emptyMagnet rfl rfl rfl (by decide +kernel) ⟨Nat.le_of_ble_eq_true rfl, Nat.le_of_ble_eq_true rfl⟩) hK hP hD hS hA 0 5 rfl rfl rfl hl.1 (Nat.le_of_ble_eq_true rfl) ⟨Nat.zero_le _, Nat.zero_le _⟩ dX5_sortFirst_94 (fun H locs hP hD hS => ?_)
      refine lv_goto (tgt := 156) hx hb dX5_sortFirst_97 (by decide) ?_
      cases h
      exact iv_vret hx hb hr hlocks hK hP hD hS dX5_sortFirst_156
    have h := it_f c28 h
    by_cases c35 : u16.1 = 5
    · have h := it_t c35 h
      refine lv_lookup (tgt := 100) (off := 50) hx hb dX5_sortFirst_50 (by decide +kernel) (by rw [zi_toInt g18, c35]; decide +kernel) (by decide) ?_
      refine lv_aload_n hx hb dX5_sortFirst_100 rfl (lv_at hl 2 rfl) ?_
      refine lv_iload_n hx hb dX5_sortFirst_101 rfl (lv_at hl 1 rfl) ?_
      obtain ⟨u36, q37, h⟩ := bd_t h
      refine iv_callVf (As := [.int (zi u1.1)]) (rest := []) ⟨hx, hb, hml, hown, hts⟩ (k_X5_rub l E a H.size N u1.1 u16.2 u36 q37) (cwV 1 hts gX5_sortFirst_X5_rub rfl rfl rfl (by decide +kernel) ⟨Nat.le_of_ble_eq_true rfl, Nat.le_of_ble_eq_true rfl⟩) hK hP hD hS hA 0 5 rfl rfl rfl hl.1 (Nat.le_of_ble_eq_true rfl) ⟨Nat.zero_le _, Nat.zero_le _⟩ dX5_sortFirst_102 (fun H locs hP hD hS => ?_)
      refine lv_aload_n hx hb dX5_sortFirst_105 rfl (lv_at hl 2 rfl) ?_
      refine va_get (D := E.1) (ci := 5) (v := .ref (a 8)) (C := RX5) (T := TX5) (N := 8) hx hb hts in_X5_sortFirst_X5 hown hK.1 hP 0 rfl rfl 1 (by decide) (hts _ wd_X5_sortFirst_f21) (fun _ h9 => h9) rfl dX5_sortFirst_106 ?_
      refine lv_iload_n hx hb dX5_sortFirst_109 rfl (lv_at hl 1 rfl) ?_
      refine lv_aload_n hx hb dX5_sortFirst_110 rfl (lv_at hl 2 rfl) ?_
      refine lv_iload_n hx hb dX5_sortFirst_111 rfl (lv_at hl 1 rfl) ?_
      obtain ⟨u38, q39, h⟩ := bd_t h
      refine iv_callIf (As := [.int (zi u1.1)]) (rest := [.int (zi u1.1), .ref (a 8)]) ⟨hx, hb, hml, hown, hts⟩ (k_X5_binFor l E a H.size N u1.1 u36 u38 q39) (cwV 1 hts gX5_sortFirst_X5_binFor rfl rfl rfl (by decide +kernel) ⟨Nat.le_of_ble_eq_true rfl, Nat.le_of_ble_eq_true rfl⟩) hK hP hD hS hA 0 5 rfl rfl rfl hl.1 (Nat.le_of_ble_eq_true rfl) ⟨Nat.zero_le _, Nat.zero_le _⟩ dX5_sortFirst_112 (fun H locs hP hD hS => ?_)
      obtain ⟨u40, q41, h⟩ := bd_t h
      obtain ⟨s42, e43, h⟩ := nm_t h
      refine iv_callVp (As := [.int (zi u1.1), .int (zi u38.1)]) (rest := []) (ws1 := wS a E s42) ⟨hx, hb, hml, hown, hts⟩ (k_X4_bringToBin l E (fun i => a (8 + i)) H.size u1.1 u38.1 u38.2.2.1 u40 q41) (cwV 2 hts gX5_sortFirst_X4_bringToBin rfl rfl rfl (by decide +kernel) ⟨Nat.le_of_ble_eq_true rfl, Nat.le_of_ble_eq_true rfl⟩) hK hP hD hS hA 8 4 rfl rfl (pm_skip (pm_skip (pm_last))) (by rw [e43]; exact pm_skip (pm_skip (pm_last))) rfl hl.1 (Nat.le_of_ble_eq_true rfl) ⟨Nat.zero_le _, Nat.zero_le _⟩ dX5_sortFirst_115 (fun H locs hP hD hS => ?_)
      refine lv_goto (tgt := 156) hx hb dX5_sortFirst_118 (by decide) ?_
      cases h
      exact iv_vret hx hb hr hlocks hK hP hD hS dX5_sortFirst_156
    have h := it_f c35 h
    refine lv_lookup (tgt := 147) (off := 97) hx hb dX5_sortFirst_50 (by decide +kernel) (by rw [zi_toInt g18]; simp only [Op.lookupswitch.offset_cons, if_neg (show ¬ (0 = u16.1) from fun q => c19 q.symm), if_neg (show ¬ (3 = u16.1) from fun q => c28 q.symm), if_neg (show ¬ (5 = u16.1) from fun q => c35 q.symm)]; rfl) (by decide) ?_
    refine lv_aload_n hx hb dX5_sortFirst_147 rfl (lv_at hl 2 rfl) ?_
    refine va_get (D := E.1) (ci := 5) (v := .ref (a 8)) (C := RX5) (T := TX5) (N := 8) hx hb hts in_X5_sortFirst_X5 hown hK.1 hP 0 rfl rfl 1 (by decide) (hts _ wd_X5_sortFirst_f21) (fun _ h9 => h9) rfl dX5_sortFirst_148 ?_
    refine lv_iload_n hx hb dX5_sortFirst_151 rfl (lv_at hl 1 rfl) ?_
    refine lv_iload_n hx hb dX5_sortFirst_152 rfl (lv_at hl 0 rfl) ?_
    obtain ⟨u44, q45, h⟩ := bd_t h
    obtain ⟨s46, e47, h⟩ := nm_t h
    refine iv_callVp (As := [.int (zi u1.1), .int (zi u16.1)]) (rest := []) (ws1 := wS a E s46) ⟨hx, hb, hml, hown, hts⟩ (k_X4_bring l E (fun i => a (8 + i)) H.size u1.1 u16.1 u16.2.2.1 u44 q45) (cwV 2 hts gX5_sortFirst_X4_bring rfl rfl rfl (by decide +kernel) ⟨Nat.le_of_ble_eq_true rfl, Nat.le_of_ble_eq_true rfl⟩) hK hP hD hS hA 8 4 rfl rfl (pm_skip (pm_skip (pm_last))) (by rw [e47]; exact pm_skip (pm_skip (pm_last))) rfl hl.1 (Nat.le_of_ble_eq_true rfl) ⟨Nat.zero_le _, Nat.zero_le _⟩ dX5_sortFirst_153 (fun H locs hP hD hS => ?_)
    cases h
    exact iv_vret hx hb hr hlocks hK hP hD hS dX5_sortFirst_156
  · have h := it_t c10 h
    cases h
    exact iv_vret hx hb hr hlocks hK hP hD hS dX5_sortFirst_19
set_option maxRecDepth 20000 in
theorem wd_X5_emptyBin_f12 : Cond.fieldLink RX5 12 "ShirtButtons$State" "buttons" "LShirtButtons$Buttons;" ∈ wsX5_emptyBin := by decide +kernel
set_option maxRecDepth 20000 in
theorem in_X5_emptyBin_X5 : ∀ w ∈ u_ws RX5 TX5 8, w ∈ wsX5_emptyBin := by decide +kernel
set_option maxRecDepth 20000 in
theorem wd_X5_emptyBin_f53 : Cond.fieldLink RX5 53 "ShirtButtons$Buttons" "count" "I" ∈ wsX5_emptyBin := by decide +kernel
set_option maxRecDepth 20000 in
theorem in_X5_emptyBin_X1 : ∀ w ∈ u_ws RX1 TX1 7, w ∈ wsX5_emptyBin := by decide +kernel
set_option maxRecDepth 20000 in
theorem wd_X5_emptyBin_f21 : Cond.fieldLink RX5 21 "ShirtButtons$State" "places" "LShirtButtons$Places;" ∈ wsX5_emptyBin := by decide +kernel
set_option maxRecDepth 20000 in
theorem wd_X5_emptyBin_f137 : Cond.fieldLink RX5 137 "ShirtButtons$Places" "binOf" "[I" ∈ wsX5_emptyBin := by decide +kernel
set_option maxRecDepth 20000 in
theorem in_X5_emptyBin_X4 : ∀ w ∈ u_ws RX4 TX4 6, w ∈ wsX5_emptyBin := by decide +kernel
set_option maxHeartbeats 4000000 in
set_option maxRecDepth 100000 in
theorem k_X5_emptyBin (l : Launch) (E : wE) (a : Nat → Nat) (sz : Nat) (N : Nat) (x1 : Int) (z : bS) (u : bS) (hf : f_X5_emptyBin N x1 z = some u) : cV l yX5_emptyBin wsX5_emptyBin { frames := 4, cells := 0, slots := 0, locals := 88 } E sz [.ref (a 0), .int (zi x1)] (wS a E z) (wS a E u) := by
  refine met_go (cc := cX5_emptyBin) (maxL := 3) (ret := none) (Q0 := mQv E (wS a E u)) (by decide +kernel) rfl (Nat.le_of_ble_eq_true rfl) ?_
  intro A p e s m below meth c hx hb hr hml hts hown hlocks hP hK hD hA hS ls hl
  have hl : lv_has ls 3 [(0, .ref (a 0)), (1, .int (zi x1))] := hl
  generalize hH : s.heap = H at hP
  have hS : va_S A s.heap H [] := by rw [← hH]; exact hS
  have hown : s.vm.findClass RX5 = some m.cls := hown
  have loop2 : ∀ (n : Nat) (v1 v2 : Int) (s3 : bS) (H : Heap) (locs : List Loc) (ls : Array Slot), f_X5_emptyBin_L2 N n v1 v2 s3 = some u → va_P E.1 vwCl (wS a E s3) H → va_D A (wS a E s3) → va_S A s.heap H locs → lv_has ls 3 [(0, .ref (a 0)), (1, .int (zi v1)), (2, .int (zi v2))] → W p l e ({ frames := 4, cells := 0, slots := 0, locals := 88 }) s m ([.ref (a 0), .int (zi x1)] : List Value).toArray below meth c H locs 0 0 (MQ below (mQv E (wS a E u) A) ([.ref (a 0), .int (zi x1)] : List Value).toArray s 0 0 A) (F0 m 2 ls []) := by
    intro n
    induction n with
    | zero =>
      intro v1 v2 s3 H locs ls h
      exact absurd (show (none : Option bS) = some u from h) (by simp)
    | succ n ih =>
      intro v1 v2 s3 H locs ls h hP hD hS hl
      rw [f_X5_emptyBin_L2] at h
      refine lv_iload_n hx hb dX5_emptyBin_2 rfl (lv_at hl 2 rfl) ?_
      refine lv_aload_n hx hb dX5_emptyBin_3 rfl (lv_at hl 0 rfl) ?_
      refine va_get (D := E.1) (ci := 5) (v := .ref (a 1)) (C := RX5) (T := TX5) (N := 8) hx hb hts in_X5_emptyBin_X5 hown hK.1 hP 0 rfl rfl 0 (by decide) (hts _ wd_X5_emptyBin_f12) (fun _ h9 => h9) rfl dX5_emptyBin_4 ?_
      refine va_get (D := E.1) (ci := 1) (v := .int (zi s3.1.2.2.2.2.2.2)) (C := RX1) (T := TX1) (N := 7) hx hb hts in_X5_emptyBin_X1 hown hK.1 hP 1 rfl rfl 6 (by decide) (hts _ wd_X5_emptyBin_f53) (fun _ h9 => h9) rfl dX5_emptyBin_7 ?_
      obtain ⟨g4, h⟩ := gd_t h
      obtain ⟨g5, h⟩ := gd_t h
      refine iv_ige (tgt := 48) hx hb g4 g5 dX5_emptyBin_10 (by decide) (fun c6 => ?_) (fun c6 => ?_)
      · have h := it_t c6 h
        cases h
        exact iv_vret hx hb hr hlocks hK hP hD hS dX5_emptyBin_48
      · have h := it_f c6 h
        refine lv_aload_n hx hb dX5_emptyBin_13 rfl (lv_at hl 0 rfl) ?_
        refine va_get (D := E.1) (ci := 5) (v := .ref (a 8)) (C := RX5) (T := TX5) (N := 8) hx hb hts in_X5_emptyBin_X5 hown hK.1 hP 0 rfl rfl 1 (by decide) (hts _ wd_X5_emptyBin_f21) (fun _ h9 => h9) rfl dX5_emptyBin_14 ?_
        refine va_get (D := E.1) (ci := 4) (v := .ref (a 10)) (C := RX4) (T := TX4) (N := 6) hx hb hts in_X5_emptyBin_X4 hown hK.1 hP 8 rfl rfl 1 (by decide) (hts _ wd_X5_emptyBin_f137) (fun _ h9 => h9) rfl dX5_emptyBin_17 ?_
        refine lv_iload_n hx hb dX5_emptyBin_20 rfl (lv_at hl 2 rfl) ?_
        obtain ⟨g7, h⟩ := gd_t h
        refine iv_iald (f := s3.2.1.2.1) (j := v2.toNat) hx hb hK.1 hP 10 0 rfl rfl (by decide) g7 rfl dX5_emptyBin_21 ?_
        refine lv_iload_n hx hb dX5_emptyBin_22 rfl (lv_at hl 1 rfl) ?_
        obtain ⟨g8, h⟩ := gd_t h
        obtain ⟨g9, h⟩ := gd_t h
        refine iv_ine (tgt := 42) hx hb g8 g9 dX5_emptyBin_23 (by decide) (fun c10 => ?_) (fun c10 => ?_)
        · have h := it_f c10 h
          refine lv_iinc (v := zi (v2 + 1)) (lv' := [(2, .int (zi (v2 + 1))), (0, .ref (a 0)), (1, .int (zi v1))]) hx hb dX5_emptyBin_42 hl (k := 2) rfl (by rw [zi_add]; rfl) (by decide) rfl (fun ls hl => ?_)
          refine lv_goto (tgt := 2) hx hb dX5_emptyBin_45 (by decide) ?_
          exact ih v1 (v2 + 1) s3 _ _ _ h hP hD hS (lv_sub hl [1, 2, 0] rfl)
        · have h := it_t c10 h
          refine lv_aload_n hx hb dX5_emptyBin_26 rfl (lv_at hl 0 rfl) ?_
          refine va_get (D := E.1) (ci := 5) (v := .ref (a 8)) (C := RX5) (T := TX5) (N := 8) hx hb hts in_X5_emptyBin_X5 hown hK.1 hP 0 rfl rfl 1 (by decide) (hts _ wd_X5_emptyBin_f21) (fun _ h9 => h9) rfl dX5_emptyBin_27 ?_
          refine lv_iload_n hx hb dX5_emptyBin_30 rfl (lv_at hl 2 rfl) ?_
          obtain ⟨u11, q12, h⟩ := bd_t h
          obtain ⟨s13, e14, h⟩ := nm_t h
          refine iv_callVp (As := [.int (zi v2)]) (rest := []) (ws1 := wS a E s13) ⟨hx, hb, hml, hown, hts⟩ (k_X4_leave l E (fun i => a (8 + i)) H.size v2 s3.2.1 u11 q12) (cwV 1 hts gX5_emptyBin_X4_leave rfl rfl rfl (by decide +kernel) ⟨Nat.le_of_ble_eq_true rfl, Nat.le_of_ble_eq_true rfl⟩) hK hP hD hS hA 8 4 rfl rfl (pm_skip (pm_skip (pm_last))) (by rw [e14]; exact pm_skip (pm_skip (pm_last))) rfl hl.1 (Nat.le_of_ble_eq_true rfl) ⟨Nat.zero_le _, Nat.zero_le _⟩ dX5_emptyBin_31 (fun H locs hP hD hS => ?_)
          refine lv_aload_n hx hb dX5_emptyBin_34 rfl (lv_at hl 0 rfl) ?_
          refine va_get (D := E.1) (ci := 5) (v := .ref (a 8)) (C := RX5) (T := TX5) (N := 8) hx hb hts in_X5_emptyBin_X5 hown hK.1 hP 0 rfl rfl 1 (by decide) (hts _ wd_X5_emptyBin_f21) (fun _ h9 => h9) rfl dX5_emptyBin_35 ?_
          refine lv_iload_n hx hb dX5_emptyBin_38 rfl (lv_at hl 2 rfl) ?_
          obtain ⟨u15, q16, h⟩ := bd_t h
          obtain ⟨s17, e18, h⟩ := nm_t h
          refine iv_callVp (As := [.int (zi v2)]) (rest := []) (ws1 := wS a E s17) ⟨hx, hb, hml, hown, hts⟩ (k_X4_bringToHopper l E (fun i => a (8 + i)) H.size v2 s13.2.1 u15 q16) (cwV 1 hts gX5_emptyBin_X4_bringToHopper rfl rfl rfl (by decide +kernel) ⟨Nat.le_of_ble_eq_true rfl, Nat.le_of_ble_eq_true rfl⟩) hK hP hD hS hA 8 4 rfl rfl (pm_skip (pm_skip (pm_last))) (by rw [e18]; exact pm_skip (pm_skip (pm_last))) rfl hl.1 (Nat.le_of_ble_eq_true rfl) ⟨Nat.zero_le _, Nat.zero_le _⟩ dX5_emptyBin_39 (fun H locs hP hD hS => ?_)
          refine lv_iinc (v := zi (v2 + 1)) (lv' := [(2, .int (zi (v2 + 1))), (0, .ref (a 0)), (1, .int (zi v1))]) hx hb dX5_emptyBin_42 hl (k := 2) rfl (by rw [zi_add]; rfl) (by decide) rfl (fun ls hl => ?_)
          refine lv_goto (tgt := 2) hx hb dX5_emptyBin_45 (by decide) ?_
          exact ih v1 (v2 + 1) s17 _ _ _ h hP hD hS (lv_sub hl [1, 2, 0] rfl)
  have h := hf
  rw [f_X5_emptyBin] at h
  refine iv_iconst hx hb dX5_emptyBin_0 ?_
  refine lv_istore_n (lv' := [(2, .int (zi 0)), (0, .ref (a 0)), (1, .int (zi x1))]) hx hb dX5_emptyBin_1 rfl hl (by decide) rfl (fun ls hl => ?_)
  exact loop2 N x1 0 z _ _ _ h hP hD hS (lv_sub hl [1, 2, 0] rfl)
set_option maxRecDepth 20000 in
theorem wd_X5_makeShirt_m148 : Cond.methodLink RX5 148 Lib.Math.max.name ∈ wsX5_makeShirt := by decide +kernel
set_option maxRecDepth 20000 in
theorem wd_X5_makeShirt_maxs : Cond.static Lib.Math.max.name ∈ wsX5_makeShirt := by decide +kernel
set_option maxRecDepth 20000 in
theorem wd_X5_makeShirt_maxi : Cond.initialized "java/lang/Math" ∈ wsX5_makeShirt := by decide +kernel
set_option maxRecDepth 20000 in
theorem wd_X5_makeShirt_maxc : Cond.code Lib.Math.max.name Lib.Math.max.code 2 (some .int) ∈ wsX5_makeShirt := by decide +kernel
set_option maxRecDepth 20000 in
theorem wd_X5_makeShirt_f37 : Cond.fieldLink RX5 37 "ShirtButtons$State" "shirtsMade" "I" ∈ wsX5_makeShirt := by decide +kernel
set_option maxRecDepth 20000 in
theorem in_X5_makeShirt_X5 : ∀ w ∈ u_ws RX5 TX5 8, w ∈ wsX5_makeShirt := by decide +kernel
set_option maxRecDepth 20000 in
theorem wd_X5_makeShirt_f41 : Cond.fieldLink RX5 41 "ShirtButtons$State" "worthMade" "I" ∈ wsX5_makeShirt := by decide +kernel
set_option maxRecDepth 20000 in
theorem wd_X5_makeShirt_f12 : Cond.fieldLink RX5 12 "ShirtButtons$State" "buttons" "LShirtButtons$Buttons;" ∈ wsX5_makeShirt := by decide +kernel
set_option maxRecDepth 20000 in
theorem wd_X5_makeShirt_f74 : Cond.fieldLink RX5 74 "ShirtButtons$Buttons" "shine" "[I" ∈ wsX5_makeShirt := by decide +kernel
set_option maxRecDepth 20000 in
theorem in_X5_makeShirt_X1 : ∀ w ∈ u_ws RX1 TX1 7, w ∈ wsX5_makeShirt := by decide +kernel
set_option maxRecDepth 20000 in
theorem wd_X5_makeShirt_f70 : Cond.fieldLink RX5 70 "ShirtButtons$Buttons" "chips" "[I" ∈ wsX5_makeShirt := by decide +kernel
set_option maxRecDepth 20000 in
theorem wd_X5_makeShirt_f21 : Cond.fieldLink RX5 21 "ShirtButtons$State" "places" "LShirtButtons$Places;" ∈ wsX5_makeShirt := by decide +kernel
set_option maxHeartbeats 4000000 in
set_option maxRecDepth 100000 in
theorem k_X5_makeShirt (l : Launch) (E : wE) (a b : Nat → Nat) (sz : Nat) (N : Nat) (x2 x3 : Int) (z : bSO) (u : (Int × bSO)) (hf : f_X5_makeShirt N x2 x3 z = some u) : cI l yX5_makeShirt wsX5_makeShirt { frames := 3, cells := 0, slots := 0, locals := 66 } E sz [.ref (a 0), .ref (b 0), .int (zi x2), .int (zi x3)] (wSO a b E z) (wSO a b E u.2) u.1 := by
  refine met_go (cc := cX5_makeShirt) (maxL := 7) (ret := (some .int)) (Q0 := mQi E (wSO a b E u.2) u.1) (by decide +kernel) rfl (Nat.le_of_ble_eq_true rfl) ?_
  intro A p e s m below meth c hx hb hr hml hts hown hlocks hP hK hD hA hS ls hl
  have hl : lv_has ls 7 [(0, .ref (a 0)), (1, .ref (b 0)), (2, .int (zi x2)), (3, .int (zi x3))] := hl
  generalize hH : s.heap = H at hP
  have hS : va_S A s.heap H [] := by rw [← hH]; exact hS
  have hown : s.vm.findClass RX5 = some m.cls := hown
  have loop6 : ∀ (n : Nat) (v1 v2 v3 v4 : Int) (s5 : bSO) (H : Heap) (locs : List Loc) (ls : Array Slot), f_X5_makeShirt_L6 N n v1 v2 v3 v4 s5 = some u → va_P E.1 vwCl (wSO a b E s5) H → va_D A (wSO a b E s5) → va_S A s.heap H locs → lv_has ls 7 [(0, .ref (a 0)), (1, .ref (b 0)), (2, .int (zi v1)), (3, .int (zi v2)), (4, .int (zi v3)), (5, .int (zi v4))] → W p l e ({ frames := 3, cells := 0, slots := 0, locals := 66 }) s m ([.ref (a 0), .ref (b 0), .int (zi x2), .int (zi x3)] : List Value).toArray below meth c H locs 0 0 (MQ below (mQi E (wSO a b E u.2) u.1 A) ([.ref (a 0), .ref (b 0), .int (zi x2), .int (zi x3)] : List Value).toArray s 0 0 A) (F0 m 6 ls []) := by
    intro n
    induction n with
    | zero =>
      intro v1 v2 v3 v4 s5 H locs ls h
      exact absurd (show (none : Option (Int × bSO)) = some u from h) (by simp)
    | succ n ih =>
      intro v1 v2 v3 v4 s5 H locs ls h hP hD hS hl
      rw [f_X5_makeShirt_L6] at h
      refine lv_iload hx hb dX5_makeShirt_6 (lv_at hl 5 rfl) ?_
      refine lv_iload_n hx hb dX5_makeShirt_8 rfl (lv_at hl 3 rfl) ?_
      obtain ⟨g6, h⟩ := gd_t h
      obtain ⟨g7, h⟩ := gd_t h
      refine iv_ige (tgt := 88) hx hb g6 g7 dX5_makeShirt_9 (by decide) (fun c8 => ?_) (fun c8 => ?_)
      · have h := it_t c8 h
        refine lv_iload hx hb dX5_makeShirt_88 (lv_at hl 4 rfl) ?_
        refine iv_iconst hx hb dX5_makeShirt_90 ?_
        obtain ⟨g9, h⟩ := gd_t h
        refine iv_max hx hb (hml.trans hl.1.symm) hown (hts _ wd_X5_makeShirt_m148) (hts _ wd_X5_makeShirt_maxs) (hts _ wd_X5_makeShirt_maxi) (hts _ wd_X5_makeShirt_maxc) (by decide) (Nat.le_of_ble_eq_true rfl) (Nat.zero_le _) (Nat.zero_le _) g9 (by decide +kernel) dX5_makeShirt_91 ?_
        obtain ⟨v10, e11, h⟩ := nm_t h
        refine iv_nm e11 ?_
        refine lv_istore (lv' := [(4, .int (zi v10)), (0, .ref (a 0)), (1, .ref (b 0)), (2, .int (zi v1)), (3, .int (zi v2)), (5, .int (zi v4))]) hx hb dX5_makeShirt_94 hl (by decide) rfl (fun ls hl => ?_)
        refine lv_aload_n hx hb dX5_makeShirt_96 rfl (lv_at hl 1 rfl) ?_
        refine lv_dup hx hb dX5_makeShirt_97 rfl ?_
        refine va_get (D := E.1) (ci := 5) (v := .int (zi s5.1.2.2.2.1)) (C := RX5) (T := TX5) (N := 8) hx hb hts in_X5_makeShirt_X5 hown hK.1 hP 0 rfl rfl 3 (by decide) (hts _ wd_X5_makeShirt_f37) (fun _ h9 => h9) rfl dX5_makeShirt_98 ?_
        refine iv_iconst hx hb dX5_makeShirt_101 ?_
        refine iv_iadd hx hb dX5_makeShirt_102 ?_
        obtain ⟨s12, e13, h⟩ := nm_t h
        refine iv_put (D := E.1) (ci := 5) (v := .int (zi (s5.1.2.2.2.1 + 1))) (ty := .int) (ws1 := wSO a b E s12) (C := RX5) (T := TX5) (N := 8) hx hb hts in_X5_makeShirt_X5 tyX5 tyX5_ok nmX5 hown hK.1 hP hD hS 0 rfl rfl 3 (by decide) (hts _ wd_X5_makeShirt_f37) (fun _ h9 => h9) rfl (by decide +kernel) rfl rfl (Nat.le_of_ble_eq_true rfl) (by rw [e13]; rfl) dX5_makeShirt_103 (fun H locs hP hD hS => ?_)
        refine lv_aload_n hx hb dX5_makeShirt_106 rfl (lv_at hl 1 rfl) ?_
        refine lv_dup hx hb dX5_makeShirt_107 rfl ?_
        refine va_get (D := E.1) (ci := 5) (v := .int (zi s12.1.2.2.2.2.1)) (C := RX5) (T := TX5) (N := 8) hx hb hts in_X5_makeShirt_X5 hown hK.1 hP 0 rfl rfl 4 (by decide) (hts _ wd_X5_makeShirt_f41) (fun _ h9 => h9) rfl dX5_makeShirt_108 ?_
        refine lv_iload hx hb dX5_makeShirt_111 (lv_at hl 0 rfl) ?_
        refine iv_iadd hx hb dX5_makeShirt_113 ?_
        obtain ⟨s14, e15, h⟩ := nm_t h
        refine iv_put (D := E.1) (ci := 5) (v := .int (zi (s12.1.2.2.2.2.1 + v10))) (ty := .int) (ws1 := wSO a b E s14) (C := RX5) (T := TX5) (N := 8) hx hb hts in_X5_makeShirt_X5 tyX5 tyX5_ok nmX5 hown hK.1 hP hD hS 0 rfl rfl 4 (by decide) (hts _ wd_X5_makeShirt_f41) (fun _ h9 => h9) rfl (by decide +kernel) rfl rfl (Nat.le_of_ble_eq_true rfl) (by rw [e15]; rfl) dX5_makeShirt_114 (fun H locs hP hD hS => ?_)
        refine lv_iload hx hb dX5_makeShirt_117 (lv_at hl 0 rfl) ?_
        cases h
        exact iv_iret hx hb hr hlocks hK hP hD hS dX5_makeShirt_119
      · have h := it_f c8 h
        refine lv_aload_n hx hb dX5_makeShirt_12 rfl (lv_at hl 1 rfl) ?_
        refine lv_iload_n hx hb dX5_makeShirt_13 rfl (lv_at hl 2 rfl) ?_
        refine lv_iload hx hb dX5_makeShirt_14 (lv_at hl 5 rfl) ?_
        refine iv_iadd hx hb dX5_makeShirt_16 ?_
        obtain ⟨u16, q17, h⟩ := bd_t h
        obtain ⟨s18, e19, h⟩ := nm_t h
        refine iv_callIp (As := [.int (zi (v1 + v4))]) (rest := []) (ws1 := wSO a b E s18) ⟨hx, hb, hml, hown, hts⟩ (k_X3_numberAt l E b H.size (v1 + v4) s5.2 u16 q17) (cwV 1 hts gX5_makeShirt_X3_numberAt rfl rfl rfl (by decide +kernel) ⟨Nat.le_of_ble_eq_true rfl, Nat.le_of_ble_eq_true rfl⟩) hK hP hD hS hA 16 3 rfl rfl (pm_skip (pm_end)) (by rw [e19]; exact pm_skip (pm_end)) rfl hl.1 (Nat.le_of_ble_eq_true rfl) ⟨Nat.zero_le _, Nat.zero_le _⟩ dX5_makeShirt_17 (fun H locs hP hD hS => ?_)
        refine lv_istore (lv' := [(6, .int (zi u16.1)), (0, .ref (a 0)), (1, .ref (b 0)), (2, .int (zi v1)), (3, .int (zi v2)), (4, .int (zi v3)), (5, .int (zi v4))]) hx hb dX5_makeShirt_20 hl (by decide) rfl (fun ls hl => ?_)
        refine lv_aload_n hx hb dX5_makeShirt_22 rfl (lv_at hl 1 rfl) ?_
        refine va_get (D := E.1) (ci := 5) (v := .ref (a 1)) (C := RX5) (T := TX5) (N := 8) hx hb hts in_X5_makeShirt_X5 hown hK.1 hP 0 rfl rfl 0 (by decide) (hts _ wd_X5_makeShirt_f12) (fun _ h9 => h9) rfl dX5_makeShirt_23 ?_
        refine lv_iload hx hb dX5_makeShirt_26 (lv_at hl 0 rfl) ?_
        obtain ⟨u20, q21, h⟩ := bd_t h
        obtain ⟨s22, e23, h⟩ := nm_t h
        refine iv_callIp (As := [.int (zi u16.1)]) (rest := []) (ws1 := wSO a b E s22) ⟨hx, hb, hml, hown, hts⟩ (k_X1_has l E (fun i => a (1 + i)) H.size u16.1 s18.1.1 u20 q21) (cwV 1 hts gX5_makeShirt_X1_has rfl rfl rfl (by decide +kernel) ⟨Nat.le_of_ble_eq_true rfl, Nat.le_of_ble_eq_true rfl⟩) hK hP hD hS hA 1 1 rfl rfl (pm_in (pm_skip (pm_in (pm_last)))) (by rw [e23]; exact pm_in (pm_skip (pm_in (pm_last)))) rfl hl.1 (Nat.le_of_ble_eq_true rfl) ⟨Nat.zero_le _, Nat.zero_le _⟩ dX5_makeShirt_28 (fun H locs hP hD hS => ?_)
        obtain ⟨g24, h⟩ := gd_t h
        refine iv_eq (tgt := 82) hx hb g24 dX5_makeShirt_31 (by decide) (fun c25 => ?_) (fun c25 => ?_)
        · have h := it_t c25 h
          refine lv_iinc (v := zi (v4 + 1)) (lv' := [(5, .int (zi (v4 + 1))), (6, .int (zi u16.1)), (0, .ref (a 0)), (1, .ref (b 0)), (2, .int (zi v1)), (3, .int (zi v2)), (4, .int (zi v3))]) hx hb dX5_makeShirt_82 hl (k := 6) rfl (by rw [zi_add]; rfl) (by decide) rfl (fun ls hl => ?_)
          refine lv_goto (tgt := 6) hx hb dX5_makeShirt_85 (by decide) ?_
          exact ih v1 v2 v3 (v4 + 1) s22 _ _ _ h hP hD hS (lv_sub hl [2, 3, 4, 5, 6, 0] rfl)
        · have h := it_f c25 h
          refine lv_iload hx hb dX5_makeShirt_34 (lv_at hl 5 rfl) ?_
          refine lv_aload_n hx hb dX5_makeShirt_36 rfl (lv_at hl 1 rfl) ?_
          refine va_get (D := E.1) (ci := 5) (v := .ref (a 1)) (C := RX5) (T := TX5) (N := 8) hx hb hts in_X5_makeShirt_X5 hown hK.1 hP 0 rfl rfl 0 (by decide) (hts _ wd_X5_makeShirt_f12) (fun _ h9 => h9) rfl dX5_makeShirt_37 ?_
          refine va_get (D := E.1) (ci := 1) (v := .ref (a 6)) (C := RX1) (T := TX1) (N := 7) hx hb hts in_X5_makeShirt_X1 hown hK.1 hP 1 rfl rfl 4 (by decide) (hts _ wd_X5_makeShirt_f74) (fun _ h9 => h9) rfl dX5_makeShirt_40 ?_
          refine lv_iload hx hb dX5_makeShirt_43 (lv_at hl 0 rfl) ?_
          obtain ⟨g26, h⟩ := gd_t h
          refine iv_iald (f := s22.1.1.2.2.2.2.1) (j := u16.1.toNat) hx hb hK.1 hP 6 0 rfl rfl (by decide) g26 rfl dX5_makeShirt_45 ?_
          refine lv_aload_n hx hb dX5_makeShirt_46 rfl (lv_at hl 1 rfl) ?_
          refine va_get (D := E.1) (ci := 5) (v := .ref (a 1)) (C := RX5) (T := TX5) (N := 8) hx hb hts in_X5_makeShirt_X5 hown hK.1 hP 0 rfl rfl 0 (by decide) (hts _ wd_X5_makeShirt_f12) (fun _ h9 => h9) rfl dX5_makeShirt_47 ?_
          refine va_get (D := E.1) (ci := 1) (v := .ref (a 5)) (C := RX1) (T := TX1) (N := 7) hx hb hts in_X5_makeShirt_X1 hown hK.1 hP 1 rfl rfl 3 (by decide) (hts _ wd_X5_makeShirt_f70) (fun _ h9 => h9) rfl dX5_makeShirt_50 ?_
          refine lv_iload hx hb dX5_makeShirt_53 (lv_at hl 0 rfl) ?_
          refine iv_iald (f := s22.1.1.2.2.2.1) (j := u16.1.toNat) hx hb hK.1 hP 5 0 rfl rfl (by decide) g26 rfl dX5_makeShirt_55 ?_
          refine iv_isub hx hb dX5_makeShirt_56 ?_
          refine iv_iadd hx hb dX5_makeShirt_57 ?_
          obtain ⟨v27, e28, h⟩ := nm_t h
          refine iv_nm e28 ?_
          refine lv_istore (lv' := [(4, .int (zi v27)), (6, .int (zi u16.1)), (0, .ref (a 0)), (1, .ref (b 0)), (2, .int (zi v1)), (3, .int (zi v2)), (5, .int (zi v4))]) hx hb dX5_makeShirt_58 hl (by decide) rfl (fun ls hl => ?_)
          refine lv_aload_n hx hb dX5_makeShirt_60 rfl (lv_at hl 2 rfl) ?_
          refine va_get (D := E.1) (ci := 5) (v := .ref (a 8)) (C := RX5) (T := TX5) (N := 8) hx hb hts in_X5_makeShirt_X5 hown hK.1 hP 0 rfl rfl 1 (by decide) (hts _ wd_X5_makeShirt_f21) (fun _ h9 => h9) rfl dX5_makeShirt_61 ?_
          refine lv_iload hx hb dX5_makeShirt_64 (lv_at hl 1 rfl) ?_
          obtain ⟨u29, q30, h⟩ := bd_t h
          obtain ⟨s31, e32, h⟩ := nm_t h
          refine iv_callVp (As := [.int (zi u16.1)]) (rest := []) (ws1 := wSO a b E s31) ⟨hx, hb, hml, hown, hts⟩ (k_X4_leave l E (fun i => a (8 + i)) H.size u16.1 s22.1.2.1 u29 q30) (cwV 1 hts gX5_makeShirt_X4_leave rfl rfl rfl (by decide +kernel) ⟨Nat.le_of_ble_eq_true rfl, Nat.le_of_ble_eq_true rfl⟩) hK hP hD hS hA 8 4 rfl rfl (pm_in (pm_skip (pm_in (pm_skip (pm_in (pm_last)))))) (by rw [e32]; exact pm_in (pm_skip (pm_in (pm_skip (pm_in (pm_last)))))) rfl hl.1 (Nat.le_of_ble_eq_true rfl) ⟨Nat.zero_le _, Nat.zero_le _⟩ dX5_makeShirt_66 (fun H locs hP hD hS => ?_)
          refine lv_aload_n hx hb dX5_makeShirt_69 rfl (lv_at hl 2 rfl) ?_
          refine va_get (D := E.1) (ci := 5) (v := .ref (a 8)) (C := RX5) (T := TX5) (N := 8) hx hb hts in_X5_makeShirt_X5 hown hK.1 hP 0 rfl rfl 1 (by decide) (hts _ wd_X5_makeShirt_f21) (fun _ h9 => h9) rfl dX5_makeShirt_70 ?_
          refine lv_iload hx hb dX5_makeShirt_73 (lv_at hl 1 rfl) ?_
          refine lv_aload_n hx hb dX5_makeShirt_75 rfl (lv_at hl 2 rfl) ?_
          refine va_get (D := E.1) (ci := 5) (v := .int (zi s31.1.2.2.2.1)) (C := RX5) (T := TX5) (N := 8) hx hb hts in_X5_makeShirt_X5 hown hK.1 hP 0 rfl rfl 3 (by decide) (hts _ wd_X5_makeShirt_f37) (fun _ h9 => h9) rfl dX5_makeShirt_76 ?_
          obtain ⟨u33, q34, h⟩ := bd_t h
          obtain ⟨s35, e36, h⟩ := nm_t h
          refine iv_callVp (As := [.int (zi u16.1), .int (zi s31.1.2.2.2.1)]) (rest := []) (ws1 := wSO a b E s35) ⟨hx, hb, hml, hown, hts⟩ (k_X4_bringToShirt l E (fun i => a (8 + i)) H.size u16.1 s31.1.2.2.2.1 s31.1.2.1 u33 q34) (cwV 2 hts gX5_makeShirt_X4_bringToShirt rfl rfl rfl (by decide +kernel) ⟨Nat.le_of_ble_eq_true rfl, Nat.le_of_ble_eq_true rfl⟩) hK hP hD hS hA 8 4 rfl rfl (pm_in (pm_skip (pm_in (pm_skip (pm_in (pm_last)))))) (by rw [e36]; exact pm_in (pm_skip (pm_in (pm_skip (pm_in (pm_last)))))) rfl hl.1 (Nat.le_of_ble_eq_true rfl) ⟨Nat.zero_le _, Nat.zero_le _⟩ dX5_makeShirt_79 (fun H locs hP hD hS => ?_)
          refine lv_iinc (v := zi (v4 + 1)) (lv' := [(5, .int (zi (v4 + 1))), (4, .int (zi v27)), (6, .int (zi u16.1)), (0, .ref (a 0)), (1, .ref (b 0)), (2, .int (zi v1)), (3, .int (zi v2))]) hx hb dX5_makeShirt_82 hl (k := 6) rfl (by rw [zi_add]; rfl) (by decide) rfl (fun ls hl => ?_)
          refine lv_goto (tgt := 6) hx hb dX5_makeShirt_85 (by decide) ?_
          exact ih v1 v2 v27 (v4 + 1) s35 _ _ _ h hP hD hS (lv_sub hl [3, 4, 5, 6, 1, 0] rfl)
  have h := hf
  rw [f_X5_makeShirt] at h
  refine iv_iconst hx hb dX5_makeShirt_0 ?_
  refine lv_istore (lv' := [(4, .int (zi 0)), (0, .ref (a 0)), (1, .ref (b 0)), (2, .int (zi x2)), (3, .int (zi x3))]) hx hb dX5_makeShirt_1 hl (by decide) rfl (fun ls hl => ?_)
  refine iv_iconst hx hb dX5_makeShirt_3 ?_
  refine lv_istore (lv' := [(5, .int (zi 0)), (4, .int (zi 0)), (0, .ref (a 0)), (1, .ref (b 0)), (2, .int (zi x2)), (3, .int (zi x3))]) hx hb dX5_makeShirt_4 hl (by decide) rfl (fun ls hl => ?_)
  exact loop6 N x2 x3 0 0 z _ _ _ h hP hD hS (lv_sub hl [2, 3, 4, 5, 1, 0] rfl)
set_option maxRecDepth 20000 in
theorem wd_X5_meshesAllow_f34 : Cond.fieldLink RX5 34 "ShirtButtons$State" "settings" "[I" ∈ wsX5_meshesAllow := by decide +kernel
set_option maxRecDepth 20000 in
theorem in_X5_meshesAllow_X5 : ∀ w ∈ u_ws RX5 TX5 8, w ∈ wsX5_meshesAllow := by decide +kernel
set_option maxHeartbeats 4000000 in
set_option maxRecDepth 100000 in
theorem k_X5_meshesAllow (l : Launch) (E : wE) (a : Nat → Nat) (sz : Nat) (x1 x2 : Int) (z : bS) (u : (Int × bS)) (hf : f_X5_meshesAllow x1 x2 z = some u) : cI l yX5_meshesAllow wsX5_meshesAllow { frames := 0, cells := 0, slots := 0, locals := 0 } E sz [.ref (a 0), .int (zi x1), .int (zi x2)] (wS a E z) (wS a E u.2) u.1 := by
  refine met_go (cc := cX5_meshesAllow) (maxL := 3) (ret := (some .boolean)) (Q0 := mQi E (wS a E u.2) u.1) (by decide +kernel) rfl (Nat.le_of_ble_eq_true rfl) ?_
  intro A p e s m below meth c hx hb hr hml hts hown hlocks hP hK hD hA hS ls hl
  have hl : lv_has ls 3 [(0, .ref (a 0)), (1, .int (zi x1)), (2, .int (zi x2))] := hl
  generalize hH : s.heap = H at hP
  have hS : va_S A s.heap H [] := by rw [← hH]; exact hS
  have hown : s.vm.findClass RX5 = some m.cls := hown
  have h := hf
  rw [f_X5_meshesAllow] at h
  refine lv_iload_n hx hb dX5_meshesAllow_0 rfl (lv_at hl 1 rfl) ?_
  refine iv_iconst hx hb dX5_meshesAllow_1 ?_
  obtain ⟨g1, h⟩ := gd_t h
  refine iv_ilt (tgt := 7) hx hb g1 (by decide +kernel) dX5_meshesAllow_2 (by decide) (fun c2 => ?_) (fun c2 => ?_)
  · have h := it_t c2 h
    refine lv_iload_n hx hb dX5_meshesAllow_7 rfl (lv_at hl 1 rfl) ?_
    refine iv_le (tgt := 25) hx hb g1 dX5_meshesAllow_8 (by decide) (fun c3 => ?_) (fun c3 => ?_)
    · have h := it_t c3 h
      refine lv_iload_n hx hb dX5_meshesAllow_25 rfl (lv_at hl 1 rfl) ?_
      refine iv_iconst hx hb dX5_meshesAllow_26 ?_
      refine iv_ieq (tgt := 42) hx hb g1 (by decide +kernel) dX5_meshesAllow_27 (by decide) (fun c4 => ?_) (fun c4 => ?_)
      · have h := it_t c4 h
        refine iv_iconst hx hb dX5_meshesAllow_42 ?_
        refine lv_goto (tgt := 47) hx hb dX5_meshesAllow_43 (by decide) ?_
        cases h
        exact iv_zret (r := 1) hx hb hr hlocks (by decide +kernel) hK hP hD hS dX5_meshesAllow_47
      · have h := it_f c4 h
        refine lv_iload_n hx hb dX5_meshesAllow_30 rfl (lv_at hl 2 rfl) ?_
        refine lv_aload_n hx hb dX5_meshesAllow_31 rfl (lv_at hl 0 rfl) ?_
        refine va_get (D := E.1) (ci := 5) (v := .ref (a 15)) (C := RX5) (T := TX5) (N := 8) hx hb hts in_X5_meshesAllow_X5 hown hK.1 hP 0 rfl rfl 2 (by decide) (hts _ wd_X5_meshesAllow_f34) (fun _ h9 => h9) rfl dX5_meshesAllow_32 ?_
        refine lv_iload_n hx hb dX5_meshesAllow_35 rfl (lv_at hl 1 rfl) ?_
        refine iv_iconst hx hb dX5_meshesAllow_36 ?_
        refine iv_iadd hx hb dX5_meshesAllow_37 ?_
        obtain ⟨g5, h⟩ := gd_t h
        refine iv_iald (f := z.2.2.1) (j := (x1 + 1).toNat) hx hb hK.1 hP 15 0 rfl rfl (by decide) g5 rfl dX5_meshesAllow_38 ?_
        obtain ⟨g6, h⟩ := gd_t h
        obtain ⟨g7, h⟩ := gd_t h
        refine iv_igt (tgt := 46) hx hb g6 g7 dX5_meshesAllow_39 (by decide) (fun c8 => ?_) (fun c8 => ?_)
        · have h := it_t c8 h
          refine iv_iconst hx hb dX5_meshesAllow_46 ?_
          cases h
          exact iv_zret (r := 0) hx hb hr hlocks (by decide +kernel) hK hP hD hS dX5_meshesAllow_47
        · have h := it_f c8 h
          refine iv_iconst hx hb dX5_meshesAllow_42 ?_
          refine lv_goto (tgt := 47) hx hb dX5_meshesAllow_43 (by decide) ?_
          cases h
          exact iv_zret (r := 1) hx hb hr hlocks (by decide +kernel) hK hP hD hS dX5_meshesAllow_47
    · have h := it_f c3 h
      refine lv_aload_n hx hb dX5_meshesAllow_11 rfl (lv_at hl 0 rfl) ?_
      refine va_get (D := E.1) (ci := 5) (v := .ref (a 15)) (C := RX5) (T := TX5) (N := 8) hx hb hts in_X5_meshesAllow_X5 hown hK.1 hP 0 rfl rfl 2 (by decide) (hts _ wd_X5_meshesAllow_f34) (fun _ h9 => h9) rfl dX5_meshesAllow_12 ?_
      refine lv_iload_n hx hb dX5_meshesAllow_15 rfl (lv_at hl 1 rfl) ?_
      refine iv_iconst hx hb dX5_meshesAllow_16 ?_
      refine iv_isub hx hb dX5_meshesAllow_17 ?_
      obtain ⟨g9, h⟩ := gd_t h
      refine iv_iald (f := z.2.2.1) (j := (x1 - 1).toNat) hx hb hK.1 hP 15 0 rfl rfl (by decide) g9 rfl dX5_meshesAllow_18 ?_
      refine lv_iload_n hx hb dX5_meshesAllow_19 rfl (lv_at hl 2 rfl) ?_
      obtain ⟨g10, h⟩ := gd_t h
      obtain ⟨g11, h⟩ := gd_t h
      refine iv_ile (tgt := 25) hx hb g10 g11 dX5_meshesAllow_20 (by decide) (fun c12 => ?_) (fun c12 => ?_)
      · have h := it_t c12 h
        refine lv_iload_n hx hb dX5_meshesAllow_25 rfl (lv_at hl 1 rfl) ?_
        refine iv_iconst hx hb dX5_meshesAllow_26 ?_
        refine iv_ieq (tgt := 42) hx hb g1 (by decide +kernel) dX5_meshesAllow_27 (by decide) (fun c13 => ?_) (fun c13 => ?_)
        · have h := it_t c13 h
          refine iv_iconst hx hb dX5_meshesAllow_42 ?_
          refine lv_goto (tgt := 47) hx hb dX5_meshesAllow_43 (by decide) ?_
          cases h
          exact iv_zret (r := 1) hx hb hr hlocks (by decide +kernel) hK hP hD hS dX5_meshesAllow_47
        · have h := it_f c13 h
          refine lv_iload_n hx hb dX5_meshesAllow_30 rfl (lv_at hl 2 rfl) ?_
          refine lv_aload_n hx hb dX5_meshesAllow_31 rfl (lv_at hl 0 rfl) ?_
          refine va_get (D := E.1) (ci := 5) (v := .ref (a 15)) (C := RX5) (T := TX5) (N := 8) hx hb hts in_X5_meshesAllow_X5 hown hK.1 hP 0 rfl rfl 2 (by decide) (hts _ wd_X5_meshesAllow_f34) (fun _ h9 => h9) rfl dX5_meshesAllow_32 ?_
          refine lv_iload_n hx hb dX5_meshesAllow_35 rfl (lv_at hl 1 rfl) ?_
          refine iv_iconst hx hb dX5_meshesAllow_36 ?_
          refine iv_iadd hx hb dX5_meshesAllow_37 ?_
          obtain ⟨g14, h⟩ := gd_t h
          refine iv_iald (f := z.2.2.1) (j := (x1 + 1).toNat) hx hb hK.1 hP 15 0 rfl rfl (by decide) g14 rfl dX5_meshesAllow_38 ?_
          obtain ⟨g15, h⟩ := gd_t h
          refine iv_igt (tgt := 46) hx hb g11 g15 dX5_meshesAllow_39 (by decide) (fun c16 => ?_) (fun c16 => ?_)
          · have h := it_t c16 h
            refine iv_iconst hx hb dX5_meshesAllow_46 ?_
            cases h
            exact iv_zret (r := 0) hx hb hr hlocks (by decide +kernel) hK hP hD hS dX5_meshesAllow_47
          · have h := it_f c16 h
            refine iv_iconst hx hb dX5_meshesAllow_42 ?_
            refine lv_goto (tgt := 47) hx hb dX5_meshesAllow_43 (by decide) ?_
            cases h
            exact iv_zret (r := 1) hx hb hr hlocks (by decide +kernel) hK hP hD hS dX5_meshesAllow_47
      · have h := it_f c12 h
        refine iv_iconst hx hb dX5_meshesAllow_23 ?_
        cases h
        exact iv_zret (r := 0) hx hb hr hlocks (by decide +kernel) hK hP hD hS dX5_meshesAllow_24
  · have h := it_f c2 h
    refine iv_iconst hx hb dX5_meshesAllow_5 ?_
    cases h
    exact iv_zret (r := 1) hx hb hr hlocks (by decide +kernel) hK hP hD hS dX5_meshesAllow_6
set_option maxRecDepth 20000 in
theorem wd_X5_copyFrom_f12 : Cond.fieldLink RX5 12 "ShirtButtons$State" "buttons" "LShirtButtons$Buttons;" ∈ wsX5_copyFrom := by decide +kernel
set_option maxRecDepth 20000 in
theorem in_X5_copyFrom_X5 : ∀ w ∈ u_ws RX5 TX5 8, w ∈ wsX5_copyFrom := by decide +kernel
set_option maxRecDepth 20000 in
theorem wd_X5_copyFrom_f21 : Cond.fieldLink RX5 21 "ShirtButtons$State" "places" "LShirtButtons$Places;" ∈ wsX5_copyFrom := by decide +kernel
set_option maxRecDepth 20000 in
theorem wd_X5_copyFrom_f34 : Cond.fieldLink RX5 34 "ShirtButtons$State" "settings" "[I" ∈ wsX5_copyFrom := by decide +kernel
set_option maxRecDepth 20000 in
theorem wd_X5_copyFrom_m161 : Cond.methodLink RX5 161 arraycopyName ∈ wsX5_copyFrom := by decide +kernel
set_option maxRecDepth 20000 in
theorem wd_X5_copyFrom_acn : Cond.native arraycopyName ∈ wsX5_copyFrom := by decide +kernel
set_option maxRecDepth 20000 in
theorem wd_X5_copyFrom_acs : Cond.static arraycopyName ∈ wsX5_copyFrom := by decide +kernel
set_option maxRecDepth 20000 in
theorem wd_X5_copyFrom_aci : Cond.initialized "java/lang/System" ∈ wsX5_copyFrom := by decide +kernel
set_option maxRecDepth 20000 in
theorem wd_X5_copyFrom_f37 : Cond.fieldLink RX5 37 "ShirtButtons$State" "shirtsMade" "I" ∈ wsX5_copyFrom := by decide +kernel
set_option maxRecDepth 20000 in
theorem wd_X5_copyFrom_f41 : Cond.fieldLink RX5 41 "ShirtButtons$State" "worthMade" "I" ∈ wsX5_copyFrom := by decide +kernel
set_option maxRecDepth 20000 in
theorem wd_X5_copyFrom_f44 : Cond.fieldLink RX5 44 "ShirtButtons$State" "sortingsDone" "I" ∈ wsX5_copyFrom := by decide +kernel
set_option maxRecDepth 20000 in
theorem wd_X5_copyFrom_f47 : Cond.fieldLink RX5 47 "ShirtButtons$State" "goneBack" "I" ∈ wsX5_copyFrom := by decide +kernel
set_option maxRecDepth 20000 in
theorem wd_X5_copyFrom_f50 : Cond.fieldLink RX5 50 "ShirtButtons$State" "rubbed" "I" ∈ wsX5_copyFrom := by decide +kernel
set_option maxHeartbeats 4000000 in
set_option maxRecDepth 100000 in
theorem k_X5_copyFrom (l : Launch) (E : wE) (a b : Nat → Nat) (sz : Nat) (z : bSS) (u : bSS) (hf : f_X5_copyFrom z = some u) : cV l yX5_copyFrom wsX5_copyFrom { frames := 2, cells := 0, slots := 0, locals := 47 } E sz [.ref (a 0), .ref (b 0)] (wSS a b E z) (wSS a b E u) := by
  refine met_go (cc := cX5_copyFrom) (maxL := 2) (ret := none) (Q0 := mQv E (wSS a b E u)) (by decide +kernel) rfl (Nat.le_of_ble_eq_true rfl) ?_
  intro A p e s m below meth c hx hb hr hml hts hown hlocks hP hK hD hA hS ls hl
  have hl : lv_has ls 2 [(0, .ref (a 0)), (1, .ref (b 0))] := hl
  generalize hH : s.heap = H at hP
  have hS : va_S A s.heap H [] := by rw [← hH]; exact hS
  have hown : s.vm.findClass RX5 = some m.cls := hown
  have h := hf
  rw [f_X5_copyFrom] at h
  refine lv_aload_n hx hb dX5_copyFrom_0 rfl (lv_at hl 0 rfl) ?_
  refine va_get (D := E.1) (ci := 5) (v := .ref (a 1)) (C := RX5) (T := TX5) (N := 8) hx hb hts in_X5_copyFrom_X5 hown hK.1 hP 0 rfl rfl 0 (by decide) (hts _ wd_X5_copyFrom_f12) (fun _ h9 => h9) rfl dX5_copyFrom_1 ?_
  refine lv_aload_n hx hb dX5_copyFrom_4 rfl (lv_at hl 1 rfl) ?_
  refine va_get (D := E.1) (ci := 5) (v := .ref (b 1)) (C := RX5) (T := TX5) (N := 8) hx hb hts in_X5_copyFrom_X5 hown hK.1 hP 16 rfl rfl 0 (by decide) (hts _ wd_X5_copyFrom_f12) (fun _ h9 => h9) rfl dX5_copyFrom_5 ?_
  obtain ⟨u1, q2, h⟩ := bd_t h
  obtain ⟨s3, e4, h⟩ := nm_t h
  obtain ⟨s5, e6, h⟩ := nm_t h
  refine iv_callVp (As := [.ref (b 1)]) (rest := []) (ws1 := wSS a b E s5) ⟨hx, hb, hml, hown, hts⟩ (k_X1_copyFrom l E (fun i => a (1 + i)) (fun i => b (1 + i)) H.size  (z.1.1, z.2.1) u1 q2) (cwV 1 hts gX5_copyFrom_X1_copyFrom rfl rfl rfl (by decide +kernel) ⟨Nat.le_of_ble_eq_true rfl, Nat.le_of_ble_eq_true rfl⟩) hK hP hD hS hA 1 1 rfl rfl (pm_in (pm_skip (pm_in (pm_take (pm_skip (pm_skip (pm_last))))))) (by rw [e6, e4]; exact pm_in (pm_skip (pm_in (pm_take (pm_skip (pm_skip (pm_last))))))) rfl hl.1 (Nat.le_of_ble_eq_true rfl) ⟨Nat.zero_le _, Nat.zero_le _⟩ dX5_copyFrom_8 (fun H locs hP hD hS => ?_)
  refine lv_aload_n hx hb dX5_copyFrom_11 rfl (lv_at hl 0 rfl) ?_
  refine va_get (D := E.1) (ci := 5) (v := .ref (a 8)) (C := RX5) (T := TX5) (N := 8) hx hb hts in_X5_copyFrom_X5 hown hK.1 hP 0 rfl rfl 1 (by decide) (hts _ wd_X5_copyFrom_f21) (fun _ h9 => h9) rfl dX5_copyFrom_12 ?_
  refine lv_aload_n hx hb dX5_copyFrom_15 rfl (lv_at hl 1 rfl) ?_
  refine va_get (D := E.1) (ci := 5) (v := .ref (b 8)) (C := RX5) (T := TX5) (N := 8) hx hb hts in_X5_copyFrom_X5 hown hK.1 hP 16 rfl rfl 1 (by decide) (hts _ wd_X5_copyFrom_f21) (fun _ h9 => h9) rfl dX5_copyFrom_16 ?_
  obtain ⟨u7, q8, h⟩ := bd_t h
  obtain ⟨s9, e10, h⟩ := nm_t h
  obtain ⟨s11, e12, h⟩ := nm_t h
  refine iv_callVp (As := [.ref (b 8)]) (rest := []) (ws1 := wSS a b E s11) ⟨hx, hb, hml, hown, hts⟩ (k_X4_copyFrom l E (fun i => a (8 + i)) (fun i => b (8 + i)) H.size  (s5.1.2.1, s5.2.2.1) u7 q8) (cwV 1 hts gX5_copyFrom_X4_copyFrom rfl rfl rfl (by decide +kernel) ⟨Nat.le_of_ble_eq_true rfl, Nat.le_of_ble_eq_true rfl⟩) hK hP hD hS hA 8 4 rfl rfl (pm_in (pm_skip (pm_in (pm_skip (pm_in (pm_take (pm_skip (pm_skip (pm_skip (pm_last)))))))))) (by rw [e12, e10]; exact pm_in (pm_skip (pm_in (pm_skip (pm_in (pm_take (pm_skip (pm_skip (pm_skip (pm_last)))))))))) rfl hl.1 (Nat.le_of_ble_eq_true rfl) ⟨Nat.zero_le _, Nat.zero_le _⟩ dX5_copyFrom_19 (fun H locs hP hD hS => ?_)
  refine lv_aload_n hx hb dX5_copyFrom_22 rfl (lv_at hl 1 rfl) ?_
  refine va_get (D := E.1) (ci := 5) (v := .ref (b 15)) (C := RX5) (T := TX5) (N := 8) hx hb hts in_X5_copyFrom_X5 hown hK.1 hP 16 rfl rfl 2 (by decide) (hts _ wd_X5_copyFrom_f34) (fun _ h9 => h9) rfl dX5_copyFrom_23 ?_
  refine iv_iconst hx hb dX5_copyFrom_26 ?_
  refine lv_aload_n hx hb dX5_copyFrom_27 rfl (lv_at hl 0 rfl) ?_
  refine va_get (D := E.1) (ci := 5) (v := .ref (a 15)) (C := RX5) (T := TX5) (N := 8) hx hb hts in_X5_copyFrom_X5 hown hK.1 hP 0 rfl rfl 2 (by decide) (hts _ wd_X5_copyFrom_f34) (fun _ h9 => h9) rfl dX5_copyFrom_28 ?_
  refine iv_iconst hx hb dX5_copyFrom_31 ?_
  refine iv_bipush hx hb dX5_copyFrom_32 (by decide +kernel) ?_
  obtain ⟨s13, e14, h⟩ := nm_t h
  refine iv_copy (f := s11.2.2.2.1) (g := s11.1.2.2.1) (sp' := 0) (dp' := 0) (K := 9) (ws1 := wSS a b E s13) hx hb (hml.trans hl.1.symm) hown (hts _ wd_X5_copyFrom_m161) (hts _ wd_X5_copyFrom_acn) (hts _ wd_X5_copyFrom_acs) (hts _ wd_X5_copyFrom_aci) hK.1 hP hD hS 31 15 0 0 rfl rfl rfl rfl (by decide +kernel) (by decide +kernel) rfl rfl (by decide +kernel) (by decide) (by decide) (by decide) (by decide) (Nat.le_of_ble_eq_true (by decide +kernel)) (by rw [e14]; rfl) dX5_copyFrom_34 (fun H locs hP hD hS => ?_)
  refine lv_aload_n hx hb dX5_copyFrom_37 rfl (lv_at hl 0 rfl) ?_
  refine lv_aload_n hx hb dX5_copyFrom_38 rfl (lv_at hl 1 rfl) ?_
  refine va_get (D := E.1) (ci := 5) (v := .int (zi s13.2.2.2.2.1)) (C := RX5) (T := TX5) (N := 8) hx hb hts in_X5_copyFrom_X5 hown hK.1 hP 16 rfl rfl 3 (by decide) (hts _ wd_X5_copyFrom_f37) (fun _ h9 => h9) rfl dX5_copyFrom_39 ?_
  obtain ⟨s15, e16, h⟩ := nm_t h
  refine iv_put (D := E.1) (ci := 5) (v := .int (zi s13.2.2.2.2.1)) (ty := .int) (ws1 := wSS a b E s15) (C := RX5) (T := TX5) (N := 8) hx hb hts in_X5_copyFrom_X5 tyX5 tyX5_ok nmX5 hown hK.1 hP hD hS 0 rfl rfl 3 (by decide) (hts _ wd_X5_copyFrom_f37) (fun _ h9 => h9) rfl (by decide +kernel) rfl rfl (Nat.le_of_ble_eq_true rfl) (by rw [e16]; rfl) dX5_copyFrom_42 (fun H locs hP hD hS => ?_)
  refine lv_aload_n hx hb dX5_copyFrom_45 rfl (lv_at hl 0 rfl) ?_
  refine lv_aload_n hx hb dX5_copyFrom_46 rfl (lv_at hl 1 rfl) ?_
  refine va_get (D := E.1) (ci := 5) (v := .int (zi s15.2.2.2.2.2.1)) (C := RX5) (T := TX5) (N := 8) hx hb hts in_X5_copyFrom_X5 hown hK.1 hP 16 rfl rfl 4 (by decide) (hts _ wd_X5_copyFrom_f41) (fun _ h9 => h9) rfl dX5_copyFrom_47 ?_
  obtain ⟨s17, e18, h⟩ := nm_t h
  refine iv_put (D := E.1) (ci := 5) (v := .int (zi s15.2.2.2.2.2.1)) (ty := .int) (ws1 := wSS a b E s17) (C := RX5) (T := TX5) (N := 8) hx hb hts in_X5_copyFrom_X5 tyX5 tyX5_ok nmX5 hown hK.1 hP hD hS 0 rfl rfl 4 (by decide) (hts _ wd_X5_copyFrom_f41) (fun _ h9 => h9) rfl (by decide +kernel) rfl rfl (Nat.le_of_ble_eq_true rfl) (by rw [e18]; rfl) dX5_copyFrom_50 (fun H locs hP hD hS => ?_)
  refine lv_aload_n hx hb dX5_copyFrom_53 rfl (lv_at hl 0 rfl) ?_
  refine lv_aload_n hx hb dX5_copyFrom_54 rfl (lv_at hl 1 rfl) ?_
  refine va_get (D := E.1) (ci := 5) (v := .int (zi s17.2.2.2.2.2.2.1)) (C := RX5) (T := TX5) (N := 8) hx hb hts in_X5_copyFrom_X5 hown hK.1 hP 16 rfl rfl 5 (by decide) (hts _ wd_X5_copyFrom_f44) (fun _ h9 => h9) rfl dX5_copyFrom_55 ?_
  obtain ⟨s19, e20, h⟩ := nm_t h
  refine iv_put (D := E.1) (ci := 5) (v := .int (zi s17.2.2.2.2.2.2.1)) (ty := .int) (ws1 := wSS a b E s19) (C := RX5) (T := TX5) (N := 8) hx hb hts in_X5_copyFrom_X5 tyX5 tyX5_ok nmX5 hown hK.1 hP hD hS 0 rfl rfl 5 (by decide) (hts _ wd_X5_copyFrom_f44) (fun _ h9 => h9) rfl (by decide +kernel) rfl rfl (Nat.le_of_ble_eq_true rfl) (by rw [e20]; rfl) dX5_copyFrom_58 (fun H locs hP hD hS => ?_)
  refine lv_aload_n hx hb dX5_copyFrom_61 rfl (lv_at hl 0 rfl) ?_
  refine lv_aload_n hx hb dX5_copyFrom_62 rfl (lv_at hl 1 rfl) ?_
  refine va_get (D := E.1) (ci := 5) (v := .int (zi s19.2.2.2.2.2.2.2.1)) (C := RX5) (T := TX5) (N := 8) hx hb hts in_X5_copyFrom_X5 hown hK.1 hP 16 rfl rfl 6 (by decide) (hts _ wd_X5_copyFrom_f47) (fun _ h9 => h9) rfl dX5_copyFrom_63 ?_
  obtain ⟨s21, e22, h⟩ := nm_t h
  refine iv_put (D := E.1) (ci := 5) (v := .int (zi s19.2.2.2.2.2.2.2.1)) (ty := .int) (ws1 := wSS a b E s21) (C := RX5) (T := TX5) (N := 8) hx hb hts in_X5_copyFrom_X5 tyX5 tyX5_ok nmX5 hown hK.1 hP hD hS 0 rfl rfl 6 (by decide) (hts _ wd_X5_copyFrom_f47) (fun _ h9 => h9) rfl (by decide +kernel) rfl rfl (Nat.le_of_ble_eq_true rfl) (by rw [e22]; rfl) dX5_copyFrom_66 (fun H locs hP hD hS => ?_)
  refine lv_aload_n hx hb dX5_copyFrom_69 rfl (lv_at hl 0 rfl) ?_
  refine lv_aload_n hx hb dX5_copyFrom_70 rfl (lv_at hl 1 rfl) ?_
  refine va_get (D := E.1) (ci := 5) (v := .int (zi s21.2.2.2.2.2.2.2.2)) (C := RX5) (T := TX5) (N := 8) hx hb hts in_X5_copyFrom_X5 hown hK.1 hP 16 rfl rfl 7 (by decide) (hts _ wd_X5_copyFrom_f50) (fun _ h9 => h9) rfl dX5_copyFrom_71 ?_
  obtain ⟨s23, e24, h⟩ := nm_t h
  refine iv_put (D := E.1) (ci := 5) (v := .int (zi s21.2.2.2.2.2.2.2.2)) (ty := .int) (ws1 := wSS a b E s23) (C := RX5) (T := TX5) (N := 8) hx hb hts in_X5_copyFrom_X5 tyX5 tyX5_ok nmX5 hown hK.1 hP hD hS 0 rfl rfl 7 (by decide) (hts _ wd_X5_copyFrom_f50) (fun _ h9 => h9) rfl (by decide +kernel) rfl rfl (Nat.le_of_ble_eq_true rfl) (by rw [e24]; rfl) dX5_copyFrom_74 (fun H locs hP hD hS => ?_)
  cases h
  exact iv_vret hx hb hr hlocks hK hP hD hS dX5_copyFrom_77
