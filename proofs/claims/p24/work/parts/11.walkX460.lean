set_option maxHeartbeats 4000000 in
set_option maxRecDepth 100000 in
theorem k_X4_isNumber (l : Launch) (E : wE) (sz : Nat) (x0 : Int) (u : Int) (hf : f_X4_isNumber x0  = some u) : cI l yX4_isNumber wsX4_isNumber { frames := 0, cells := 0, slots := 0, locals := 0 } E sz [.int (zi x0)] ([]) ([]) u := by
  refine met_go (cc := cX4_isNumber) (maxL := 1) (ret := (some .boolean)) (Q0 := mQi E ([]) u) (by decide +kernel) rfl (Nat.le_of_ble_eq_true rfl) ?_
  intro A p e s m below meth c hx hb hr hml hts hown hlocks hP hK hD hA hS ls hl
  have hl : lv_has ls 1 [(0, .int (zi x0))] := hl
  generalize hH : s.heap = H at hP
  have hS : va_S A s.heap H [] := by rw [← hH]; exact hS
  have hown : s.vm.findClass RX4 = some m.cls := hown
  have h := hf
  rw [f_X4_isNumber] at h
  refine lv_iload_n hx hb dX4_isNumber_0 rfl (lv_at hl 0 rfl) ?_
  obtain ⟨g1, h⟩ := gd_t h
  refine iv_lt (tgt := 14) hx hb g1 dX4_isNumber_1 (by decide) (fun c2 => ?_) (fun c2 => ?_)
  · have h := it_t c2 h
    refine iv_iconst hx hb dX4_isNumber_14 ?_
    cases h
    exact iv_zret (r := 0) hx hb hr hlocks (by decide +kernel) hK hP hD hS dX4_isNumber_15
  · have h := it_f c2 h
    refine lv_iload_n hx hb dX4_isNumber_4 rfl (lv_at hl 0 rfl) ?_
    refine iv_bipush hx hb dX4_isNumber_5 (by decide +kernel) ?_
    refine iv_ige (tgt := 14) hx hb g1 (by decide +kernel) dX4_isNumber_7 (by decide) (fun c3 => ?_) (fun c3 => ?_)
    · have h := it_t c3 h
      refine iv_iconst hx hb dX4_isNumber_14 ?_
      cases h
      exact iv_zret (r := 0) hx hb hr hlocks (by decide +kernel) hK hP hD hS dX4_isNumber_15
    · have h := it_f c3 h
      refine iv_iconst hx hb dX4_isNumber_10 ?_
      refine lv_goto (tgt := 15) hx hb dX4_isNumber_11 (by decide) ?_
      cases h
      exact iv_zret (r := 1) hx hb hr hlocks (by decide +kernel) hK hP hD hS dX4_isNumber_15
set_option maxRecDepth 20000 in
theorem wd_X4_leave_f9 : Cond.fieldLink RX4 9 "ShirtButtons$Places" "place" "[I" ∈ wsX4_leave := by decide +kernel
set_option maxRecDepth 20000 in
theorem in_X4_leave_X4 : ∀ w ∈ u_ws RX4 TX4 6, w ∈ wsX4_leave := by decide +kernel
set_option maxRecDepth 20000 in
theorem wd_X4_leave_st_X7_isPlace : Cond.static yX7_isPlace ∈ wsX4_leave := by decide +kernel
set_option maxRecDepth 20000 in
theorem wd_X4_leave_ini7 : Cond.initialized RX7 ∈ wsX4_leave := by decide +kernel
set_option maxRecDepth 20000 in
theorem wd_X4_leave_f15 : Cond.fieldLink RX4 15 "ShirtButtons$Places" "binOf" "[I" ∈ wsX4_leave := by decide +kernel
set_option maxRecDepth 20000 in
theorem wd_X4_leave_st_X7_isBin : Cond.static yX7_isBin ∈ wsX4_leave := by decide +kernel
set_option maxRecDepth 20000 in
theorem wd_X4_leave_f27 : Cond.fieldLink RX4 27 "ShirtButtons$Places" "inBin" "[I" ∈ wsX4_leave := by decide +kernel
set_option maxRecDepth 20000 in
theorem wd_X4_leave_f24 : Cond.fieldLink RX4 24 "ShirtButtons$Places" "at" "[I" ∈ wsX4_leave := by decide +kernel
set_option maxHeartbeats 4000000 in
set_option maxRecDepth 100000 in
theorem k_X4_leave (l : Launch) (E : wE) (a : Nat → Nat) (sz : Nat) (x1 : Int) (z : bP) (u : bP) (hf : f_X4_leave x1 z = some u) : cV l yX4_leave wsX4_leave { frames := 1, cells := 0, slots := 0, locals := 20 } E sz [.ref (a 0), .int (zi x1)] (wP a E z) (wP a E u) := by
  refine met_go (cc := cX4_leave) (maxL := 2) (ret := none) (Q0 := mQv E (wP a E u)) (by decide +kernel) rfl (Nat.le_of_ble_eq_true rfl) ?_
  intro A p e s m below meth c hx hb hr hml hts hown hlocks hP hK hD hA hS ls hl
  have hl : lv_has ls 2 [(0, .ref (a 0)), (1, .int (zi x1))] := hl
  generalize hH : s.heap = H at hP
  have hS : va_S A s.heap H [] := by rw [← hH]; exact hS
  have hown : s.vm.findClass RX4 = some m.cls := hown
  have h := hf
  rw [f_X4_leave] at h
  refine lv_iload_n hx hb dX4_leave_0 rfl (lv_at hl 1 rfl) ?_
  obtain ⟨u1, q2, h⟩ := bd_t h
  refine iv_callS (As := [.int (zi x1)]) (rest := []) ⟨hx, hb, hml, hown, hts⟩ (k_X4_isNumber l E H.size x1 u1 q2) (va_cwS 1 hts gX4_leave_X4_isNumber rfl rfl rfl (by decide +kernel) ⟨Nat.le_of_ble_eq_true rfl, Nat.le_of_ble_eq_true rfl⟩) hK hP hS hA rfl hl.1 (Nat.le_of_ble_eq_true rfl) ⟨Nat.zero_le _, Nat.zero_le _⟩ dX4_leave_1 (fun H locs hP hS => ?_)
  obtain ⟨g3, h⟩ := gd_t h
  refine iv_ne (tgt := 8) hx hb g3 dX4_leave_4 (by decide) (fun c4 => ?_) (fun c4 => ?_)
  · have h := it_f c4 h
    refine lv_aload_n hx hb dX4_leave_8 rfl (lv_at hl 0 rfl) ?_
    refine va_get (D := E.1) (ci := 4) (v := .ref (a 1)) (C := RX4) (T := TX4) (N := 6) hx hb hts in_X4_leave_X4 hown hK.1 hP 0 rfl rfl 0 (by decide) (hts _ wd_X4_leave_f9) (fun _ h9 => h9) rfl dX4_leave_9 ?_
    refine lv_iload_n hx hb dX4_leave_12 rfl (lv_at hl 1 rfl) ?_
    obtain ⟨g5, h⟩ := gd_t h
    refine iv_iald (f := z.1) (j := x1.toNat) hx hb hK.1 hP 1 0 rfl rfl (by decide) g5 rfl dX4_leave_13 ?_
    obtain ⟨u6, q7, h⟩ := bd_t h
    refine iv_callSn (host := RX7) (As := [.int (zi (z.1 x1.toNat))]) (rest := []) ⟨hx, hb, hml, hown, hts⟩ (k_X7_isPlace l E H.size (z.1 x1.toNat) u6 q7) ⟨va_cnB 1 hts gX4_leave_X7_isPlace_n44 rfl rfl rfl hK.2.1 (hts _ wd_X4_leave_ini7) (by decide +kernel) ⟨Nat.le_of_ble_eq_true rfl, Nat.le_of_ble_eq_true rfl⟩, hts _ wd_X4_leave_st_X7_isPlace, trivial⟩ hK hP hS hA rfl hl.1 (Nat.le_of_ble_eq_true rfl) ⟨Nat.zero_le _, Nat.zero_le _⟩ dX4_leave_14 (fun H locs hP hS => ?_)
    obtain ⟨g8, h⟩ := gd_t h
    refine iv_eq (tgt := 35) hx hb g8 dX4_leave_17 (by decide) (fun c9 => ?_) (fun c9 => ?_)
    · have h := it_t c9 h
      refine lv_aload_n hx hb dX4_leave_35 rfl (lv_at hl 0 rfl) ?_
      refine va_get (D := E.1) (ci := 4) (v := .ref (a 2)) (C := RX4) (T := TX4) (N := 6) hx hb hts in_X4_leave_X4 hown hK.1 hP 0 rfl rfl 1 (by decide) (hts _ wd_X4_leave_f15) (fun _ h9 => h9) rfl dX4_leave_36 ?_
      refine lv_iload_n hx hb dX4_leave_39 rfl (lv_at hl 1 rfl) ?_
      refine iv_iald (f := z.2.1) (j := x1.toNat) hx hb hK.1 hP 2 0 rfl rfl (by decide) g5 rfl dX4_leave_40 ?_
      obtain ⟨u10, q11, h⟩ := bd_t h
      refine iv_callSn (host := RX7) (As := [.int (zi (z.2.1 x1.toNat))]) (rest := []) ⟨hx, hb, hml, hown, hts⟩ (k_X7_isBin l E H.size (z.2.1 x1.toNat) u10 q11) ⟨va_cnB 1 hts gX4_leave_X7_isBin_n47 rfl rfl rfl hK.2.2.1 (hts _ wd_X4_leave_ini7) (by decide +kernel) ⟨Nat.le_of_ble_eq_true rfl, Nat.le_of_ble_eq_true rfl⟩, hts _ wd_X4_leave_st_X7_isBin, trivial⟩ hK hP hS hA rfl hl.1 (Nat.le_of_ble_eq_true rfl) ⟨Nat.zero_le _, Nat.zero_le _⟩ dX4_leave_41 (fun H locs hP hS => ?_)
      obtain ⟨g12, h⟩ := gd_t h
      refine iv_eq (tgt := 62) hx hb g12 dX4_leave_44 (by decide) (fun c13 => ?_) (fun c13 => ?_)
      · have h := it_t c13 h
        cases h
        exact iv_vret hx hb hr hlocks hK hP hD hS dX4_leave_62
      · have h := it_f c13 h
        refine lv_aload_n hx hb dX4_leave_47 rfl (lv_at hl 0 rfl) ?_
        refine va_get (D := E.1) (ci := 4) (v := .ref (a 6)) (C := RX4) (T := TX4) (N := 6) hx hb hts in_X4_leave_X4 hown hK.1 hP 0 rfl rfl 5 (by decide) (hts _ wd_X4_leave_f27) (fun _ h9 => h9) rfl dX4_leave_48 ?_
        refine lv_aload_n hx hb dX4_leave_51 rfl (lv_at hl 0 rfl) ?_
        refine va_get (D := E.1) (ci := 4) (v := .ref (a 2)) (C := RX4) (T := TX4) (N := 6) hx hb hts in_X4_leave_X4 hown hK.1 hP 0 rfl rfl 1 (by decide) (hts _ wd_X4_leave_f15) (fun _ h9 => h9) rfl dX4_leave_52 ?_
        refine lv_iload_n hx hb dX4_leave_55 rfl (lv_at hl 1 rfl) ?_
        refine iv_iald (f := z.2.1) (j := x1.toNat) hx hb hK.1 hP 2 0 rfl rfl (by decide) g5 rfl dX4_leave_56 ?_
        refine lv_dup2_11 hx hb dX4_leave_57 rfl rfl ?_
        obtain ⟨g14, h⟩ := gd_t h
        refine iv_iald (f := z.2.2.2.2.2) (j := (z.2.1 x1.toNat).toNat) hx hb hK.1 hP 6 0 rfl rfl (by decide) g14 rfl dX4_leave_58 ?_
        refine iv_iconst hx hb dX4_leave_59 ?_
        refine iv_isub hx hb dX4_leave_60 ?_
        obtain ⟨s15, e16, h⟩ := nm_t h
        refine iv_iast (f := z.2.2.2.2.2) (j := (z.2.1 x1.toNat).toNat) (ws1 := wP a E s15) hx hb hK.1 hP hD hS 6 0 rfl rfl (by decide) g14 rfl (by rw [e16]; rfl) dX4_leave_61 (fun H locs hP hD hS => ?_)
        cases h
        exact iv_vret hx hb hr hlocks hK hP hD hS dX4_leave_62
    · have h := it_f c9 h
      refine lv_aload_n hx hb dX4_leave_20 rfl (lv_at hl 0 rfl) ?_
      refine va_get (D := E.1) (ci := 4) (v := .ref (a 5)) (C := RX4) (T := TX4) (N := 6) hx hb hts in_X4_leave_X4 hown hK.1 hP 0 rfl rfl 4 (by decide) (hts _ wd_X4_leave_f24) (fun _ h9 => h9) rfl dX4_leave_21 ?_
      refine lv_aload_n hx hb dX4_leave_24 rfl (lv_at hl 0 rfl) ?_
      refine va_get (D := E.1) (ci := 4) (v := .ref (a 1)) (C := RX4) (T := TX4) (N := 6) hx hb hts in_X4_leave_X4 hown hK.1 hP 0 rfl rfl 0 (by decide) (hts _ wd_X4_leave_f9) (fun _ h9 => h9) rfl dX4_leave_25 ?_
      refine lv_iload_n hx hb dX4_leave_28 rfl (lv_at hl 1 rfl) ?_
      refine iv_iald (f := z.1) (j := x1.toNat) hx hb hK.1 hP 1 0 rfl rfl (by decide) g5 rfl dX4_leave_29 ?_
      refine lv_dup2_11 hx hb dX4_leave_30 rfl rfl ?_
      obtain ⟨g17, h⟩ := gd_t h
      refine iv_iald (f := z.2.2.2.2.1) (j := (z.1 x1.toNat).toNat) hx hb hK.1 hP 5 0 rfl rfl (by decide) g17 rfl dX4_leave_31 ?_
      refine iv_iconst hx hb dX4_leave_32 ?_
      refine iv_isub hx hb dX4_leave_33 ?_
      obtain ⟨s18, e19, h⟩ := nm_t h
      refine iv_iast (f := z.2.2.2.2.1) (j := (z.1 x1.toNat).toNat) (ws1 := wP a E s18) hx hb hK.1 hP hD hS 5 0 rfl rfl (by decide) g17 rfl (by rw [e19]; rfl) dX4_leave_34 (fun H locs hP hD hS => ?_)
      refine lv_aload_n hx hb dX4_leave_35 rfl (lv_at hl 0 rfl) ?_
      refine va_get (D := E.1) (ci := 4) (v := .ref (a 2)) (C := RX4) (T := TX4) (N := 6) hx hb hts in_X4_leave_X4 hown hK.1 hP 0 rfl rfl 1 (by decide) (hts _ wd_X4_leave_f15) (fun _ h9 => h9) rfl dX4_leave_36 ?_
      refine lv_iload_n hx hb dX4_leave_39 rfl (lv_at hl 1 rfl) ?_
      refine iv_iald (f := s18.2.1) (j := x1.toNat) hx hb hK.1 hP 2 0 rfl rfl (by decide) g5 rfl dX4_leave_40 ?_
      obtain ⟨u20, q21, h⟩ := bd_t h
      refine iv_callSn (host := RX7) (As := [.int (zi (s18.2.1 x1.toNat))]) (rest := []) ⟨hx, hb, hml, hown, hts⟩ (k_X7_isBin l E H.size (s18.2.1 x1.toNat) u20 q21) ⟨va_cnB 1 hts gX4_leave_X7_isBin_n47 rfl rfl rfl hK.2.2.1 (hts _ wd_X4_leave_ini7) (by decide +kernel) ⟨Nat.le_of_ble_eq_true rfl, Nat.le_of_ble_eq_true rfl⟩, hts _ wd_X4_leave_st_X7_isBin, trivial⟩ hK hP hS hA rfl hl.1 (Nat.le_of_ble_eq_true rfl) ⟨Nat.zero_le _, Nat.zero_le _⟩ dX4_leave_41 (fun H locs hP hS => ?_)
      obtain ⟨g22, h⟩ := gd_t h
      refine iv_eq (tgt := 62) hx hb g22 dX4_leave_44 (by decide) (fun c23 => ?_) (fun c23 => ?_)
      · have h := it_t c23 h
        cases h
        exact iv_vret hx hb hr hlocks hK hP hD hS dX4_leave_62
      · have h := it_f c23 h
        refine lv_aload_n hx hb dX4_leave_47 rfl (lv_at hl 0 rfl) ?_
        refine va_get (D := E.1) (ci := 4) (v := .ref (a 6)) (C := RX4) (T := TX4) (N := 6) hx hb hts in_X4_leave_X4 hown hK.1 hP 0 rfl rfl 5 (by decide) (hts _ wd_X4_leave_f27) (fun _ h9 => h9) rfl dX4_leave_48 ?_
        refine lv_aload_n hx hb dX4_leave_51 rfl (lv_at hl 0 rfl) ?_
        refine va_get (D := E.1) (ci := 4) (v := .ref (a 2)) (C := RX4) (T := TX4) (N := 6) hx hb hts in_X4_leave_X4 hown hK.1 hP 0 rfl rfl 1 (by decide) (hts _ wd_X4_leave_f15) (fun _ h9 => h9) rfl dX4_leave_52 ?_
        refine lv_iload_n hx hb dX4_leave_55 rfl (lv_at hl 1 rfl) ?_
        refine iv_iald (f := s18.2.1) (j := x1.toNat) hx hb hK.1 hP 2 0 rfl rfl (by decide) g5 rfl dX4_leave_56 ?_
        refine lv_dup2_11 hx hb dX4_leave_57 rfl rfl ?_
        obtain ⟨g24, h⟩ := gd_t h
        refine iv_iald (f := s18.2.2.2.2.2) (j := (s18.2.1 x1.toNat).toNat) hx hb hK.1 hP 6 0 rfl rfl (by decide) g24 rfl dX4_leave_58 ?_
        refine iv_iconst hx hb dX4_leave_59 ?_
        refine iv_isub hx hb dX4_leave_60 ?_
        obtain ⟨s25, e26, h⟩ := nm_t h
        refine iv_iast (f := s18.2.2.2.2.2) (j := (s18.2.1 x1.toNat).toNat) (ws1 := wP a E s25) hx hb hK.1 hP hD hS 6 0 rfl rfl (by decide) g24 rfl (by rw [e26]; rfl) dX4_leave_61 (fun H locs hP hD hS => ?_)
        cases h
        exact iv_vret hx hb hr hlocks hK hP hD hS dX4_leave_62
  · have h := it_t c4 h
    cases h
    exact iv_vret hx hb hr hlocks hK hP hD hS dX4_leave_7
set_option maxRecDepth 20000 in
theorem wd_X4_takeFirst_f24 : Cond.fieldLink RX4 24 "ShirtButtons$Places" "at" "[I" ∈ wsX4_takeFirst := by decide +kernel
set_option maxRecDepth 20000 in
theorem in_X4_takeFirst_X4 : ∀ w ∈ u_ws RX4 TX4 6, w ∈ wsX4_takeFirst := by decide +kernel
set_option maxRecDepth 20000 in
theorem wd_X4_takeFirst_f21 : Cond.fieldLink RX4 21 "ShirtButtons$Places" "hopper" "[I" ∈ wsX4_takeFirst := by decide +kernel
set_option maxRecDepth 20000 in
theorem wd_X4_takeFirst_m34 : Cond.methodLink RX4 34 arraycopyName ∈ wsX4_takeFirst := by decide +kernel
set_option maxRecDepth 20000 in
theorem wd_X4_takeFirst_acn : Cond.native arraycopyName ∈ wsX4_takeFirst := by decide +kernel
set_option maxRecDepth 20000 in
theorem wd_X4_takeFirst_acs : Cond.static arraycopyName ∈ wsX4_takeFirst := by decide +kernel
set_option maxRecDepth 20000 in
theorem wd_X4_takeFirst_aci : Cond.initialized "java/lang/System" ∈ wsX4_takeFirst := by decide +kernel
set_option maxHeartbeats 4000000 in
set_option maxRecDepth 100000 in
theorem k_X4_takeFirst (l : Launch) (E : wE) (a : Nat → Nat) (sz : Nat) (z : bP) (u : (Int × bP)) (hf : f_X4_takeFirst z = some u) : cI l yX4_takeFirst wsX4_takeFirst { frames := 2, cells := 0, slots := 0, locals := 41 } E sz [.ref (a 0)] (wP a E z) (wP a E u.2) u.1 := by
  refine met_go (cc := cX4_takeFirst) (maxL := 2) (ret := (some .int)) (Q0 := mQi E (wP a E u.2) u.1) (by decide +kernel) rfl (Nat.le_of_ble_eq_true rfl) ?_
  intro A p e s m below meth c hx hb hr hml hts hown hlocks hP hK hD hA hS ls hl
  have hl : lv_has ls 2 [(0, .ref (a 0))] := hl
  generalize hH : s.heap = H at hP
  have hS : va_S A s.heap H [] := by rw [← hH]; exact hS
  have hown : s.vm.findClass RX4 = some m.cls := hown
  have h := hf
  rw [f_X4_takeFirst] at h
  refine lv_aload_n hx hb dX4_takeFirst_0 rfl (lv_at hl 0 rfl) ?_
  refine va_get (D := E.1) (ci := 4) (v := .ref (a 5)) (C := RX4) (T := TX4) (N := 6) hx hb hts in_X4_takeFirst_X4 hown hK.1 hP 0 rfl rfl 4 (by decide) (hts _ wd_X4_takeFirst_f24) (fun _ h9 => h9) rfl dX4_takeFirst_1 ?_
  refine iv_iconst hx hb dX4_takeFirst_4 ?_
  refine iv_iald (f := z.2.2.2.2.1) (j := 0) hx hb hK.1 hP 5 0 rfl rfl (by decide) (by decide +kernel) rfl dX4_takeFirst_5 ?_
  refine iv_iconst hx hb dX4_takeFirst_6 ?_
  obtain ⟨g1, h⟩ := gd_t h
  refine iv_ige (tgt := 13) hx hb g1 (by decide +kernel) dX4_takeFirst_7 (by decide) (fun c2 => ?_) (fun c2 => ?_)
  · have h := it_t c2 h
    refine lv_aload_n hx hb dX4_takeFirst_13 rfl (lv_at hl 0 rfl) ?_
    refine va_get (D := E.1) (ci := 4) (v := .ref (a 4)) (C := RX4) (T := TX4) (N := 6) hx hb hts in_X4_takeFirst_X4 hown hK.1 hP 0 rfl rfl 3 (by decide) (hts _ wd_X4_takeFirst_f21) (fun _ h9 => h9) rfl dX4_takeFirst_14 ?_
    refine iv_iconst hx hb dX4_takeFirst_17 ?_
    refine iv_iald (f := z.2.2.2.1) (j := 0) hx hb hK.1 hP 4 0 rfl rfl (by decide) (by decide +kernel) rfl dX4_takeFirst_18 ?_
    obtain ⟨v3, e4, h⟩ := nm_t h
    refine iv_nm e4 ?_
    refine lv_istore_n (lv' := [(1, .int (zi v3)), (0, .ref (a 0))]) hx hb dX4_takeFirst_19 rfl hl (by decide) rfl (fun ls hl => ?_)
    refine lv_aload_n hx hb dX4_takeFirst_20 rfl (lv_at hl 1 rfl) ?_
    refine lv_iload_n hx hb dX4_takeFirst_21 rfl (lv_at hl 0 rfl) ?_
    obtain ⟨u5, q6, h⟩ := bd_t h
    refine iv_callVf (As := [.int (zi v3)]) (rest := []) ⟨hx, hb, hml, hown, hts⟩ (k_X4_leave l E a H.size v3 z u5 q6) (cwV 1 hts gX4_takeFirst_X4_leave rfl rfl rfl (by decide +kernel) ⟨Nat.le_of_ble_eq_true rfl, Nat.le_of_ble_eq_true rfl⟩) hK hP hD hS hA 0 4 rfl rfl rfl hl.1 (Nat.le_of_ble_eq_true rfl) ⟨Nat.zero_le _, Nat.zero_le _⟩ dX4_takeFirst_22 (fun H locs hP hD hS => ?_)
    refine lv_aload_n hx hb dX4_takeFirst_25 rfl (lv_at hl 1 rfl) ?_
    refine va_get (D := E.1) (ci := 4) (v := .ref (a 4)) (C := RX4) (T := TX4) (N := 6) hx hb hts in_X4_takeFirst_X4 hown hK.1 hP 0 rfl rfl 3 (by decide) (hts _ wd_X4_takeFirst_f21) (fun _ h9 => h9) rfl dX4_takeFirst_26 ?_
    refine iv_iconst hx hb dX4_takeFirst_29 ?_
    refine lv_aload_n hx hb dX4_takeFirst_30 rfl (lv_at hl 1 rfl) ?_
    refine va_get (D := E.1) (ci := 4) (v := .ref (a 4)) (C := RX4) (T := TX4) (N := 6) hx hb hts in_X4_takeFirst_X4 hown hK.1 hP 0 rfl rfl 3 (by decide) (hts _ wd_X4_takeFirst_f21) (fun _ h9 => h9) rfl dX4_takeFirst_31 ?_
    refine iv_iconst hx hb dX4_takeFirst_34 ?_
    refine iv_bipush hx hb dX4_takeFirst_35 (by decide +kernel) ?_
    obtain ⟨s7, e8, h⟩ := nm_t h
    refine iv_copy (f := u5.2.2.2.1) (g := u5.2.2.2.1) (sp' := 1) (dp' := 0) (K := 40) (ws1 := wP a E s7) hx hb (hml.trans hl.1.symm) hown (hts _ wd_X4_takeFirst_m34) (hts _ wd_X4_takeFirst_acn) (hts _ wd_X4_takeFirst_acs) (hts _ wd_X4_takeFirst_aci) hK.1 hP hD hS 4 4 0 0 rfl rfl rfl rfl (by decide +kernel) (by decide +kernel) rfl rfl (by decide +kernel) (by decide) (by decide) (by decide) (by decide) (Nat.le_of_ble_eq_true (by decide +kernel)) (by rw [e8]; rfl) dX4_takeFirst_37 (fun H locs hP hD hS => ?_)
    refine lv_iload_n hx hb dX4_takeFirst_40 rfl (lv_at hl 0 rfl) ?_
    cases h
    exact iv_iret hx hb hr hlocks hK hP hD hS dX4_takeFirst_41
  · have h := it_f c2 h
    refine iv_bipush hx hb dX4_takeFirst_10 (by decide +kernel) ?_
    cases h
    exact iv_iret hx hb hr hlocks hK hP hD hS dX4_takeFirst_12
set_option maxRecDepth 20000 in
theorem wd_X4_put_st_X7_isPlace : Cond.static yX7_isPlace ∈ wsX4_put := by decide +kernel
set_option maxRecDepth 20000 in
theorem wd_X4_put_ini7 : Cond.initialized RX7 ∈ wsX4_put := by decide +kernel
set_option maxRecDepth 20000 in
theorem wd_X4_put_f9 : Cond.fieldLink RX4 9 "ShirtButtons$Places" "place" "[I" ∈ wsX4_put := by decide +kernel
set_option maxRecDepth 20000 in
theorem in_X4_put_X4 : ∀ w ∈ u_ws RX4 TX4 6, w ∈ wsX4_put := by decide +kernel
set_option maxRecDepth 20000 in
theorem wd_X4_put_f15 : Cond.fieldLink RX4 15 "ShirtButtons$Places" "binOf" "[I" ∈ wsX4_put := by decide +kernel
set_option maxRecDepth 20000 in
theorem wd_X4_put_f18 : Cond.fieldLink RX4 18 "ShirtButtons$Places" "shirtOf" "[I" ∈ wsX4_put := by decide +kernel
set_option maxRecDepth 20000 in
theorem wd_X4_put_f24 : Cond.fieldLink RX4 24 "ShirtButtons$Places" "at" "[I" ∈ wsX4_put := by decide +kernel
set_option maxRecDepth 20000 in
theorem wd_X4_put_st_X7_isBin : Cond.static yX7_isBin ∈ wsX4_put := by decide +kernel
set_option maxRecDepth 20000 in
theorem wd_X4_put_f27 : Cond.fieldLink RX4 27 "ShirtButtons$Places" "inBin" "[I" ∈ wsX4_put := by decide +kernel
set_option maxHeartbeats 4000000 in
set_option maxRecDepth 100000 in
theorem k_X4_put (l : Launch) (E : wE) (a : Nat → Nat) (sz : Nat) (x1 x2 x3 x4 : Int) (z : bP) (u : bP) (hf : f_X4_put x1 x2 x3 x4 z = some u) : cV l yX4_put wsX4_put { frames := 1, cells := 0, slots := 0, locals := 20 } E sz [.ref (a 0), .int (zi x1), .int (zi x2), .int (zi x3), .int (zi x4)] (wP a E z) (wP a E u) := by
  refine met_go (cc := cX4_put) (maxL := 5) (ret := none) (Q0 := mQv E (wP a E u)) (by decide +kernel) rfl (Nat.le_of_ble_eq_true rfl) ?_
  intro A p e s m below meth c hx hb hr hml hts hown hlocks hP hK hD hA hS ls hl
  have hl : lv_has ls 5 [(0, .ref (a 0)), (1, .int (zi x1)), (2, .int (zi x2)), (3, .int (zi x3)), (4, .int (zi x4))] := hl
  generalize hH : s.heap = H at hP
  have hS : va_S A s.heap H [] := by rw [← hH]; exact hS
  have hown : s.vm.findClass RX4 = some m.cls := hown
  have h := hf
  rw [f_X4_put] at h
  refine lv_iload_n hx hb dX4_put_0 rfl (lv_at hl 1 rfl) ?_
  obtain ⟨u1, q2, h⟩ := bd_t h
  refine iv_callS (As := [.int (zi x1)]) (rest := []) ⟨hx, hb, hml, hown, hts⟩ (k_X4_isNumber l E H.size x1 u1 q2) (va_cwS 1 hts gX4_put_X4_isNumber rfl rfl rfl (by decide +kernel) ⟨Nat.le_of_ble_eq_true rfl, Nat.le_of_ble_eq_true rfl⟩) hK hP hS hA rfl hl.1 (Nat.le_of_ble_eq_true rfl) ⟨Nat.zero_le _, Nat.zero_le _⟩ dX4_put_1 (fun H locs hP hS => ?_)
  obtain ⟨g3, h⟩ := gd_t h
  refine iv_eq (tgt := 14) hx hb g3 dX4_put_4 (by decide) (fun c4 => ?_) (fun c4 => ?_)
  · have h := it_t c4 h
    cases h
    exact iv_vret hx hb hr hlocks hK hP hD hS dX4_put_14
  · have h := it_f c4 h
    refine lv_iload_n hx hb dX4_put_7 rfl (lv_at hl 2 rfl) ?_
    obtain ⟨u5, q6, h⟩ := bd_t h
    refine iv_callSn (host := RX7) (As := [.int (zi x2)]) (rest := []) ⟨hx, hb, hml, hown, hts⟩ (k_X7_isPlace l E H.size x2 u5 q6) ⟨va_cnB 1 hts gX4_put_X7_isPlace_n44 rfl rfl rfl hK.2.1 (hts _ wd_X4_put_ini7) (by decide +kernel) ⟨Nat.le_of_ble_eq_true rfl, Nat.le_of_ble_eq_true rfl⟩, hts _ wd_X4_put_st_X7_isPlace, trivial⟩ hK hP hS hA rfl hl.1 (Nat.le_of_ble_eq_true rfl) ⟨Nat.zero_le _, Nat.zero_le _⟩ dX4_put_8 (fun H locs hP hS => ?_)
    obtain ⟨g7, h⟩ := gd_t h
    refine iv_ne (tgt := 15) hx hb g7 dX4_put_11 (by decide) (fun c8 => ?_) (fun c8 => ?_)
    · have h := it_f c8 h
      refine lv_aload_n hx hb dX4_put_15 rfl (lv_at hl 0 rfl) ?_
      refine va_get (D := E.1) (ci := 4) (v := .ref (a 1)) (C := RX4) (T := TX4) (N := 6) hx hb hts in_X4_put_X4 hown hK.1 hP 0 rfl rfl 0 (by decide) (hts _ wd_X4_put_f9) (fun _ h9 => h9) rfl dX4_put_16 ?_
      refine lv_iload_n hx hb dX4_put_19 rfl (lv_at hl 1 rfl) ?_
      refine lv_iload_n hx hb dX4_put_20 rfl (lv_at hl 2 rfl) ?_
      obtain ⟨g9, h⟩ := gd_t h
      obtain ⟨s10, e11, h⟩ := nm_t h
      refine iv_iast (f := z.1) (j := x1.toNat) (ws1 := wP a E s10) hx hb hK.1 hP hD hS 1 0 rfl rfl (by decide) g9 rfl (by rw [e11]; rfl) dX4_put_21 (fun H locs hP hD hS => ?_)
      refine lv_aload_n hx hb dX4_put_22 rfl (lv_at hl 0 rfl) ?_
      refine va_get (D := E.1) (ci := 4) (v := .ref (a 2)) (C := RX4) (T := TX4) (N := 6) hx hb hts in_X4_put_X4 hown hK.1 hP 0 rfl rfl 1 (by decide) (hts _ wd_X4_put_f15) (fun _ h9 => h9) rfl dX4_put_23 ?_
      refine lv_iload_n hx hb dX4_put_26 rfl (lv_at hl 1 rfl) ?_
      refine lv_iload_n hx hb dX4_put_27 rfl (lv_at hl 3 rfl) ?_
      obtain ⟨s12, e13, h⟩ := nm_t h
      refine iv_iast (f := s10.2.1) (j := x1.toNat) (ws1 := wP a E s12) hx hb hK.1 hP hD hS 2 0 rfl rfl (by decide) g9 rfl (by rw [e13]; rfl) dX4_put_28 (fun H locs hP hD hS => ?_)
      refine lv_aload_n hx hb dX4_put_29 rfl (lv_at hl 0 rfl) ?_
      refine va_get (D := E.1) (ci := 4) (v := .ref (a 3)) (C := RX4) (T := TX4) (N := 6) hx hb hts in_X4_put_X4 hown hK.1 hP 0 rfl rfl 2 (by decide) (hts _ wd_X4_put_f18) (fun _ h9 => h9) rfl dX4_put_30 ?_
      refine lv_iload_n hx hb dX4_put_33 rfl (lv_at hl 1 rfl) ?_
      refine lv_iload hx hb dX4_put_34 (lv_at hl 4 rfl) ?_
      obtain ⟨s14, e15, h⟩ := nm_t h
      refine iv_iast (f := s12.2.2.1) (j := x1.toNat) (ws1 := wP a E s14) hx hb hK.1 hP hD hS 3 0 rfl rfl (by decide) g9 rfl (by rw [e15]; rfl) dX4_put_36 (fun H locs hP hD hS => ?_)
      refine lv_aload_n hx hb dX4_put_37 rfl (lv_at hl 0 rfl) ?_
      refine va_get (D := E.1) (ci := 4) (v := .ref (a 5)) (C := RX4) (T := TX4) (N := 6) hx hb hts in_X4_put_X4 hown hK.1 hP 0 rfl rfl 4 (by decide) (hts _ wd_X4_put_f24) (fun _ h9 => h9) rfl dX4_put_38 ?_
      refine lv_iload_n hx hb dX4_put_41 rfl (lv_at hl 2 rfl) ?_
      refine lv_dup2_11 hx hb dX4_put_42 rfl rfl ?_
      obtain ⟨g16, h⟩ := gd_t h
      refine iv_iald (f := s14.2.2.2.2.1) (j := x2.toNat) hx hb hK.1 hP 5 0 rfl rfl (by decide) g16 rfl dX4_put_43 ?_
      refine iv_iconst hx hb dX4_put_44 ?_
      refine iv_iadd hx hb dX4_put_45 ?_
      obtain ⟨s17, e18, h⟩ := nm_t h
      refine iv_iast (f := s14.2.2.2.2.1) (j := x2.toNat) (ws1 := wP a E s17) hx hb hK.1 hP hD hS 5 0 rfl rfl (by decide) g16 rfl (by rw [e18]; rfl) dX4_put_46 (fun H locs hP hD hS => ?_)
      refine lv_iload_n hx hb dX4_put_47 rfl (lv_at hl 3 rfl) ?_
      obtain ⟨u19, q20, h⟩ := bd_t h
      refine iv_callSn (host := RX7) (As := [.int (zi x3)]) (rest := []) ⟨hx, hb, hml, hown, hts⟩ (k_X7_isBin l E H.size x3 u19 q20) ⟨va_cnB 1 hts gX4_put_X7_isBin_n47 rfl rfl rfl hK.2.2.1 (hts _ wd_X4_put_ini7) (by decide +kernel) ⟨Nat.le_of_ble_eq_true rfl, Nat.le_of_ble_eq_true rfl⟩, hts _ wd_X4_put_st_X7_isBin, trivial⟩ hK hP hS hA rfl hl.1 (Nat.le_of_ble_eq_true rfl) ⟨Nat.zero_le _, Nat.zero_le _⟩ dX4_put_48 (fun H locs hP hS => ?_)
      obtain ⟨g21, h⟩ := gd_t h
      refine iv_eq (tgt := 64) hx hb g21 dX4_put_51 (by decide) (fun c22 => ?_) (fun c22 => ?_)
      · have h := it_t c22 h
        cases h
        exact iv_vret hx hb hr hlocks hK hP hD hS dX4_put_64
      · have h := it_f c22 h
        refine lv_aload_n hx hb dX4_put_54 rfl (lv_at hl 0 rfl) ?_
        refine va_get (D := E.1) (ci := 4) (v := .ref (a 6)) (C := RX4) (T := TX4) (N := 6) hx hb hts in_X4_put_X4 hown hK.1 hP 0 rfl rfl 5 (by decide) (hts _ wd_X4_put_f27) (fun _ h9 => h9) rfl dX4_put_55 ?_
        refine lv_iload_n hx hb dX4_put_58 rfl (lv_at hl 3 rfl) ?_
        refine lv_dup2_11 hx hb dX4_put_59 rfl rfl ?_
        obtain ⟨g23, h⟩ := gd_t h
        refine iv_iald (f := s17.2.2.2.2.2) (j := x3.toNat) hx hb hK.1 hP 6 0 rfl rfl (by decide) g23 rfl dX4_put_60 ?_
        refine iv_iconst hx hb dX4_put_61 ?_
        refine iv_iadd hx hb dX4_put_62 ?_
        obtain ⟨s24, e25, h⟩ := nm_t h
        refine iv_iast (f := s17.2.2.2.2.2) (j := x3.toNat) (ws1 := wP a E s24) hx hb hK.1 hP hD hS 6 0 rfl rfl (by decide) g23 rfl (by rw [e25]; rfl) dX4_put_63 (fun H locs hP hD hS => ?_)
        cases h
        exact iv_vret hx hb hr hlocks hK hP hD hS dX4_put_64
    · have h := it_t c8 h
      cases h
      exact iv_vret hx hb hr hlocks hK hP hD hS dX4_put_14
set_option maxHeartbeats 4000000 in
set_option maxRecDepth 100000 in
theorem k_X4_bring (l : Launch) (E : wE) (a : Nat → Nat) (sz : Nat) (x1 x2 : Int) (z : bP) (u : bP) (hf : f_X4_bring x1 x2 z = some u) : cV l yX4_bring wsX4_bring { frames := 2, cells := 0, slots := 0, locals := 44 } E sz [.ref (a 0), .int (zi x1), .int (zi x2)] (wP a E z) (wP a E u) := by
  refine met_go (cc := cX4_bring) (maxL := 3) (ret := none) (Q0 := mQv E (wP a E u)) (by decide +kernel) rfl (Nat.le_of_ble_eq_true rfl) ?_
  intro A p e s m below meth c hx hb hr hml hts hown hlocks hP hK hD hA hS ls hl
  have hl : lv_has ls 3 [(0, .ref (a 0)), (1, .int (zi x1)), (2, .int (zi x2))] := hl
  generalize hH : s.heap = H at hP
  have hS : va_S A s.heap H [] := by rw [← hH]; exact hS
  have hown : s.vm.findClass RX4 = some m.cls := hown
  have h := hf
  rw [f_X4_bring] at h
  refine lv_aload_n hx hb dX4_bring_0 rfl (lv_at hl 0 rfl) ?_
  refine lv_iload_n hx hb dX4_bring_1 rfl (lv_at hl 1 rfl) ?_
  refine lv_iload_n hx hb dX4_bring_2 rfl (lv_at hl 2 rfl) ?_
  refine iv_bipush hx hb dX4_bring_3 (by decide +kernel) ?_
  refine iv_bipush hx hb dX4_bring_5 (by decide +kernel) ?_
  obtain ⟨u1, q2, h⟩ := bd_t h
  refine iv_callVf (As := [.int (zi x1), .int (zi x2), .int (zi (-5)), .int (zi (-5))]) (rest := []) ⟨hx, hb, hml, hown, hts⟩ (k_X4_put l E a H.size x1 x2 (-5) (-5) z u1 q2) (cwV 4 hts gX4_bring_X4_put rfl rfl rfl (by decide +kernel) ⟨Nat.le_of_ble_eq_true rfl, Nat.le_of_ble_eq_true rfl⟩) hK hP hD hS hA 0 4 rfl rfl rfl hl.1 (Nat.le_of_ble_eq_true rfl) ⟨Nat.zero_le _, Nat.zero_le _⟩ dX4_bring_7 (fun H locs hP hD hS => ?_)
  cases h
  exact iv_vret hx hb hr hlocks hK hP hD hS dX4_bring_10
set_option maxRecDepth 20000 in
theorem wd_X4_bringToHopper_f24 : Cond.fieldLink RX4 24 "ShirtButtons$Places" "at" "[I" ∈ wsX4_bringToHopper := by decide +kernel
set_option maxRecDepth 20000 in
theorem in_X4_bringToHopper_X4 : ∀ w ∈ u_ws RX4 TX4 6, w ∈ wsX4_bringToHopper := by decide +kernel
set_option maxRecDepth 20000 in
theorem wd_X4_bringToHopper_f21 : Cond.fieldLink RX4 21 "ShirtButtons$Places" "hopper" "[I" ∈ wsX4_bringToHopper := by decide +kernel
set_option maxHeartbeats 4000000 in
set_option maxRecDepth 100000 in
theorem k_X4_bringToHopper (l : Launch) (E : wE) (a : Nat → Nat) (sz : Nat) (x1 : Int) (z : bP) (u : bP) (hf : f_X4_bringToHopper x1 z = some u) : cV l yX4_bringToHopper wsX4_bringToHopper { frames := 3, cells := 0, slots := 0, locals := 66 } E sz [.ref (a 0), .int (zi x1)] (wP a E z) (wP a E u) := by
  refine met_go (cc := cX4_bringToHopper) (maxL := 3) (ret := none) (Q0 := mQv E (wP a E u)) (by decide +kernel) rfl (Nat.le_of_ble_eq_true rfl) ?_
  intro A p e s m below meth c hx hb hr hml hts hown hlocks hP hK hD hA hS ls hl
  have hl : lv_has ls 3 [(0, .ref (a 0)), (1, .int (zi x1))] := hl
  generalize hH : s.heap = H at hP
  have hS : va_S A s.heap H [] := by rw [← hH]; exact hS
  have hown : s.vm.findClass RX4 = some m.cls := hown
  have h := hf
  rw [f_X4_bringToHopper] at h
  refine lv_aload_n hx hb dX4_bringToHopper_0 rfl (lv_at hl 0 rfl) ?_
  refine va_get (D := E.1) (ci := 4) (v := .ref (a 5)) (C := RX4) (T := TX4) (N := 6) hx hb hts in_X4_bringToHopper_X4 hown hK.1 hP 0 rfl rfl 4 (by decide) (hts _ wd_X4_bringToHopper_f24) (fun _ h9 => h9) rfl dX4_bringToHopper_1 ?_
  refine iv_iconst hx hb dX4_bringToHopper_4 ?_
  refine iv_iald (f := z.2.2.2.2.1) (j := 0) hx hb hK.1 hP 5 0 rfl rfl (by decide) (by decide +kernel) rfl dX4_bringToHopper_5 ?_
  obtain ⟨v1, e2, h⟩ := nm_t h
  refine iv_nm e2 ?_
  refine lv_istore_n (lv' := [(2, .int (zi v1)), (0, .ref (a 0)), (1, .int (zi x1))]) hx hb dX4_bringToHopper_6 rfl hl (by decide) rfl (fun ls hl => ?_)
  refine lv_iload_n hx hb dX4_bringToHopper_7 rfl (lv_at hl 0 rfl) ?_
  obtain ⟨g3, h⟩ := gd_t h
  refine iv_lt (tgt := 17) hx hb g3 dX4_bringToHopper_8 (by decide) (fun c4 => ?_) (fun c4 => ?_)
  · have h := it_t c4 h
    cases h
    exact iv_vret hx hb hr hlocks hK hP hD hS dX4_bringToHopper_17
  · have h := it_f c4 h
    refine lv_iload_n hx hb dX4_bringToHopper_11 rfl (lv_at hl 0 rfl) ?_
    refine iv_bipush hx hb dX4_bringToHopper_12 (by decide +kernel) ?_
    refine iv_ilt (tgt := 18) hx hb g3 (by decide +kernel) dX4_bringToHopper_14 (by decide) (fun c5 => ?_) (fun c5 => ?_)
    · have h := it_t c5 h
      refine lv_aload_n hx hb dX4_bringToHopper_18 rfl (lv_at hl 1 rfl) ?_
      refine va_get (D := E.1) (ci := 4) (v := .ref (a 4)) (C := RX4) (T := TX4) (N := 6) hx hb hts in_X4_bringToHopper_X4 hown hK.1 hP 0 rfl rfl 3 (by decide) (hts _ wd_X4_bringToHopper_f21) (fun _ h9 => h9) rfl dX4_bringToHopper_19 ?_
      refine lv_iload_n hx hb dX4_bringToHopper_22 rfl (lv_at hl 0 rfl) ?_
      refine lv_iload_n hx hb dX4_bringToHopper_23 rfl (lv_at hl 2 rfl) ?_
      obtain ⟨g6, h⟩ := gd_t h
      obtain ⟨s7, e8, h⟩ := nm_t h
      refine iv_iast (f := z.2.2.2.1) (j := v1.toNat) (ws1 := wP a E s7) hx hb hK.1 hP hD hS 4 0 rfl rfl (by decide) g6 rfl (by rw [e8]; rfl) dX4_bringToHopper_24 (fun H locs hP hD hS => ?_)
      refine lv_aload_n hx hb dX4_bringToHopper_25 rfl (lv_at hl 1 rfl) ?_
      refine lv_iload_n hx hb dX4_bringToHopper_26 rfl (lv_at hl 2 rfl) ?_
      refine iv_iconst hx hb dX4_bringToHopper_27 ?_
      obtain ⟨u9, q10, h⟩ := bd_t h
      refine iv_callVf (As := [.int (zi x1), .int (zi 0)]) (rest := []) ⟨hx, hb, hml, hown, hts⟩ (k_X4_bring l E a H.size x1 0 s7 u9 q10) (cwV 2 hts gX4_bringToHopper_X4_bring rfl rfl rfl (by decide +kernel) ⟨Nat.le_of_ble_eq_true rfl, Nat.le_of_ble_eq_true rfl⟩) hK hP hD hS hA 0 4 rfl rfl rfl hl.1 (Nat.le_of_ble_eq_true rfl) ⟨Nat.zero_le _, Nat.zero_le _⟩ dX4_bringToHopper_28 (fun H locs hP hD hS => ?_)
      cases h
      exact iv_vret hx hb hr hlocks hK hP hD hS dX4_bringToHopper_31
    · have h := it_f c5 h
      cases h
      exact iv_vret hx hb hr hlocks hK hP hD hS dX4_bringToHopper_17
set_option maxHeartbeats 4000000 in
set_option maxRecDepth 100000 in
theorem k_X4_bringToBin (l : Launch) (E : wE) (a : Nat → Nat) (sz : Nat) (x1 x2 : Int) (z : bP) (u : bP) (hf : f_X4_bringToBin x1 x2 z = some u) : cV l yX4_bringToBin wsX4_bringToBin { frames := 2, cells := 0, slots := 0, locals := 44 } E sz [.ref (a 0), .int (zi x1), .int (zi x2)] (wP a E z) (wP a E u) := by
  refine met_go (cc := cX4_bringToBin) (maxL := 3) (ret := none) (Q0 := mQv E (wP a E u)) (by decide +kernel) rfl (Nat.le_of_ble_eq_true rfl) ?_
  intro A p e s m below meth c hx hb hr hml hts hown hlocks hP hK hD hA hS ls hl
  have hl : lv_has ls 3 [(0, .ref (a 0)), (1, .int (zi x1)), (2, .int (zi x2))] := hl
  generalize hH : s.heap = H at hP
  have hS : va_S A s.heap H [] := by rw [← hH]; exact hS
  have hown : s.vm.findClass RX4 = some m.cls := hown
  have h := hf
  rw [f_X4_bringToBin] at h
  refine lv_aload_n hx hb dX4_bringToBin_0 rfl (lv_at hl 0 rfl) ?_
  refine lv_iload_n hx hb dX4_bringToBin_1 rfl (lv_at hl 1 rfl) ?_
  refine iv_iconst hx hb dX4_bringToBin_2 ?_
  refine lv_iload_n hx hb dX4_bringToBin_3 rfl (lv_at hl 2 rfl) ?_
  refine iv_bipush hx hb dX4_bringToBin_4 (by decide +kernel) ?_
  obtain ⟨u1, q2, h⟩ := bd_t h
  refine iv_callVf (As := [.int (zi x1), .int (zi 5), .int (zi x2), .int (zi (-5))]) (rest := []) ⟨hx, hb, hml, hown, hts⟩ (k_X4_put l E a H.size x1 5 x2 (-5) z u1 q2) (cwV 4 hts gX4_bringToBin_X4_put rfl rfl rfl (by decide +kernel) ⟨Nat.le_of_ble_eq_true rfl, Nat.le_of_ble_eq_true rfl⟩) hK hP hD hS hA 0 4 rfl rfl rfl hl.1 (Nat.le_of_ble_eq_true rfl) ⟨Nat.zero_le _, Nat.zero_le _⟩ dX4_bringToBin_6 (fun H locs hP hD hS => ?_)
  cases h
  exact iv_vret hx hb hr hlocks hK hP hD hS dX4_bringToBin_9
set_option maxHeartbeats 4000000 in
set_option maxRecDepth 100000 in
theorem k_X4_bringToShirt (l : Launch) (E : wE) (a : Nat → Nat) (sz : Nat) (x1 x2 : Int) (z : bP) (u : bP) (hf : f_X4_bringToShirt x1 x2 z = some u) : cV l yX4_bringToShirt wsX4_bringToShirt { frames := 2, cells := 0, slots := 0, locals := 44 } E sz [.ref (a 0), .int (zi x1), .int (zi x2)] (wP a E z) (wP a E u) := by
  refine met_go (cc := cX4_bringToShirt) (maxL := 3) (ret := none) (Q0 := mQv E (wP a E u)) (by decide +kernel) rfl (Nat.le_of_ble_eq_true rfl) ?_
  intro A p e s m below meth c hx hb hr hml hts hown hlocks hP hK hD hA hS ls hl
  have hl : lv_has ls 3 [(0, .ref (a 0)), (1, .int (zi x1)), (2, .int (zi x2))] := hl
  generalize hH : s.heap = H at hP
  have hS : va_S A s.heap H [] := by rw [← hH]; exact hS
  have hown : s.vm.findClass RX4 = some m.cls := hown
  have h := hf
  rw [f_X4_bringToShirt] at h
  refine lv_aload_n hx hb dX4_bringToShirt_0 rfl (lv_at hl 0 rfl) ?_
  refine lv_iload_n hx hb dX4_bringToShirt_1 rfl (lv_at hl 1 rfl) ?_
  refine iv_bipush hx hb dX4_bringToShirt_2 (by decide +kernel) ?_
  refine iv_bipush hx hb dX4_bringToShirt_4 (by decide +kernel) ?_
  refine lv_iload_n hx hb dX4_bringToShirt_6 rfl (lv_at hl 2 rfl) ?_
  obtain ⟨u1, q2, h⟩ := bd_t h
  refine iv_callVf (As := [.int (zi x1), .int (zi 6), .int (zi (-5)), .int (zi x2)]) (rest := []) ⟨hx, hb, hml, hown, hts⟩ (k_X4_put l E a H.size x1 6 (-5) x2 z u1 q2) (cwV 4 hts gX4_bringToShirt_X4_put rfl rfl rfl (by decide +kernel) ⟨Nat.le_of_ble_eq_true rfl, Nat.le_of_ble_eq_true rfl⟩) hK hP hD hS hA 0 4 rfl rfl rfl hl.1 (Nat.le_of_ble_eq_true rfl) ⟨Nat.zero_le _, Nat.zero_le _⟩ dX4_bringToShirt_7 (fun H locs hP hD hS => ?_)
  cases h
  exact iv_vret hx hb hr hlocks hK hP hD hS dX4_bringToShirt_10
set_option maxRecDepth 20000 in
theorem wd_X4_rankInHopper_f24 : Cond.fieldLink RX4 24 "ShirtButtons$Places" "at" "[I" ∈ wsX4_rankInHopper := by decide +kernel
set_option maxRecDepth 20000 in
theorem in_X4_rankInHopper_X4 : ∀ w ∈ u_ws RX4 TX4 6, w ∈ wsX4_rankInHopper := by decide +kernel
set_option maxRecDepth 20000 in
theorem wd_X4_rankInHopper_f21 : Cond.fieldLink RX4 21 "ShirtButtons$Places" "hopper" "[I" ∈ wsX4_rankInHopper := by decide +kernel
set_option maxHeartbeats 4000000 in
set_option maxRecDepth 100000 in
theorem k_X4_rankInHopper (l : Launch) (E : wE) (a : Nat → Nat) (sz : Nat) (N : Nat) (x1 : Int) (z : bP) (u : (Int × bP)) (hf : f_X4_rankInHopper N x1 z = some u) : cI l yX4_rankInHopper wsX4_rankInHopper { frames := 0, cells := 0, slots := 0, locals := 0 } E sz [.ref (a 0), .int (zi x1)] (wP a E z) (wP a E u.2) u.1 := by
  refine met_go (cc := cX4_rankInHopper) (maxL := 3) (ret := (some .int)) (Q0 := mQi E (wP a E u.2) u.1) (by decide +kernel) rfl (Nat.le_of_ble_eq_true rfl) ?_
  intro A p e s m below meth c hx hb hr hml hts hown hlocks hP hK hD hA hS ls hl
  have hl : lv_has ls 3 [(0, .ref (a 0)), (1, .int (zi x1))] := hl
  generalize hH : s.heap = H at hP
  have hS : va_S A s.heap H [] := by rw [← hH]; exact hS
  have hown : s.vm.findClass RX4 = some m.cls := hown
  have loop2 : ∀ (n : Nat) (v1 v2 : Int) (s3 : bP) (H : Heap) (locs : List Loc) (ls : Array Slot), f_X4_rankInHopper_L2 N n v1 v2 s3 = some u → va_P E.1 vwCl (wP a E s3) H → va_D A (wP a E s3) → va_S A s.heap H locs → lv_has ls 3 [(0, .ref (a 0)), (1, .int (zi v1)), (2, .int (zi v2))] → W p l e ({ frames := 0, cells := 0, slots := 0, locals := 0 }) s m ([.ref (a 0), .int (zi x1)] : List Value).toArray below meth c H locs 0 0 (MQ below (mQi E (wP a E u.2) u.1 A) ([.ref (a 0), .int (zi x1)] : List Value).toArray s 0 0 A) (F0 m 2 ls []) := by
    intro n
    induction n with
    | zero =>
      intro v1 v2 s3 H locs ls h
      exact absurd (show (none : Option (Int × bP)) = some u from h) (by simp)
    | succ n ih =>
      intro v1 v2 s3 H locs ls h hP hD hS hl
      rw [f_X4_rankInHopper_L2] at h
      refine lv_iload_n hx hb dX4_rankInHopper_2 rfl (lv_at hl 2 rfl) ?_
      refine iv_bipush hx hb dX4_rankInHopper_3 (by decide +kernel) ?_
      obtain ⟨g4, h⟩ := gd_t h
      refine iv_ige (tgt := 36) hx hb g4 (by decide +kernel) dX4_rankInHopper_5 (by decide) (fun c5 => ?_) (fun c5 => ?_)
      · have h := it_t c5 h
        refine iv_bipush hx hb dX4_rankInHopper_36 (by decide +kernel) ?_
        cases h
        exact iv_iret hx hb hr hlocks hK hP hD hS dX4_rankInHopper_38
      · have h := it_f c5 h
        refine lv_iload_n hx hb dX4_rankInHopper_8 rfl (lv_at hl 2 rfl) ?_
        refine lv_aload_n hx hb dX4_rankInHopper_9 rfl (lv_at hl 0 rfl) ?_
        refine va_get (D := E.1) (ci := 4) (v := .ref (a 5)) (C := RX4) (T := TX4) (N := 6) hx hb hts in_X4_rankInHopper_X4 hown hK.1 hP 0 rfl rfl 4 (by decide) (hts _ wd_X4_rankInHopper_f24) (fun _ h9 => h9) rfl dX4_rankInHopper_10 ?_
        refine iv_iconst hx hb dX4_rankInHopper_13 ?_
        refine iv_iald (f := s3.2.2.2.2.1) (j := 0) hx hb hK.1 hP 5 0 rfl rfl (by decide) (by decide +kernel) rfl dX4_rankInHopper_14 ?_
        obtain ⟨g6, h⟩ := gd_t h
        refine iv_ige (tgt := 36) hx hb g4 g6 dX4_rankInHopper_15 (by decide) (fun c7 => ?_) (fun c7 => ?_)
        · have h := it_t c7 h
          refine iv_bipush hx hb dX4_rankInHopper_36 (by decide +kernel) ?_
          cases h
          exact iv_iret hx hb hr hlocks hK hP hD hS dX4_rankInHopper_38
        · have h := it_f c7 h
          refine lv_aload_n hx hb dX4_rankInHopper_18 rfl (lv_at hl 0 rfl) ?_
          refine va_get (D := E.1) (ci := 4) (v := .ref (a 4)) (C := RX4) (T := TX4) (N := 6) hx hb hts in_X4_rankInHopper_X4 hown hK.1 hP 0 rfl rfl 3 (by decide) (hts _ wd_X4_rankInHopper_f21) (fun _ h9 => h9) rfl dX4_rankInHopper_19 ?_
          refine lv_iload_n hx hb dX4_rankInHopper_22 rfl (lv_at hl 2 rfl) ?_
          obtain ⟨g8, h⟩ := gd_t h
          refine iv_iald (f := s3.2.2.2.1) (j := v2.toNat) hx hb hK.1 hP 4 0 rfl rfl (by decide) g8 rfl dX4_rankInHopper_23 ?_
          refine lv_iload_n hx hb dX4_rankInHopper_24 rfl (lv_at hl 1 rfl) ?_
          obtain ⟨g9, h⟩ := gd_t h
          obtain ⟨g10, h⟩ := gd_t h
          refine iv_ine (tgt := 30) hx hb g9 g10 dX4_rankInHopper_25 (by decide) (fun c11 => ?_) (fun c11 => ?_)
          · have h := it_f c11 h
            refine lv_iinc (v := zi (v2 + 1)) (lv' := [(2, .int (zi (v2 + 1))), (0, .ref (a 0)), (1, .int (zi v1))]) hx hb dX4_rankInHopper_30 hl (k := 2) rfl (by rw [zi_add]; rfl) (by decide) rfl (fun ls hl => ?_)
            refine lv_goto (tgt := 2) hx hb dX4_rankInHopper_33 (by decide) ?_
            exact ih v1 (v2 + 1) s3 _ _ _ h hP hD hS (lv_sub hl [1, 2, 0] rfl)
          · have h := it_t c11 h
            refine lv_iload_n hx hb dX4_rankInHopper_28 rfl (lv_at hl 2 rfl) ?_
            cases h
            exact iv_iret hx hb hr hlocks hK hP hD hS dX4_rankInHopper_29
  have h := hf
  rw [f_X4_rankInHopper] at h
  refine iv_iconst hx hb dX4_rankInHopper_0 ?_
  refine lv_istore_n (lv' := [(2, .int (zi 0)), (0, .ref (a 0)), (1, .int (zi x1))]) hx hb dX4_rankInHopper_1 rfl hl (by decide) rfl (fun ls hl => ?_)
  exact loop2 N x1 0 z _ _ _ h hP hD hS (lv_sub hl [1, 2, 0] rfl)
set_option maxRecDepth 20000 in
theorem wd_X4_copyFrom_f9 : Cond.fieldLink RX4 9 "ShirtButtons$Places" "place" "[I" ∈ wsX4_copyFrom := by decide +kernel
set_option maxRecDepth 20000 in
theorem in_X4_copyFrom_X4 : ∀ w ∈ u_ws RX4 TX4 6, w ∈ wsX4_copyFrom := by decide +kernel
set_option maxRecDepth 20000 in
theorem wd_X4_copyFrom_m34 : Cond.methodLink RX4 34 arraycopyName ∈ wsX4_copyFrom := by decide +kernel
set_option maxRecDepth 20000 in
theorem wd_X4_copyFrom_acn : Cond.native arraycopyName ∈ wsX4_copyFrom := by decide +kernel
set_option maxRecDepth 20000 in
theorem wd_X4_copyFrom_acs : Cond.static arraycopyName ∈ wsX4_copyFrom := by decide +kernel
set_option maxRecDepth 20000 in
theorem wd_X4_copyFrom_aci : Cond.initialized "java/lang/System" ∈ wsX4_copyFrom := by decide +kernel
set_option maxRecDepth 20000 in
theorem wd_X4_copyFrom_f15 : Cond.fieldLink RX4 15 "ShirtButtons$Places" "binOf" "[I" ∈ wsX4_copyFrom := by decide +kernel
set_option maxRecDepth 20000 in
theorem wd_X4_copyFrom_f18 : Cond.fieldLink RX4 18 "ShirtButtons$Places" "shirtOf" "[I" ∈ wsX4_copyFrom := by decide +kernel
set_option maxRecDepth 20000 in
theorem wd_X4_copyFrom_f21 : Cond.fieldLink RX4 21 "ShirtButtons$Places" "hopper" "[I" ∈ wsX4_copyFrom := by decide +kernel
set_option maxRecDepth 20000 in
theorem wd_X4_copyFrom_f24 : Cond.fieldLink RX4 24 "ShirtButtons$Places" "at" "[I" ∈ wsX4_copyFrom := by decide +kernel
set_option maxRecDepth 20000 in
theorem wd_X4_copyFrom_f27 : Cond.fieldLink RX4 27 "ShirtButtons$Places" "inBin" "[I" ∈ wsX4_copyFrom := by decide +kernel
set_option maxHeartbeats 4000000 in
set_option maxRecDepth 100000 in
theorem k_X4_copyFrom (l : Launch) (E : wE) (a b : Nat → Nat) (sz : Nat) (z : bPP) (u : bPP) (hf : f_X4_copyFrom z = some u) : cV l yX4_copyFrom wsX4_copyFrom { frames := 1, cells := 0, slots := 0, locals := 26 } E sz [.ref (a 0), .ref (b 0)] (wPP a b E z) (wPP a b E u) := by
  refine met_go (cc := cX4_copyFrom) (maxL := 2) (ret := none) (Q0 := mQv E (wPP a b E u)) (by decide +kernel) rfl (Nat.le_of_ble_eq_true rfl) ?_
  intro A p e s m below meth c hx hb hr hml hts hown hlocks hP hK hD hA hS ls hl
  have hl : lv_has ls 2 [(0, .ref (a 0)), (1, .ref (b 0))] := hl
  generalize hH : s.heap = H at hP
  have hS : va_S A s.heap H [] := by rw [← hH]; exact hS
  have hown : s.vm.findClass RX4 = some m.cls := hown
  have h := hf
  rw [f_X4_copyFrom] at h
  refine lv_aload_n hx hb dX4_copyFrom_0 rfl (lv_at hl 1 rfl) ?_
  refine va_get (D := E.1) (ci := 4) (v := .ref (b 1)) (C := RX4) (T := TX4) (N := 6) hx hb hts in_X4_copyFrom_X4 hown hK.1 hP 7 rfl rfl 0 (by decide) (hts _ wd_X4_copyFrom_f9) (fun _ h9 => h9) rfl dX4_copyFrom_1 ?_
  refine iv_iconst hx hb dX4_copyFrom_4 ?_
  refine lv_aload_n hx hb dX4_copyFrom_5 rfl (lv_at hl 0 rfl) ?_
  refine va_get (D := E.1) (ci := 4) (v := .ref (a 1)) (C := RX4) (T := TX4) (N := 6) hx hb hts in_X4_copyFrom_X4 hown hK.1 hP 0 rfl rfl 0 (by decide) (hts _ wd_X4_copyFrom_f9) (fun _ h9 => h9) rfl dX4_copyFrom_6 ?_
  refine iv_iconst hx hb dX4_copyFrom_9 ?_
  refine iv_bipush hx hb dX4_copyFrom_10 (by decide +kernel) ?_
  obtain ⟨s1, e2, h⟩ := nm_t h
  refine iv_copy (f := z.2.1) (g := z.1.1) (sp' := 0) (dp' := 0) (K := 41) (ws1 := wPP a b E s1) hx hb (hml.trans hl.1.symm) hown (hts _ wd_X4_copyFrom_m34) (hts _ wd_X4_copyFrom_acn) (hts _ wd_X4_copyFrom_acs) (hts _ wd_X4_copyFrom_aci) hK.1 hP hD hS 8 1 0 0 rfl rfl rfl rfl (by decide +kernel) (by decide +kernel) rfl rfl (by decide +kernel) (by decide) (by decide) (by decide) (by decide) (Nat.le_of_ble_eq_true (by decide +kernel)) (by rw [e2]; rfl) dX4_copyFrom_12 (fun H locs hP hD hS => ?_)
  refine lv_aload_n hx hb dX4_copyFrom_15 rfl (lv_at hl 1 rfl) ?_
  refine va_get (D := E.1) (ci := 4) (v := .ref (b 2)) (C := RX4) (T := TX4) (N := 6) hx hb hts in_X4_copyFrom_X4 hown hK.1 hP 7 rfl rfl 1 (by decide) (hts _ wd_X4_copyFrom_f15) (fun _ h9 => h9) rfl dX4_copyFrom_16 ?_
  refine iv_iconst hx hb dX4_copyFrom_19 ?_
  refine lv_aload_n hx hb dX4_copyFrom_20 rfl (lv_at hl 0 rfl) ?_
  refine va_get (D := E.1) (ci := 4) (v := .ref (a 2)) (C := RX4) (T := TX4) (N := 6) hx hb hts in_X4_copyFrom_X4 hown hK.1 hP 0 rfl rfl 1 (by decide) (hts _ wd_X4_copyFrom_f15) (fun _ h9 => h9) rfl dX4_copyFrom_21 ?_
  refine iv_iconst hx hb dX4_copyFrom_24 ?_
  refine iv_bipush hx hb dX4_copyFrom_25 (by decide +kernel) ?_
  obtain ⟨s3, e4, h⟩ := nm_t h
  refine iv_copy (f := s1.2.2.1) (g := s1.1.2.1) (sp' := 0) (dp' := 0) (K := 41) (ws1 := wPP a b E s3) hx hb (hml.trans hl.1.symm) hown (hts _ wd_X4_copyFrom_m34) (hts _ wd_X4_copyFrom_acn) (hts _ wd_X4_copyFrom_acs) (hts _ wd_X4_copyFrom_aci) hK.1 hP hD hS 9 2 0 0 rfl rfl rfl rfl (by decide +kernel) (by decide +kernel) rfl rfl (by decide +kernel) (by decide) (by decide) (by decide) (by decide) (Nat.le_of_ble_eq_true (by decide +kernel)) (by rw [e4]; rfl) dX4_copyFrom_27 (fun H locs hP hD hS => ?_)
  refine lv_aload_n hx hb dX4_copyFrom_30 rfl (lv_at hl 1 rfl) ?_
  refine va_get (D := E.1) (ci := 4) (v := .ref (b 3)) (C := RX4) (T := TX4) (N := 6) hx hb hts in_X4_copyFrom_X4 hown hK.1 hP 7 rfl rfl 2 (by decide) (hts _ wd_X4_copyFrom_f18) (fun _ h9 => h9) rfl dX4_copyFrom_31 ?_
  refine iv_iconst hx hb dX4_copyFrom_34 ?_
  refine lv_aload_n hx hb dX4_copyFrom_35 rfl (lv_at hl 0 rfl) ?_
  refine va_get (D := E.1) (ci := 4) (v := .ref (a 3)) (C := RX4) (T := TX4) (N := 6) hx hb hts in_X4_copyFrom_X4 hown hK.1 hP 0 rfl rfl 2 (by decide) (hts _ wd_X4_copyFrom_f18) (fun _ h9 => h9) rfl dX4_copyFrom_36 ?_
  refine iv_iconst hx hb dX4_copyFrom_39 ?_
  refine iv_bipush hx hb dX4_copyFrom_40 (by decide +kernel) ?_
  obtain ⟨s5, e6, h⟩ := nm_t h
  refine iv_copy (f := s3.2.2.2.1) (g := s3.1.2.2.1) (sp' := 0) (dp' := 0) (K := 41) (ws1 := wPP a b E s5) hx hb (hml.trans hl.1.symm) hown (hts _ wd_X4_copyFrom_m34) (hts _ wd_X4_copyFrom_acn) (hts _ wd_X4_copyFrom_acs) (hts _ wd_X4_copyFrom_aci) hK.1 hP hD hS 10 3 0 0 rfl rfl rfl rfl (by decide +kernel) (by decide +kernel) rfl rfl (by decide +kernel) (by decide) (by decide) (by decide) (by decide) (Nat.le_of_ble_eq_true (by decide +kernel)) (by rw [e6]; rfl) dX4_copyFrom_42 (fun H locs hP hD hS => ?_)
  refine lv_aload_n hx hb dX4_copyFrom_45 rfl (lv_at hl 1 rfl) ?_
  refine va_get (D := E.1) (ci := 4) (v := .ref (b 4)) (C := RX4) (T := TX4) (N := 6) hx hb hts in_X4_copyFrom_X4 hown hK.1 hP 7 rfl rfl 3 (by decide) (hts _ wd_X4_copyFrom_f21) (fun _ h9 => h9) rfl dX4_copyFrom_46 ?_
  refine iv_iconst hx hb dX4_copyFrom_49 ?_
  refine lv_aload_n hx hb dX4_copyFrom_50 rfl (lv_at hl 0 rfl) ?_
  refine va_get (D := E.1) (ci := 4) (v := .ref (a 4)) (C := RX4) (T := TX4) (N := 6) hx hb hts in_X4_copyFrom_X4 hown hK.1 hP 0 rfl rfl 3 (by decide) (hts _ wd_X4_copyFrom_f21) (fun _ h9 => h9) rfl dX4_copyFrom_51 ?_
  refine iv_iconst hx hb dX4_copyFrom_54 ?_
  refine iv_bipush hx hb dX4_copyFrom_55 (by decide +kernel) ?_
  obtain ⟨s7, e8, h⟩ := nm_t h
  refine iv_copy (f := s5.2.2.2.2.1) (g := s5.1.2.2.2.1) (sp' := 0) (dp' := 0) (K := 41) (ws1 := wPP a b E s7) hx hb (hml.trans hl.1.symm) hown (hts _ wd_X4_copyFrom_m34) (hts _ wd_X4_copyFrom_acn) (hts _ wd_X4_copyFrom_acs) (hts _ wd_X4_copyFrom_aci) hK.1 hP hD hS 11 4 0 0 rfl rfl rfl rfl (by decide +kernel) (by decide +kernel) rfl rfl (by decide +kernel) (by decide) (by decide) (by decide) (by decide) (Nat.le_of_ble_eq_true (by decide +kernel)) (by rw [e8]; rfl) dX4_copyFrom_57 (fun H locs hP hD hS => ?_)
  refine lv_aload_n hx hb dX4_copyFrom_60 rfl (lv_at hl 1 rfl) ?_
  refine va_get (D := E.1) (ci := 4) (v := .ref (b 5)) (C := RX4) (T := TX4) (N := 6) hx hb hts in_X4_copyFrom_X4 hown hK.1 hP 7 rfl rfl 4 (by decide) (hts _ wd_X4_copyFrom_f24) (fun _ h9 => h9) rfl dX4_copyFrom_61 ?_
  refine iv_iconst hx hb dX4_copyFrom_64 ?_
  refine lv_aload_n hx hb dX4_copyFrom_65 rfl (lv_at hl 0 rfl) ?_
  refine va_get (D := E.1) (ci := 4) (v := .ref (a 5)) (C := RX4) (T := TX4) (N := 6) hx hb hts in_X4_copyFrom_X4 hown hK.1 hP 0 rfl rfl 4 (by decide) (hts _ wd_X4_copyFrom_f24) (fun _ h9 => h9) rfl dX4_copyFrom_66 ?_
  refine iv_iconst hx hb dX4_copyFrom_69 ?_
  refine iv_bipush hx hb dX4_copyFrom_70 (by decide +kernel) ?_
  obtain ⟨s9, e10, h⟩ := nm_t h
  refine iv_copy (f := s7.2.2.2.2.2.1) (g := s7.1.2.2.2.2.1) (sp' := 0) (dp' := 0) (K := 8) (ws1 := wPP a b E s9) hx hb (hml.trans hl.1.symm) hown (hts _ wd_X4_copyFrom_m34) (hts _ wd_X4_copyFrom_acn) (hts _ wd_X4_copyFrom_acs) (hts _ wd_X4_copyFrom_aci) hK.1 hP hD hS 12 5 0 0 rfl rfl rfl rfl (by decide +kernel) (by decide +kernel) rfl rfl (by decide +kernel) (by decide) (by decide) (by decide) (by decide) (Nat.le_of_ble_eq_true (by decide +kernel)) (by rw [e10]; rfl) dX4_copyFrom_72 (fun H locs hP hD hS => ?_)
  refine lv_aload_n hx hb dX4_copyFrom_75 rfl (lv_at hl 1 rfl) ?_
  refine va_get (D := E.1) (ci := 4) (v := .ref (b 6)) (C := RX4) (T := TX4) (N := 6) hx hb hts in_X4_copyFrom_X4 hown hK.1 hP 7 rfl rfl 5 (by decide) (hts _ wd_X4_copyFrom_f27) (fun _ h9 => h9) rfl dX4_copyFrom_76 ?_
  refine iv_iconst hx hb dX4_copyFrom_79 ?_
  refine lv_aload_n hx hb dX4_copyFrom_80 rfl (lv_at hl 0 rfl) ?_
  refine va_get (D := E.1) (ci := 4) (v := .ref (a 6)) (C := RX4) (T := TX4) (N := 6) hx hb hts in_X4_copyFrom_X4 hown hK.1 hP 0 rfl rfl 5 (by decide) (hts _ wd_X4_copyFrom_f27) (fun _ h9 => h9) rfl dX4_copyFrom_81 ?_
  refine iv_iconst hx hb dX4_copyFrom_84 ?_
  refine iv_bipush hx hb dX4_copyFrom_85 (by decide +kernel) ?_
  obtain ⟨s11, e12, h⟩ := nm_t h
  refine iv_copy (f := s9.2.2.2.2.2.2) (g := s9.1.2.2.2.2.2) (sp' := 0) (dp' := 0) (K := 13) (ws1 := wPP a b E s11) hx hb (hml.trans hl.1.symm) hown (hts _ wd_X4_copyFrom_m34) (hts _ wd_X4_copyFrom_acn) (hts _ wd_X4_copyFrom_acs) (hts _ wd_X4_copyFrom_aci) hK.1 hP hD hS 13 6 0 0 rfl rfl rfl rfl (by decide +kernel) (by decide +kernel) rfl rfl (by decide +kernel) (by decide) (by decide) (by decide) (by decide) (Nat.le_of_ble_eq_true (by decide +kernel)) (by rw [e12]; rfl) dX4_copyFrom_87 (fun H locs hP hD hS => ?_)
  cases h
  exact iv_vret hx hb hr hlocks hK hP hD hS dX4_copyFrom_90
set_option maxRecDepth 20000 in
theorem wd_X6_append_f15 : Cond.fieldLink RX6 15 "ShirtButtons$Text" "length" "I" ∈ wsX6_append := by decide +kernel
set_option maxRecDepth 20000 in
theorem in_X6_append_X6 : ∀ w ∈ u_ws RX6 TX6 2, w ∈ wsX6_append := by decide +kernel
set_option maxRecDepth 20000 in
theorem wd_X6_append_f9 : Cond.fieldLink RX6 9 "ShirtButtons$Text" "signs" "[C" ∈ wsX6_append := by decide +kernel
set_option maxHeartbeats 4000000 in
set_option maxRecDepth 100000 in
theorem k_X6_append (l : Launch) (E : wE) (a : Nat → Nat) (sz : Nat) (x1 : Int) (z : bT) (u : (Int × bT)) (hf : f_X6_append x1 z = some u) : cI l yX6_append wsX6_append { frames := 0, cells := 0, slots := 0, locals := 0 } E sz [.ref (a 0), .int (zi x1)] (wT a E z) (wT a E u.2) u.1 := by
  refine met_go (cc := cX6_append) (maxL := 2) (ret := (some .boolean)) (Q0 := mQi E (wT a E u.2) u.1) (by decide +kernel) rfl (Nat.le_of_ble_eq_true rfl) ?_
  intro A p e s m below meth c hx hb hr hml hts hown hlocks hP hK hD hA hS ls hl
  have hl : lv_has ls 2 [(0, .ref (a 0)), (1, .int (zi x1))] := hl
  generalize hH : s.heap = H at hP
  have hS : va_S A s.heap H [] := by rw [← hH]; exact hS
  have hown : s.vm.findClass RX6 = some m.cls := hown
  have h := hf
  rw [f_X6_append] at h
  refine lv_aload_n hx hb dX6_append_0 rfl (lv_at hl 0 rfl) ?_
  refine va_get (D := E.1) (ci := 6) (v := .int (zi z.2)) (C := RX6) (T := TX6) (N := 2) hx hb hts in_X6_append_X6 hown hK.1 hP 0 rfl rfl 1 (by decide) (hts _ wd_X6_append_f15) (fun _ h9 => h9) rfl dX6_append_1 ?_
  refine iv_bipush hx hb dX6_append_4 (by decide +kernel) ?_
  obtain ⟨g1, h⟩ := gd_t h
  refine iv_ilt (tgt := 11) hx hb g1 (by decide +kernel) dX6_append_6 (by decide) (fun c2 => ?_) (fun c2 => ?_)
  · have h := it_t c2 h
    refine lv_aload_n hx hb dX6_append_11 rfl (lv_at hl 0 rfl) ?_
    refine va_get (D := E.1) (ci := 6) (v := .ref (a 1)) (C := RX6) (T := TX6) (N := 2) hx hb hts in_X6_append_X6 hown hK.1 hP 0 rfl rfl 0 (by decide) (hts _ wd_X6_append_f9) (fun _ h9 => h9) rfl dX6_append_12 ?_
    refine lv_aload_n hx hb dX6_append_15 rfl (lv_at hl 0 rfl) ?_
    refine va_get (D := E.1) (ci := 6) (v := .int (zi z.2)) (C := RX6) (T := TX6) (N := 2) hx hb hts in_X6_append_X6 hown hK.1 hP 0 rfl rfl 1 (by decide) (hts _ wd_X6_append_f15) (fun _ h9 => h9) rfl dX6_append_16 ?_
    refine lv_iload_n hx hb dX6_append_19 rfl (lv_at hl 1 rfl) ?_
    obtain ⟨g3, h⟩ := gd_t h
    obtain ⟨g4, h⟩ := gd_t h
    obtain ⟨s5, e6, h⟩ := nm_t h
    refine iv_cast (f := z.1) (j := z.2.toNat) (ws1 := wT a E s5) hx hb hK.1 hP hD hS 1 1 rfl rfl (by decide) g3 g4 rfl (by rw [e6]; rfl) dX6_append_20 (fun H locs hP hD hS => ?_)
    refine lv_aload_n hx hb dX6_append_21 rfl (lv_at hl 0 rfl) ?_
    refine lv_dup hx hb dX6_append_22 rfl ?_
    refine va_get (D := E.1) (ci := 6) (v := .int (zi s5.2)) (C := RX6) (T := TX6) (N := 2) hx hb hts in_X6_append_X6 hown hK.1 hP 0 rfl rfl 1 (by decide) (hts _ wd_X6_append_f15) (fun _ h9 => h9) rfl dX6_append_23 ?_
    refine iv_iconst hx hb dX6_append_26 ?_
    refine iv_iadd hx hb dX6_append_27 ?_
    obtain ⟨s7, e8, h⟩ := nm_t h
    refine iv_put (D := E.1) (ci := 6) (v := .int (zi (s5.2 + 1))) (ty := .int) (ws1 := wT a E s7) (C := RX6) (T := TX6) (N := 2) hx hb hts in_X6_append_X6 tyX6 tyX6_ok nmX6 hown hK.1 hP hD hS 0 rfl rfl 1 (by decide) (hts _ wd_X6_append_f15) (fun _ h9 => h9) rfl (by decide +kernel) rfl rfl (Nat.le_of_ble_eq_true rfl) (by rw [e8]; rfl) dX6_append_28 (fun H locs hP hD hS => ?_)
    refine iv_iconst hx hb dX6_append_31 ?_
    cases h
    exact iv_zret (r := 1) hx hb hr hlocks (by decide +kernel) hK hP hD hS dX6_append_32
  · have h := it_f c2 h
    refine iv_iconst hx hb dX6_append_9 ?_
    cases h
    exact iv_zret (r := 0) hx hb hr hlocks (by decide +kernel) hK hP hD hS dX6_append_10
set_option maxRecDepth 20000 in
theorem wd_X0_takeDigit_f31 : Cond.fieldLink RX0 31 "ShirtButtons$Batch" "at" "I" ∈ wsX0_takeDigit := by decide +kernel
set_option maxRecDepth 20000 in
theorem in_X0_takeDigit_X0 : ∀ w ∈ u_ws RX0 TX0 8, w ∈ wsX0_takeDigit := by decide +kernel
set_option maxRecDepth 20000 in
theorem wd_X0_takeDigit_f34 : Cond.fieldLink RX0 34 "ShirtButtons$Batch" "source" "LShirtButtons$Text;" ∈ wsX0_takeDigit := by decide +kernel
set_option maxRecDepth 20000 in
theorem wd_X0_takeDigit_f42 : Cond.fieldLink RX0 42 "ShirtButtons$Text" "length" "I" ∈ wsX0_takeDigit := by decide +kernel
set_option maxRecDepth 20000 in
theorem in_X0_takeDigit_X6 : ∀ w ∈ u_ws RX6 TX6 2, w ∈ wsX0_takeDigit := by decide +kernel
set_option maxRecDepth 20000 in
theorem wd_X0_takeDigit_f63 : Cond.fieldLink RX0 63 "ShirtButtons$Text" "signs" "[C" ∈ wsX0_takeDigit := by decide +kernel
set_option maxHeartbeats 4000000 in
set_option maxRecDepth 100000 in
theorem k_X0_takeDigit (l : Launch) (E : wE) (a : Nat → Nat) (sz : Nat) (x1 x2 : Int) (z : bBT) (u : (Int × bBT)) (hf : f_X0_takeDigit x1 x2 z = some u) : cI l yX0_takeDigit wsX0_takeDigit { frames := 0, cells := 0, slots := 0, locals := 0 } E sz [.ref (a 0), .int (zi x1), .int (zi x2)] (wBT a E z) (wBT a E u.2) u.1 := by
  refine met_go (cc := cX0_takeDigit) (maxL := 4) (ret := (some .int)) (Q0 := mQi E (wBT a E u.2) u.1) (by decide +kernel) rfl (Nat.le_of_ble_eq_true rfl) ?_
  intro A p e s m below meth c hx hb hr hml hts hown hlocks hP hK hD hA hS ls hl
  have hl : lv_has ls 4 [(0, .ref (a 0)), (1, .int (zi x1)), (2, .int (zi x2))] := hl
  generalize hH : s.heap = H at hP
  have hS : va_S A s.heap H [] := by rw [← hH]; exact hS
  have hown : s.vm.findClass RX0 = some m.cls := hown
  have h := hf
  rw [f_X0_takeDigit] at h
  refine lv_aload_n hx hb dX0_takeDigit_0 rfl (lv_at hl 0 rfl) ?_
  refine va_get (D := E.1) (ci := 0) (v := .int (zi z.1.2.2.2.2.2.2)) (C := RX0) (T := TX0) (N := 8) hx hb hts in_X0_takeDigit_X0 hown hK.1 hP 0 rfl rfl 7 (by decide) (hts _ wd_X0_takeDigit_f31) (fun _ h9 => h9) rfl dX0_takeDigit_1 ?_
  refine lv_aload_n hx hb dX0_takeDigit_4 rfl (lv_at hl 0 rfl) ?_
  refine va_get (D := E.1) (ci := 0) (v := .ref (a 6)) (C := RX0) (T := TX0) (N := 8) hx hb hts in_X0_takeDigit_X0 hown hK.1 hP 0 rfl rfl 6 (by decide) (hts _ wd_X0_takeDigit_f34) (fun _ h9 => h9) rfl dX0_takeDigit_5 ?_
  refine va_get (D := E.1) (ci := 6) (v := .int (zi z.2.2)) (C := RX6) (T := TX6) (N := 2) hx hb hts in_X0_takeDigit_X6 hown hK.1 hP 6 rfl rfl 1 (by decide) (hts _ wd_X0_takeDigit_f42) (fun _ h9 => h9) rfl dX0_takeDigit_8 ?_
  obtain ⟨g1, h⟩ := gd_t h
  obtain ⟨g2, h⟩ := gd_t h
  refine iv_ilt (tgt := 16) hx hb g1 g2 dX0_takeDigit_11 (by decide) (fun c3 => ?_) (fun c3 => ?_)
  · have h := it_t c3 h
    refine lv_aload_n hx hb dX0_takeDigit_16 rfl (lv_at hl 0 rfl) ?_
    refine va_get (D := E.1) (ci := 0) (v := .ref (a 6)) (C := RX0) (T := TX0) (N := 8) hx hb hts in_X0_takeDigit_X0 hown hK.1 hP 0 rfl rfl 6 (by decide) (hts _ wd_X0_takeDigit_f34) (fun _ h9 => h9) rfl dX0_takeDigit_17 ?_
    refine va_get (D := E.1) (ci := 6) (v := .ref (a 7)) (C := RX6) (T := TX6) (N := 2) hx hb hts in_X0_takeDigit_X6 hown hK.1 hP 6 rfl rfl 0 (by decide) (hts _ wd_X0_takeDigit_f63) (fun _ h9 => h9) rfl dX0_takeDigit_20 ?_
    refine lv_aload_n hx hb dX0_takeDigit_23 rfl (lv_at hl 0 rfl) ?_
    refine va_get (D := E.1) (ci := 0) (v := .int (zi z.1.2.2.2.2.2.2)) (C := RX0) (T := TX0) (N := 8) hx hb hts in_X0_takeDigit_X0 hown hK.1 hP 0 rfl rfl 7 (by decide) (hts _ wd_X0_takeDigit_f31) (fun _ h9 => h9) rfl dX0_takeDigit_24 ?_
    obtain ⟨g4, h⟩ := gd_t h
    refine iv_cald (f := z.2.1) (j := z.1.2.2.2.2.2.2.toNat) hx hb hK.1 hP 7 1 rfl rfl (by decide) g4 rfl dX0_takeDigit_27 ?_
    refine iv_bipush hx hb dX0_takeDigit_28 (by decide +kernel) ?_
    refine iv_isub hx hb dX0_takeDigit_30 ?_
    obtain ⟨v5, e6, h⟩ := nm_t h
    refine iv_nm e6 ?_
    refine lv_istore_n (lv' := [(3, .int (zi v5)), (0, .ref (a 0)), (1, .int (zi x1)), (2, .int (zi x2))]) hx hb dX0_takeDigit_31 rfl hl (by decide) rfl (fun ls hl => ?_)
    refine lv_iload_n hx hb dX0_takeDigit_32 rfl (lv_at hl 0 rfl) ?_
    refine lv_iload_n hx hb dX0_takeDigit_33 rfl (lv_at hl 2 rfl) ?_
    obtain ⟨g7, h⟩ := gd_t h
    obtain ⟨g8, h⟩ := gd_t h
    refine iv_ilt (tgt := 42) hx hb g7 g8 dX0_takeDigit_34 (by decide) (fun c9 => ?_) (fun c9 => ?_)
    · have h := it_t c9 h
      refine iv_iconst hx hb dX0_takeDigit_42 ?_
      cases h
      exact iv_iret hx hb hr hlocks hK hP hD hS dX0_takeDigit_43
    · have h := it_f c9 h
      refine lv_iload_n hx hb dX0_takeDigit_37 rfl (lv_at hl 0 rfl) ?_
      refine lv_iload_n hx hb dX0_takeDigit_38 rfl (lv_at hl 3 rfl) ?_
      obtain ⟨g10, h⟩ := gd_t h
      refine iv_ile (tgt := 44) hx hb g7 g10 dX0_takeDigit_39 (by decide) (fun c11 => ?_) (fun c11 => ?_)
      · have h := it_t c11 h
        refine lv_aload_n hx hb dX0_takeDigit_44 rfl (lv_at hl 1 rfl) ?_
        refine lv_dup hx hb dX0_takeDigit_45 rfl ?_
        refine va_get (D := E.1) (ci := 0) (v := .int (zi z.1.2.2.2.2.2.2)) (C := RX0) (T := TX0) (N := 8) hx hb hts in_X0_takeDigit_X0 hown hK.1 hP 0 rfl rfl 7 (by decide) (hts _ wd_X0_takeDigit_f31) (fun _ h9 => h9) rfl dX0_takeDigit_46 ?_
        refine iv_iconst hx hb dX0_takeDigit_49 ?_
        refine iv_iadd hx hb dX0_takeDigit_50 ?_
        obtain ⟨s12, e13, h⟩ := nm_t h
        refine iv_put (D := E.1) (ci := 0) (v := .int (zi (z.1.2.2.2.2.2.2 + 1))) (ty := .int) (ws1 := wBT a E s12) (C := RX0) (T := TX0) (N := 8) hx hb hts in_X0_takeDigit_X0 tyX0 tyX0_ok nmX0 hown hK.1 hP hD hS 0 rfl rfl 7 (by decide) (hts _ wd_X0_takeDigit_f31) (fun _ h9 => h9) rfl (by decide +kernel) rfl rfl (Nat.le_of_ble_eq_true rfl) (by rw [e13]; rfl) dX0_takeDigit_51 (fun H locs hP hD hS => ?_)
        refine lv_iload_n hx hb dX0_takeDigit_54 rfl (lv_at hl 0 rfl) ?_
        cases h
        exact iv_iret hx hb hr hlocks hK hP hD hS dX0_takeDigit_55
      · have h := it_f c11 h
        refine iv_iconst hx hb dX0_takeDigit_42 ?_
        cases h
        exact iv_iret hx hb hr hlocks hK hP hD hS dX0_takeDigit_43
  · have h := it_f c3 h
    refine iv_iconst hx hb dX0_takeDigit_14 ?_
    cases h
    exact iv_iret hx hb hr hlocks hK hP hD hS dX0_takeDigit_15
set_option maxRecDepth 20000 in
theorem wd_X0_takeSign_f31 : Cond.fieldLink RX0 31 "ShirtButtons$Batch" "at" "I" ∈ wsX0_takeSign := by decide +kernel
set_option maxRecDepth 20000 in
theorem in_X0_takeSign_X0 : ∀ w ∈ u_ws RX0 TX0 8, w ∈ wsX0_takeSign := by decide +kernel
set_option maxRecDepth 20000 in
theorem wd_X0_takeSign_f34 : Cond.fieldLink RX0 34 "ShirtButtons$Batch" "source" "LShirtButtons$Text;" ∈ wsX0_takeSign := by decide +kernel
set_option maxRecDepth 20000 in
theorem wd_X0_takeSign_f42 : Cond.fieldLink RX0 42 "ShirtButtons$Text" "length" "I" ∈ wsX0_takeSign := by decide +kernel
set_option maxRecDepth 20000 in
theorem in_X0_takeSign_X6 : ∀ w ∈ u_ws RX6 TX6 2, w ∈ wsX0_takeSign := by decide +kernel
set_option maxRecDepth 20000 in
theorem wd_X0_takeSign_f63 : Cond.fieldLink RX0 63 "ShirtButtons$Text" "signs" "[C" ∈ wsX0_takeSign := by decide +kernel
set_option maxHeartbeats 4000000 in
set_option maxRecDepth 100000 in
theorem k_X0_takeSign (l : Launch) (E : wE) (a : Nat → Nat) (sz : Nat) (x1 : Int) (z : bBT) (u : (Int × bBT)) (hf : f_X0_takeSign x1 z = some u) : cI l yX0_takeSign wsX0_takeSign { frames := 0, cells := 0, slots := 0, locals := 0 } E sz [.ref (a 0), .int (zi x1)] (wBT a E z) (wBT a E u.2) u.1 := by
  refine met_go (cc := cX0_takeSign) (maxL := 2) (ret := (some .boolean)) (Q0 := mQi E (wBT a E u.2) u.1) (by decide +kernel) rfl (Nat.le_of_ble_eq_true rfl) ?_
  intro A p e s m below meth c hx hb hr hml hts hown hlocks hP hK hD hA hS ls hl
  have hl : lv_has ls 2 [(0, .ref (a 0)), (1, .int (zi x1))] := hl
  generalize hH : s.heap = H at hP
  have hS : va_S A s.heap H [] := by rw [← hH]; exact hS
  have hown : s.vm.findClass RX0 = some m.cls := hown
  have h := hf
  rw [f_X0_takeSign] at h
  refine lv_aload_n hx hb dX0_takeSign_0 rfl (lv_at hl 0 rfl) ?_
  refine va_get (D := E.1) (ci := 0) (v := .int (zi z.1.2.2.2.2.2.2)) (C := RX0) (T := TX0) (N := 8) hx hb hts in_X0_takeSign_X0 hown hK.1 hP 0 rfl rfl 7 (by decide) (hts _ wd_X0_takeSign_f31) (fun _ h9 => h9) rfl dX0_takeSign_1 ?_
  refine lv_aload_n hx hb dX0_takeSign_4 rfl (lv_at hl 0 rfl) ?_
  refine va_get (D := E.1) (ci := 0) (v := .ref (a 6)) (C := RX0) (T := TX0) (N := 8) hx hb hts in_X0_takeSign_X0 hown hK.1 hP 0 rfl rfl 6 (by decide) (hts _ wd_X0_takeSign_f34) (fun _ h9 => h9) rfl dX0_takeSign_5 ?_
  refine va_get (D := E.1) (ci := 6) (v := .int (zi z.2.2)) (C := RX6) (T := TX6) (N := 2) hx hb hts in_X0_takeSign_X6 hown hK.1 hP 6 rfl rfl 1 (by decide) (hts _ wd_X0_takeSign_f42) (fun _ h9 => h9) rfl dX0_takeSign_8 ?_
  obtain ⟨g1, h⟩ := gd_t h
  obtain ⟨g2, h⟩ := gd_t h
  refine iv_ige (tgt := 30) hx hb g1 g2 dX0_takeSign_11 (by decide) (fun c3 => ?_) (fun c3 => ?_)
  · have h := it_t c3 h
    refine iv_iconst hx hb dX0_takeSign_30 ?_
    cases h
    exact iv_zret (r := 0) hx hb hr hlocks (by decide +kernel) hK hP hD hS dX0_takeSign_31
  · have h := it_f c3 h
    refine lv_aload_n hx hb dX0_takeSign_14 rfl (lv_at hl 0 rfl) ?_
    refine va_get (D := E.1) (ci := 0) (v := .ref (a 6)) (C := RX0) (T := TX0) (N := 8) hx hb hts in_X0_takeSign_X0 hown hK.1 hP 0 rfl rfl 6 (by decide) (hts _ wd_X0_takeSign_f34) (fun _ h9 => h9) rfl dX0_takeSign_15 ?_
    refine va_get (D := E.1) (ci := 6) (v := .ref (a 7)) (C := RX6) (T := TX6) (N := 2) hx hb hts in_X0_takeSign_X6 hown hK.1 hP 6 rfl rfl 0 (by decide) (hts _ wd_X0_takeSign_f63) (fun _ h9 => h9) rfl dX0_takeSign_18 ?_
    refine lv_aload_n hx hb dX0_takeSign_21 rfl (lv_at hl 0 rfl) ?_
    refine va_get (D := E.1) (ci := 0) (v := .int (zi z.1.2.2.2.2.2.2)) (C := RX0) (T := TX0) (N := 8) hx hb hts in_X0_takeSign_X0 hown hK.1 hP 0 rfl rfl 7 (by decide) (hts _ wd_X0_takeSign_f31) (fun _ h9 => h9) rfl dX0_takeSign_22 ?_
    obtain ⟨g4, h⟩ := gd_t h
    refine iv_cald (f := z.2.1) (j := z.1.2.2.2.2.2.2.toNat) hx hb hK.1 hP 7 1 rfl rfl (by decide) g4 rfl dX0_takeSign_25 ?_
    refine lv_iload_n hx hb dX0_takeSign_26 rfl (lv_at hl 1 rfl) ?_
    obtain ⟨g5, h⟩ := gd_t h
    obtain ⟨g6, h⟩ := gd_t h
    refine iv_ieq (tgt := 32) hx hb g5 g6 dX0_takeSign_27 (by decide) (fun c7 => ?_) (fun c7 => ?_)
    · have h := it_t c7 h
      refine lv_aload_n hx hb dX0_takeSign_32 rfl (lv_at hl 0 rfl) ?_
      refine lv_dup hx hb dX0_takeSign_33 rfl ?_
      refine va_get (D := E.1) (ci := 0) (v := .int (zi z.1.2.2.2.2.2.2)) (C := RX0) (T := TX0) (N := 8) hx hb hts in_X0_takeSign_X0 hown hK.1 hP 0 rfl rfl 7 (by decide) (hts _ wd_X0_takeSign_f31) (fun _ h9 => h9) rfl dX0_takeSign_34 ?_
      refine iv_iconst hx hb dX0_takeSign_37 ?_
      refine iv_iadd hx hb dX0_takeSign_38 ?_
      obtain ⟨s8, e9, h⟩ := nm_t h
      refine iv_put (D := E.1) (ci := 0) (v := .int (zi (z.1.2.2.2.2.2.2 + 1))) (ty := .int) (ws1 := wBT a E s8) (C := RX0) (T := TX0) (N := 8) hx hb hts in_X0_takeSign_X0 tyX0 tyX0_ok nmX0 hown hK.1 hP hD hS 0 rfl rfl 7 (by decide) (hts _ wd_X0_takeSign_f31) (fun _ h9 => h9) rfl (by decide +kernel) rfl rfl (Nat.le_of_ble_eq_true rfl) (by rw [e9]; rfl) dX0_takeSign_39 (fun H locs hP hD hS => ?_)
      refine iv_iconst hx hb dX0_takeSign_42 ?_
      cases h
      exact iv_zret (r := 1) hx hb hr hlocks (by decide +kernel) hK hP hD hS dX0_takeSign_43
    · have h := it_f c7 h
      refine iv_iconst hx hb dX0_takeSign_30 ?_
      cases h
      exact iv_zret (r := 0) hx hb hr hlocks (by decide +kernel) hK hP hD hS dX0_takeSign_31
set_option maxHeartbeats 4000000 in
set_option maxRecDepth 100000 in
theorem k_X0_takePart (l : Launch) (E : wE) (a : Nat → Nat) (sz : Nat) (x1 : Int) (z : bBT) (u : (Int × bBT)) (hf : f_X0_takePart x1 z = some u) : cI l yX0_takePart wsX0_takePart { frames := 1, cells := 0, slots := 0, locals := 23 } E sz [.ref (a 0), .int (zi x1)] (wBT a E z) (wBT a E u.2) u.1 := by
  refine met_go (cc := cX0_takePart) (maxL := 2) (ret := (some .int)) (Q0 := mQi E (wBT a E u.2) u.1) (by decide +kernel) rfl (Nat.le_of_ble_eq_true rfl) ?_
  intro A p e s m below meth c hx hb hr hml hts hown hlocks hP hK hD hA hS ls hl
  have hl : lv_has ls 2 [(0, .ref (a 0)), (1, .int (zi x1))] := hl
  generalize hH : s.heap = H at hP
  have hS : va_S A s.heap H [] := by rw [← hH]; exact hS
  have hown : s.vm.findClass RX0 = some m.cls := hown
  have h := hf
  rw [f_X0_takePart] at h
  refine lv_aload_n hx hb dX0_takePart_0 rfl (lv_at hl 0 rfl) ?_
  refine lv_iload_n hx hb dX0_takePart_1 rfl (lv_at hl 1 rfl) ?_
  obtain ⟨u1, q2, h⟩ := bd_t h
  refine iv_callIf (As := [.int (zi x1)]) (rest := []) ⟨hx, hb, hml, hown, hts⟩ (k_X0_takeSign l E a H.size x1 z u1 q2) (cwV 1 hts gX0_takePart_X0_takeSign rfl rfl rfl (by decide +kernel) ⟨Nat.le_of_ble_eq_true rfl, Nat.le_of_ble_eq_true rfl⟩) hK hP hD hS hA 0 0 rfl rfl rfl hl.1 (Nat.le_of_ble_eq_true rfl) ⟨Nat.zero_le _, Nat.zero_le _⟩ dX0_takePart_2 (fun H locs hP hD hS => ?_)
  obtain ⟨g3, h⟩ := gd_t h
  refine iv_eq (tgt := 18) hx hb g3 dX0_takePart_5 (by decide) (fun c4 => ?_) (fun c4 => ?_)
  · have h := it_t c4 h
    refine iv_iconst hx hb dX0_takePart_18 ?_
    cases h
    exact iv_iret hx hb hr hlocks hK hP hD hS dX0_takePart_19
  · have h := it_f c4 h
    refine lv_aload_n hx hb dX0_takePart_8 rfl (lv_at hl 0 rfl) ?_
    refine iv_iconst hx hb dX0_takePart_9 ?_
    refine iv_bipush hx hb dX0_takePart_10 (by decide +kernel) ?_
    obtain ⟨u5, q6, h⟩ := bd_t h
    refine iv_callIf (As := [.int (zi 0), .int (zi 9)]) (rest := []) ⟨hx, hb, hml, hown, hts⟩ (k_X0_takeDigit l E a H.size 0 9 u1.2 u5 q6) (cwV 2 hts gX0_takePart_X0_takeDigit rfl rfl rfl (by decide +kernel) ⟨Nat.le_of_ble_eq_true rfl, Nat.le_of_ble_eq_true rfl⟩) hK hP hD hS hA 0 0 rfl rfl rfl hl.1 (Nat.le_of_ble_eq_true rfl) ⟨Nat.zero_le _, Nat.zero_le _⟩ dX0_takePart_12 (fun H locs hP hD hS => ?_)
    refine lv_goto (tgt := 19) hx hb dX0_takePart_15 (by decide) ?_
    cases h
    exact iv_iret hx hb hr hlocks hK hP hD hS dX0_takePart_19
set_option maxHeartbeats 4000000 in
set_option maxRecDepth 100000 in
theorem k_X0_takeSize (l : Launch) (E : wE) (a : Nat → Nat) (sz : Nat) (z : bBT) (u : (Int × bBT)) (hf : f_X0_takeSize z = some u) : cI l yX0_takeSize wsX0_takeSize { frames := 1, cells := 0, slots := 0, locals := 23 } E sz [.ref (a 0)] (wBT a E z) (wBT a E u.2) u.1 := by
  refine met_go (cc := cX0_takeSize) (maxL := 3) (ret := (some .int)) (Q0 := mQi E (wBT a E u.2) u.1) (by decide +kernel) rfl (Nat.le_of_ble_eq_true rfl) ?_
  intro A p e s m below meth c hx hb hr hml hts hown hlocks hP hK hD hA hS ls hl
  have hl : lv_has ls 3 [(0, .ref (a 0))] := hl
  generalize hH : s.heap = H at hP
  have hS : va_S A s.heap H [] := by rw [← hH]; exact hS
  have hown : s.vm.findClass RX0 = some m.cls := hown
  have h := hf
  rw [f_X0_takeSize] at h
  refine lv_aload_n hx hb dX0_takeSize_0 rfl (lv_at hl 0 rfl) ?_
  refine iv_iconst hx hb dX0_takeSize_1 ?_
  refine iv_bipush hx hb dX0_takeSize_2 (by decide +kernel) ?_
  obtain ⟨u1, q2, h⟩ := bd_t h
  refine iv_callIf (As := [.int (zi 1), .int (zi 9)]) (rest := []) ⟨hx, hb, hml, hown, hts⟩ (k_X0_takeDigit l E a H.size 1 9 z u1 q2) (cwV 2 hts gX0_takeSize_X0_takeDigit rfl rfl rfl (by decide +kernel) ⟨Nat.le_of_ble_eq_true rfl, Nat.le_of_ble_eq_true rfl⟩) hK hP hD hS hA 0 0 rfl rfl rfl hl.1 (Nat.le_of_ble_eq_true rfl) ⟨Nat.zero_le _, Nat.zero_le _⟩ dX0_takeSize_4 (fun H locs hP hD hS => ?_)
  refine lv_istore_n (lv' := [(1, .int (zi u1.1)), (0, .ref (a 0))]) hx hb dX0_takeSize_7 rfl hl (by decide) rfl (fun ls hl => ?_)
  refine lv_iload_n hx hb dX0_takeSize_8 rfl (lv_at hl 0 rfl) ?_
  obtain ⟨g3, h⟩ := gd_t h
  refine iv_lt (tgt := 17) hx hb g3 dX0_takeSize_9 (by decide) (fun c4 => ?_) (fun c4 => ?_)
  · have h := it_t c4 h
    refine lv_iload_n hx hb dX0_takeSize_17 rfl (lv_at hl 0 rfl) ?_
    cases h
    exact iv_iret hx hb hr hlocks hK hP hD hS dX0_takeSize_18
  · have h := it_f c4 h
    refine lv_iload_n hx hb dX0_takeSize_12 rfl (lv_at hl 0 rfl) ?_
    refine iv_iconst hx hb dX0_takeSize_13 ?_
    refine iv_ile (tgt := 19) hx hb g3 (by decide +kernel) dX0_takeSize_14 (by decide) (fun c5 => ?_) (fun c5 => ?_)
    · have h := it_t c5 h
      refine lv_aload_n hx hb dX0_takeSize_19 rfl (lv_at hl 1 rfl) ?_
      refine iv_iconst hx hb dX0_takeSize_20 ?_
      refine lv_iload_n hx hb dX0_takeSize_21 rfl (lv_at hl 0 rfl) ?_
      refine iv_iconst hx hb dX0_takeSize_22 ?_
      refine iv_ine (tgt := 30) hx hb g3 (by decide +kernel) dX0_takeSize_23 (by decide) (fun c6 => ?_) (fun c6 => ?_)
      · have h := it_f c6 h
        refine iv_bipush hx hb dX0_takeSize_30 (by decide +kernel) ?_
        obtain ⟨u7, q8, h⟩ := bd_t h
        refine iv_callIf (As := [.int (zi 0), .int (zi 9)]) (rest := []) ⟨hx, hb, hml, hown, hts⟩ (k_X0_takeDigit l E a H.size 0 9 u1.2 u7 q8) (cwV 2 hts gX0_takeSize_X0_takeDigit rfl rfl rfl (by decide +kernel) ⟨Nat.le_of_ble_eq_true rfl, Nat.le_of_ble_eq_true rfl⟩) hK hP hD hS hA 0 0 rfl rfl rfl hl.1 (Nat.le_of_ble_eq_true rfl) ⟨Nat.zero_le _, Nat.zero_le _⟩ dX0_takeSize_32 (fun H locs hP hD hS => ?_)
        refine lv_istore_n (lv' := [(2, .int (zi u7.1)), (1, .int (zi u1.1)), (0, .ref (a 0))]) hx hb dX0_takeSize_35 rfl hl (by decide) rfl (fun ls hl => ?_)
        refine lv_iload_n hx hb dX0_takeSize_36 rfl (lv_at hl 0 rfl) ?_
        obtain ⟨g9, h⟩ := gd_t h
        refine iv_ge (tgt := 44) hx hb g9 dX0_takeSize_37 (by decide) (fun c10 => ?_) (fun c10 => ?_)
        · have h := it_t c10 h
          refine iv_bipush hx hb dX0_takeSize_44 (by decide +kernel) ?_
          refine lv_iload_n hx hb dX0_takeSize_46 rfl (lv_at hl 1 rfl) ?_
          refine iv_imul hx hb dX0_takeSize_47 ?_
          refine lv_iload_n hx hb dX0_takeSize_48 rfl (lv_at hl 0 rfl) ?_
          refine iv_iadd hx hb dX0_takeSize_49 ?_
          cases h
          exact iv_iret hx hb hr hlocks hK hP hD hS dX0_takeSize_50
        · have h := it_f c10 h
          refine lv_iload_n hx hb dX0_takeSize_40 rfl (lv_at hl 1 rfl) ?_
          refine lv_goto (tgt := 50) hx hb dX0_takeSize_41 (by decide) ?_
          cases h
          exact iv_iret hx hb hr hlocks hK hP hD hS dX0_takeSize_50
      · have h := it_t c6 h
        refine iv_iconst hx hb dX0_takeSize_26 ?_
        refine lv_goto (tgt := 32) hx hb dX0_takeSize_27 (by decide) ?_
        obtain ⟨u11, q12, h⟩ := bd_t h
        refine iv_callIf (As := [.int (zi 0), .int (zi 0)]) (rest := []) ⟨hx, hb, hml, hown, hts⟩ (k_X0_takeDigit l E a H.size 0 0 u1.2 u11 q12) (cwV 2 hts gX0_takeSize_X0_takeDigit rfl rfl rfl (by decide +kernel) ⟨Nat.le_of_ble_eq_true rfl, Nat.le_of_ble_eq_true rfl⟩) hK hP hD hS hA 0 0 rfl rfl rfl hl.1 (Nat.le_of_ble_eq_true rfl) ⟨Nat.zero_le _, Nat.zero_le _⟩ dX0_takeSize_32 (fun H locs hP hD hS => ?_)
        refine lv_istore_n (lv' := [(2, .int (zi u11.1)), (1, .int (zi u1.1)), (0, .ref (a 0))]) hx hb dX0_takeSize_35 rfl hl (by decide) rfl (fun ls hl => ?_)
        refine lv_iload_n hx hb dX0_takeSize_36 rfl (lv_at hl 0 rfl) ?_
        obtain ⟨g13, h⟩ := gd_t h
        refine iv_ge (tgt := 44) hx hb g13 dX0_takeSize_37 (by decide) (fun c14 => ?_) (fun c14 => ?_)
        · have h := it_t c14 h
          refine iv_bipush hx hb dX0_takeSize_44 (by decide +kernel) ?_
          refine lv_iload_n hx hb dX0_takeSize_46 rfl (lv_at hl 1 rfl) ?_
          refine iv_imul hx hb dX0_takeSize_47 ?_
          refine lv_iload_n hx hb dX0_takeSize_48 rfl (lv_at hl 0 rfl) ?_
          refine iv_iadd hx hb dX0_takeSize_49 ?_
          cases h
          exact iv_iret hx hb hr hlocks hK hP hD hS dX0_takeSize_50
        · have h := it_f c14 h
          refine lv_iload_n hx hb dX0_takeSize_40 rfl (lv_at hl 1 rfl) ?_
          refine lv_goto (tgt := 50) hx hb dX0_takeSize_41 (by decide) ?_
          cases h
          exact iv_iret hx hb hr hlocks hK hP hD hS dX0_takeSize_50
    · have h := it_f c5 h
      refine lv_iload_n hx hb dX0_takeSize_17 rfl (lv_at hl 0 rfl) ?_
      cases h
      exact iv_iret hx hb hr hlocks hK hP hD hS dX0_takeSize_18
set_option maxRecDepth 20000 in
theorem wd_X0_takeButton_f9 : Cond.fieldLink RX0 9 "ShirtButtons$Batch" "holes" "[I" ∈ wsX0_takeButton := by decide +kernel
set_option maxRecDepth 20000 in
theorem in_X0_takeButton_X0 : ∀ w ∈ u_ws RX0 TX0 8, w ∈ wsX0_takeButton := by decide +kernel
set_option maxRecDepth 20000 in
theorem wd_X0_takeButton_f15 : Cond.fieldLink RX0 15 "ShirtButtons$Batch" "size" "[I" ∈ wsX0_takeButton := by decide +kernel
set_option maxRecDepth 20000 in
theorem wd_X0_takeButton_f18 : Cond.fieldLink RX0 18 "ShirtButtons$Batch" "iron" "[I" ∈ wsX0_takeButton := by decide +kernel
set_option maxRecDepth 20000 in
theorem wd_X0_takeButton_f21 : Cond.fieldLink RX0 21 "ShirtButtons$Batch" "chips" "[I" ∈ wsX0_takeButton := by decide +kernel
set_option maxRecDepth 20000 in
theorem wd_X0_takeButton_f24 : Cond.fieldLink RX0 24 "ShirtButtons$Batch" "shine" "[I" ∈ wsX0_takeButton := by decide +kernel
set_option maxHeartbeats 4000000 in
set_option maxRecDepth 100000 in
theorem k_X0_takeButton (l : Launch) (E : wE) (a : Nat → Nat) (sz : Nat) (x1 : Int) (z : bBT) (u : (Int × bBT)) (hf : f_X0_takeButton x1 z = some u) : cI l yX0_takeButton wsX0_takeButton { frames := 2, cells := 0, slots := 0, locals := 45 } E sz [.ref (a 0), .int (zi x1)] (wBT a E z) (wBT a E u.2) u.1 := by
  refine met_go (cc := cX0_takeButton) (maxL := 2) (ret := (some .boolean)) (Q0 := mQi E (wBT a E u.2) u.1) (by decide +kernel) rfl (Nat.le_of_ble_eq_true rfl) ?_
  intro A p e s m below meth c hx hb hr hml hts hown hlocks hP hK hD hA hS ls hl
  have hl : lv_has ls 2 [(0, .ref (a 0)), (1, .int (zi x1))] := hl
  generalize hH : s.heap = H at hP
  have hS : va_S A s.heap H [] := by rw [← hH]; exact hS
  have hown : s.vm.findClass RX0 = some m.cls := hown
  have h := hf
  rw [f_X0_takeButton] at h
  refine lv_aload_n hx hb dX0_takeButton_0 rfl (lv_at hl 0 rfl) ?_
  refine va_get (D := E.1) (ci := 0) (v := .ref (a 1)) (C := RX0) (T := TX0) (N := 8) hx hb hts in_X0_takeButton_X0 hown hK.1 hP 0 rfl rfl 0 (by decide) (hts _ wd_X0_takeButton_f9) (fun _ h9 => h9) rfl dX0_takeButton_1 ?_
  refine lv_iload_n hx hb dX0_takeButton_4 rfl (lv_at hl 1 rfl) ?_
  refine lv_aload_n hx hb dX0_takeButton_5 rfl (lv_at hl 0 rfl) ?_
  refine iv_iconst hx hb dX0_takeButton_6 ?_
  refine iv_iconst hx hb dX0_takeButton_7 ?_
  obtain ⟨u1, q2, h⟩ := bd_t h
  refine iv_callIf (As := [.int (zi 1), .int (zi 4)]) (rest := [.int (zi x1), .ref (a 1)]) ⟨hx, hb, hml, hown, hts⟩ (k_X0_takeDigit l E a H.size 1 4 z u1 q2) (cwV 2 hts gX0_takeButton_X0_takeDigit rfl rfl rfl (by decide +kernel) ⟨Nat.le_of_ble_eq_true rfl, Nat.le_of_ble_eq_true rfl⟩) hK hP hD hS hA 0 0 rfl rfl rfl hl.1 (Nat.le_of_ble_eq_true rfl) ⟨Nat.zero_le _, Nat.zero_le _⟩ dX0_takeButton_8 (fun H locs hP hD hS => ?_)
  obtain ⟨g3, h⟩ := gd_t h
  obtain ⟨s4, e5, h⟩ := nm_t h
  refine iv_iast (f := u1.2.1.1) (j := x1.toNat) (ws1 := wBT a E s4) hx hb hK.1 hP hD hS 1 0 rfl rfl (by decide) g3 rfl (by rw [e5]; rfl) dX0_takeButton_11 (fun H locs hP hD hS => ?_)
  refine lv_aload_n hx hb dX0_takeButton_12 rfl (lv_at hl 0 rfl) ?_
  refine va_get (D := E.1) (ci := 0) (v := .ref (a 1)) (C := RX0) (T := TX0) (N := 8) hx hb hts in_X0_takeButton_X0 hown hK.1 hP 0 rfl rfl 0 (by decide) (hts _ wd_X0_takeButton_f9) (fun _ h9 => h9) rfl dX0_takeButton_13 ?_
  refine lv_iload_n hx hb dX0_takeButton_16 rfl (lv_at hl 1 rfl) ?_
  refine iv_iald (f := s4.1.1) (j := x1.toNat) hx hb hK.1 hP 1 0 rfl rfl (by decide) g3 rfl dX0_takeButton_17 ?_
  obtain ⟨g6, h⟩ := gd_t h
  refine iv_lt (tgt := 30) hx hb g6 dX0_takeButton_18 (by decide) (fun c7 => ?_) (fun c7 => ?_)
  · have h := it_t c7 h
    refine iv_iconst hx hb dX0_takeButton_30 ?_
    cases h
    exact iv_zret (r := 0) hx hb hr hlocks (by decide +kernel) hK hP hD hS dX0_takeButton_31
  · have h := it_f c7 h
    refine lv_aload_n hx hb dX0_takeButton_21 rfl (lv_at hl 0 rfl) ?_
    refine iv_bipush hx hb dX0_takeButton_22 (by decide +kernel) ?_
    obtain ⟨u8, q9, h⟩ := bd_t h
    refine iv_callIf (As := [.int (zi 104)]) (rest := []) ⟨hx, hb, hml, hown, hts⟩ (k_X0_takeSign l E a H.size 104 s4 u8 q9) (cwV 1 hts gX0_takeButton_X0_takeSign rfl rfl rfl (by decide +kernel) ⟨Nat.le_of_ble_eq_true rfl, Nat.le_of_ble_eq_true rfl⟩) hK hP hD hS hA 0 0 rfl rfl rfl hl.1 (Nat.le_of_ble_eq_true rfl) ⟨Nat.zero_le _, Nat.zero_le _⟩ dX0_takeButton_24 (fun H locs hP hD hS => ?_)
    obtain ⟨g10, h⟩ := gd_t h
    refine iv_ne (tgt := 32) hx hb g10 dX0_takeButton_27 (by decide) (fun c11 => ?_) (fun c11 => ?_)
    · have h := it_f c11 h
      refine lv_aload_n hx hb dX0_takeButton_32 rfl (lv_at hl 0 rfl) ?_
      refine va_get (D := E.1) (ci := 0) (v := .ref (a 2)) (C := RX0) (T := TX0) (N := 8) hx hb hts in_X0_takeButton_X0 hown hK.1 hP 0 rfl rfl 1 (by decide) (hts _ wd_X0_takeButton_f15) (fun _ h9 => h9) rfl dX0_takeButton_33 ?_
      refine lv_iload_n hx hb dX0_takeButton_36 rfl (lv_at hl 1 rfl) ?_
      refine lv_aload_n hx hb dX0_takeButton_37 rfl (lv_at hl 0 rfl) ?_
      obtain ⟨u12, q13, h⟩ := bd_t h
      refine iv_callIf (As := []) (rest := [.int (zi x1), .ref (a 2)]) ⟨hx, hb, hml, hown, hts⟩ (k_X0_takeSize l E a H.size  u8.2 u12 q13) (cwV 0 hts gX0_takeButton_X0_takeSize rfl rfl rfl (by decide +kernel) ⟨Nat.le_of_ble_eq_true rfl, Nat.le_of_ble_eq_true rfl⟩) hK hP hD hS hA 0 0 rfl rfl rfl hl.1 (Nat.le_of_ble_eq_true rfl) ⟨Nat.zero_le _, Nat.zero_le _⟩ dX0_takeButton_38 (fun H locs hP hD hS => ?_)
      obtain ⟨s14, e15, h⟩ := nm_t h
      refine iv_iast (f := u12.2.1.2.1) (j := x1.toNat) (ws1 := wBT a E s14) hx hb hK.1 hP hD hS 2 0 rfl rfl (by decide) g3 rfl (by rw [e15]; rfl) dX0_takeButton_41 (fun H locs hP hD hS => ?_)
      refine lv_aload_n hx hb dX0_takeButton_42 rfl (lv_at hl 0 rfl) ?_
      refine va_get (D := E.1) (ci := 0) (v := .ref (a 2)) (C := RX0) (T := TX0) (N := 8) hx hb hts in_X0_takeButton_X0 hown hK.1 hP 0 rfl rfl 1 (by decide) (hts _ wd_X0_takeButton_f15) (fun _ h9 => h9) rfl dX0_takeButton_43 ?_
      refine lv_iload_n hx hb dX0_takeButton_46 rfl (lv_at hl 1 rfl) ?_
      refine iv_iald (f := s14.1.2.1) (j := x1.toNat) hx hb hK.1 hP 2 0 rfl rfl (by decide) g3 rfl dX0_takeButton_47 ?_
      obtain ⟨g16, h⟩ := gd_t h
      refine iv_ge (tgt := 53) hx hb g16 dX0_takeButton_48 (by decide) (fun c17 => ?_) (fun c17 => ?_)
      · have h := it_t c17 h
        refine lv_aload_n hx hb dX0_takeButton_53 rfl (lv_at hl 0 rfl) ?_
        refine va_get (D := E.1) (ci := 0) (v := .ref (a 3)) (C := RX0) (T := TX0) (N := 8) hx hb hts in_X0_takeButton_X0 hown hK.1 hP 0 rfl rfl 2 (by decide) (hts _ wd_X0_takeButton_f18) (fun _ h9 => h9) rfl dX0_takeButton_54 ?_
        refine lv_iload_n hx hb dX0_takeButton_57 rfl (lv_at hl 1 rfl) ?_
        refine lv_aload_n hx hb dX0_takeButton_58 rfl (lv_at hl 0 rfl) ?_
        refine iv_bipush hx hb dX0_takeButton_59 (by decide +kernel) ?_
        obtain ⟨u18, q19, h⟩ := bd_t h
        refine iv_callIf (As := [.int (zi 105)]) (rest := [.int (zi x1), .ref (a 3)]) ⟨hx, hb, hml, hown, hts⟩ (k_X0_takePart l E a H.size 105 s14 u18 q19) (cwV 1 hts gX0_takeButton_X0_takePart rfl rfl rfl (by decide +kernel) ⟨Nat.le_of_ble_eq_true rfl, Nat.le_of_ble_eq_true rfl⟩) hK hP hD hS hA 0 0 rfl rfl rfl hl.1 (Nat.le_of_ble_eq_true rfl) ⟨Nat.zero_le _, Nat.zero_le _⟩ dX0_takeButton_61 (fun H locs hP hD hS => ?_)
        obtain ⟨s20, e21, h⟩ := nm_t h
        refine iv_iast (f := u18.2.1.2.2.1) (j := x1.toNat) (ws1 := wBT a E s20) hx hb hK.1 hP hD hS 3 0 rfl rfl (by decide) g3 rfl (by rw [e21]; rfl) dX0_takeButton_64 (fun H locs hP hD hS => ?_)
        refine lv_aload_n hx hb dX0_takeButton_65 rfl (lv_at hl 0 rfl) ?_
        refine va_get (D := E.1) (ci := 0) (v := .ref (a 3)) (C := RX0) (T := TX0) (N := 8) hx hb hts in_X0_takeButton_X0 hown hK.1 hP 0 rfl rfl 2 (by decide) (hts _ wd_X0_takeButton_f18) (fun _ h9 => h9) rfl dX0_takeButton_66 ?_
        refine lv_iload_n hx hb dX0_takeButton_69 rfl (lv_at hl 1 rfl) ?_
        refine iv_iald (f := s20.1.2.2.1) (j := x1.toNat) hx hb hK.1 hP 3 0 rfl rfl (by decide) g3 rfl dX0_takeButton_70 ?_
        obtain ⟨g22, h⟩ := gd_t h
        refine iv_ge (tgt := 76) hx hb g22 dX0_takeButton_71 (by decide) (fun c23 => ?_) (fun c23 => ?_)
        · have h := it_t c23 h
          refine lv_aload_n hx hb dX0_takeButton_76 rfl (lv_at hl 0 rfl) ?_
          refine va_get (D := E.1) (ci := 0) (v := .ref (a 4)) (C := RX0) (T := TX0) (N := 8) hx hb hts in_X0_takeButton_X0 hown hK.1 hP 0 rfl rfl 3 (by decide) (hts _ wd_X0_takeButton_f21) (fun _ h9 => h9) rfl dX0_takeButton_77 ?_
          refine lv_iload_n hx hb dX0_takeButton_80 rfl (lv_at hl 1 rfl) ?_
          refine lv_aload_n hx hb dX0_takeButton_81 rfl (lv_at hl 0 rfl) ?_
          refine iv_bipush hx hb dX0_takeButton_82 (by decide +kernel) ?_
          obtain ⟨u24, q25, h⟩ := bd_t h
          refine iv_callIf (As := [.int (zi 99)]) (rest := [.int (zi x1), .ref (a 4)]) ⟨hx, hb, hml, hown, hts⟩ (k_X0_takePart l E a H.size 99 s20 u24 q25) (cwV 1 hts gX0_takeButton_X0_takePart rfl rfl rfl (by decide +kernel) ⟨Nat.le_of_ble_eq_true rfl, Nat.le_of_ble_eq_true rfl⟩) hK hP hD hS hA 0 0 rfl rfl rfl hl.1 (Nat.le_of_ble_eq_true rfl) ⟨Nat.zero_le _, Nat.zero_le _⟩ dX0_takeButton_84 (fun H locs hP hD hS => ?_)
          obtain ⟨s26, e27, h⟩ := nm_t h
          refine iv_iast (f := u24.2.1.2.2.2.1) (j := x1.toNat) (ws1 := wBT a E s26) hx hb hK.1 hP hD hS 4 0 rfl rfl (by decide) g3 rfl (by rw [e27]; rfl) dX0_takeButton_87 (fun H locs hP hD hS => ?_)
          refine lv_aload_n hx hb dX0_takeButton_88 rfl (lv_at hl 0 rfl) ?_
          refine va_get (D := E.1) (ci := 0) (v := .ref (a 4)) (C := RX0) (T := TX0) (N := 8) hx hb hts in_X0_takeButton_X0 hown hK.1 hP 0 rfl rfl 3 (by decide) (hts _ wd_X0_takeButton_f21) (fun _ h9 => h9) rfl dX0_takeButton_89 ?_
          refine lv_iload_n hx hb dX0_takeButton_92 rfl (lv_at hl 1 rfl) ?_
          refine iv_iald (f := s26.1.2.2.2.1) (j := x1.toNat) hx hb hK.1 hP 4 0 rfl rfl (by decide) g3 rfl dX0_takeButton_93 ?_
          obtain ⟨g28, h⟩ := gd_t h
          refine iv_ge (tgt := 99) hx hb g28 dX0_takeButton_94 (by decide) (fun c29 => ?_) (fun c29 => ?_)
          · have h := it_t c29 h
            refine lv_aload_n hx hb dX0_takeButton_99 rfl (lv_at hl 0 rfl) ?_
            refine va_get (D := E.1) (ci := 0) (v := .ref (a 5)) (C := RX0) (T := TX0) (N := 8) hx hb hts in_X0_takeButton_X0 hown hK.1 hP 0 rfl rfl 4 (by decide) (hts _ wd_X0_takeButton_f24) (fun _ h9 => h9) rfl dX0_takeButton_100 ?_
            refine lv_iload_n hx hb dX0_takeButton_103 rfl (lv_at hl 1 rfl) ?_
            refine lv_aload_n hx hb dX0_takeButton_104 rfl (lv_at hl 0 rfl) ?_
            refine iv_bipush hx hb dX0_takeButton_105 (by decide +kernel) ?_
            obtain ⟨u30, q31, h⟩ := bd_t h
            refine iv_callIf (As := [.int (zi 115)]) (rest := [.int (zi x1), .ref (a 5)]) ⟨hx, hb, hml, hown, hts⟩ (k_X0_takePart l E a H.size 115 s26 u30 q31) (cwV 1 hts gX0_takeButton_X0_takePart rfl rfl rfl (by decide +kernel) ⟨Nat.le_of_ble_eq_true rfl, Nat.le_of_ble_eq_true rfl⟩) hK hP hD hS hA 0 0 rfl rfl rfl hl.1 (Nat.le_of_ble_eq_true rfl) ⟨Nat.zero_le _, Nat.zero_le _⟩ dX0_takeButton_107 (fun H locs hP hD hS => ?_)
            obtain ⟨s32, e33, h⟩ := nm_t h
            refine iv_iast (f := u30.2.1.2.2.2.2.1) (j := x1.toNat) (ws1 := wBT a E s32) hx hb hK.1 hP hD hS 5 0 rfl rfl (by decide) g3 rfl (by rw [e33]; rfl) dX0_takeButton_110 (fun H locs hP hD hS => ?_)
            refine lv_aload_n hx hb dX0_takeButton_111 rfl (lv_at hl 0 rfl) ?_
            refine va_get (D := E.1) (ci := 0) (v := .ref (a 5)) (C := RX0) (T := TX0) (N := 8) hx hb hts in_X0_takeButton_X0 hown hK.1 hP 0 rfl rfl 4 (by decide) (hts _ wd_X0_takeButton_f24) (fun _ h9 => h9) rfl dX0_takeButton_112 ?_
            refine lv_iload_n hx hb dX0_takeButton_115 rfl (lv_at hl 1 rfl) ?_
            refine iv_iald (f := s32.1.2.2.2.2.1) (j := x1.toNat) hx hb hK.1 hP 5 0 rfl rfl (by decide) g3 rfl dX0_takeButton_116 ?_
            obtain ⟨g34, h⟩ := gd_t h
            refine iv_lt (tgt := 124) hx hb g34 dX0_takeButton_117 (by decide) (fun c35 => ?_) (fun c35 => ?_)
            · have h := it_t c35 h
              refine iv_iconst hx hb dX0_takeButton_124 ?_
              cases h
              exact iv_zret (r := 0) hx hb hr hlocks (by decide +kernel) hK hP hD hS dX0_takeButton_125
            · have h := it_f c35 h
              refine iv_iconst hx hb dX0_takeButton_120 ?_
              refine lv_goto (tgt := 125) hx hb dX0_takeButton_121 (by decide) ?_
              cases h
              exact iv_zret (r := 1) hx hb hr hlocks (by decide +kernel) hK hP hD hS dX0_takeButton_125
          · have h := it_f c29 h
            refine iv_iconst hx hb dX0_takeButton_97 ?_
            cases h
            exact iv_zret (r := 0) hx hb hr hlocks (by decide +kernel) hK hP hD hS dX0_takeButton_98
        · have h := it_f c23 h
          refine iv_iconst hx hb dX0_takeButton_74 ?_
          cases h
          exact iv_zret (r := 0) hx hb hr hlocks (by decide +kernel) hK hP hD hS dX0_takeButton_75
      · have h := it_f c17 h
        refine iv_iconst hx hb dX0_takeButton_51 ?_
        cases h
        exact iv_zret (r := 0) hx hb hr hlocks (by decide +kernel) hK hP hD hS dX0_takeButton_52
    · have h := it_t c11 h
      refine iv_iconst hx hb dX0_takeButton_30 ?_
      cases h
      exact iv_zret (r := 0) hx hb hr hlocks (by decide +kernel) hK hP hD hS dX0_takeButton_31
set_option maxRecDepth 20000 in
theorem wd_X0_parse_f31 : Cond.fieldLink RX0 31 "ShirtButtons$Batch" "at" "I" ∈ wsX0_parse := by decide +kernel
set_option maxRecDepth 20000 in
theorem in_X0_parse_X0 : ∀ w ∈ u_ws RX0 TX0 8, w ∈ wsX0_parse := by decide +kernel
set_option maxRecDepth 20000 in
theorem wd_X0_parse_f27 : Cond.fieldLink RX0 27 "ShirtButtons$Batch" "count" "I" ∈ wsX0_parse := by decide +kernel
set_option maxRecDepth 20000 in
theorem wd_X0_parse_f34 : Cond.fieldLink RX0 34 "ShirtButtons$Batch" "source" "LShirtButtons$Text;" ∈ wsX0_parse := by decide +kernel
set_option maxRecDepth 20000 in
theorem wd_X0_parse_f42 : Cond.fieldLink RX0 42 "ShirtButtons$Text" "length" "I" ∈ wsX0_parse := by decide +kernel
set_option maxRecDepth 20000 in
theorem in_X0_parse_X6 : ∀ w ∈ u_ws RX6 TX6 2, w ∈ wsX0_parse := by decide +kernel
set_option maxHeartbeats 4000000 in
set_option maxRecDepth 100000 in
theorem k_X0_parse (l : Launch) (E : wE) (a : Nat → Nat) (sz : Nat) (N : Nat) (z : bBT) (u : (Int × bBT)) (hf : f_X0_parse N z = some u) : cI l yX0_parse wsX0_parse { frames := 3, cells := 0, slots := 0, locals := 66 } E sz [.ref (a 0)] (wBT a E z) (wBT a E u.2) u.1 := by
  refine met_go (cc := cX0_parse) (maxL := 2) (ret := (some .int)) (Q0 := mQi E (wBT a E u.2) u.1) (by decide +kernel) rfl (Nat.le_of_ble_eq_true rfl) ?_
  intro A p e s m below meth c hx hb hr hml hts hown hlocks hP hK hD hA hS ls hl
  have hl : lv_has ls 2 [(0, .ref (a 0))] := hl
  generalize hH : s.heap = H at hP
  have hS : va_S A s.heap H [] := by rw [← hH]; exact hS
  have hown : s.vm.findClass RX0 = some m.cls := hown
  have loop12 : ∀ (n : Nat) (v5 : Int) (s6 : bBT) (H : Heap) (locs : List Loc) (ls : Array Slot), f_X0_parse_L12 N n v5 s6 = some u → va_P E.1 vwCl (wBT a E s6) H → va_D A (wBT a E s6) → va_S A s.heap H locs → lv_has ls 2 [(0, .ref (a 0)), (1, .int (zi v5))] → W p l e ({ frames := 3, cells := 0, slots := 0, locals := 66 }) s m ([.ref (a 0)] : List Value).toArray below meth c H locs 0 0 (MQ below (mQi E (wBT a E u.2) u.1 A) ([.ref (a 0)] : List Value).toArray s 0 0 A) (F0 m 12 ls []) := by
    intro n
    induction n with
    | zero =>
      intro v5 s6 H locs ls h
      exact absurd (show (none : Option (Int × bBT)) = some u from h) (by simp)
    | succ n ih =>
      intro v5 s6 H locs ls h hP hD hS hl
      rw [f_X0_parse_L12] at h
      refine lv_iload_n hx hb dX0_parse_12 rfl (lv_at hl 1 rfl) ?_
      refine iv_bipush hx hb dX0_parse_13 (by decide +kernel) ?_
      obtain ⟨g7, h⟩ := gd_t h
      refine iv_ige (tgt := 77) hx hb g7 (by decide +kernel) dX0_parse_15 (by decide) (fun c8 => ?_) (fun c8 => ?_)
      · have h := it_t c8 h
        refine lv_aload_n hx hb dX0_parse_77 rfl (lv_at hl 0 rfl) ?_
        refine va_get (D := E.1) (ci := 0) (v := .int (zi s6.1.2.2.2.2.2.2)) (C := RX0) (T := TX0) (N := 8) hx hb hts in_X0_parse_X0 hown hK.1 hP 0 rfl rfl 7 (by decide) (hts _ wd_X0_parse_f31) (fun _ h9 => h9) rfl dX0_parse_78 ?_
        cases h
        exact iv_iret hx hb hr hlocks hK hP hD hS dX0_parse_81
      · have h := it_f c8 h
        refine lv_aload_n hx hb dX0_parse_18 rfl (lv_at hl 0 rfl) ?_
        refine lv_iload_n hx hb dX0_parse_19 rfl (lv_at hl 1 rfl) ?_
        obtain ⟨u9, q10, h⟩ := bd_t h
        refine iv_callIf (As := [.int (zi v5)]) (rest := []) ⟨hx, hb, hml, hown, hts⟩ (k_X0_takeButton l E a H.size v5 s6 u9 q10) (cwV 1 hts gX0_parse_X0_takeButton rfl rfl rfl (by decide +kernel) ⟨Nat.le_of_ble_eq_true rfl, Nat.le_of_ble_eq_true rfl⟩) hK hP hD hS hA 0 0 rfl rfl rfl hl.1 (Nat.le_of_ble_eq_true rfl) ⟨Nat.zero_le _, Nat.zero_le _⟩ dX0_parse_20 (fun H locs hP hD hS => ?_)
        obtain ⟨g11, h⟩ := gd_t h
        refine iv_ne (tgt := 31) hx hb g11 dX0_parse_23 (by decide) (fun c12 => ?_) (fun c12 => ?_)
        · have h := it_f c12 h
          refine lv_aload_n hx hb dX0_parse_31 rfl (lv_at hl 0 rfl) ?_
          refine lv_dup hx hb dX0_parse_32 rfl ?_
          refine va_get (D := E.1) (ci := 0) (v := .int (zi u9.2.1.2.2.2.2.2.1)) (C := RX0) (T := TX0) (N := 8) hx hb hts in_X0_parse_X0 hown hK.1 hP 0 rfl rfl 5 (by decide) (hts _ wd_X0_parse_f27) (fun _ h9 => h9) rfl dX0_parse_33 ?_
          refine iv_iconst hx hb dX0_parse_36 ?_
          refine iv_iadd hx hb dX0_parse_37 ?_
          obtain ⟨s13, e14, h⟩ := nm_t h
          refine iv_put (D := E.1) (ci := 0) (v := .int (zi (u9.2.1.2.2.2.2.2.1 + 1))) (ty := .int) (ws1 := wBT a E s13) (C := RX0) (T := TX0) (N := 8) hx hb hts in_X0_parse_X0 tyX0 tyX0_ok nmX0 hown hK.1 hP hD hS 0 rfl rfl 5 (by decide) (hts _ wd_X0_parse_f27) (fun _ h9 => h9) rfl (by decide +kernel) rfl rfl (Nat.le_of_ble_eq_true rfl) (by rw [e14]; rfl) dX0_parse_38 (fun H locs hP hD hS => ?_)
          refine lv_aload_n hx hb dX0_parse_41 rfl (lv_at hl 0 rfl) ?_
          refine va_get (D := E.1) (ci := 0) (v := .int (zi s13.1.2.2.2.2.2.2)) (C := RX0) (T := TX0) (N := 8) hx hb hts in_X0_parse_X0 hown hK.1 hP 0 rfl rfl 7 (by decide) (hts _ wd_X0_parse_f31) (fun _ h9 => h9) rfl dX0_parse_42 ?_
          refine lv_aload_n hx hb dX0_parse_45 rfl (lv_at hl 0 rfl) ?_
          refine va_get (D := E.1) (ci := 0) (v := .ref (a 6)) (C := RX0) (T := TX0) (N := 8) hx hb hts in_X0_parse_X0 hown hK.1 hP 0 rfl rfl 6 (by decide) (hts _ wd_X0_parse_f34) (fun _ h9 => h9) rfl dX0_parse_46 ?_
          refine va_get (D := E.1) (ci := 6) (v := .int (zi s13.2.2)) (C := RX6) (T := TX6) (N := 2) hx hb hts in_X0_parse_X6 hown hK.1 hP 6 rfl rfl 1 (by decide) (hts _ wd_X0_parse_f42) (fun _ h9 => h9) rfl dX0_parse_49 ?_
          obtain ⟨g15, h⟩ := gd_t h
          obtain ⟨g16, h⟩ := gd_t h
          refine iv_ilt (tgt := 57) hx hb g15 g16 dX0_parse_52 (by decide) (fun c17 => ?_) (fun c17 => ?_)
          · have h := it_t c17 h
            refine lv_aload_n hx hb dX0_parse_57 rfl (lv_at hl 0 rfl) ?_
            refine iv_bipush hx hb dX0_parse_58 (by decide +kernel) ?_
            obtain ⟨u18, q19, h⟩ := bd_t h
            refine iv_callIf (As := [.int (zi 44)]) (rest := []) ⟨hx, hb, hml, hown, hts⟩ (k_X0_takeSign l E a H.size 44 s13 u18 q19) (cwV 1 hts gX0_parse_X0_takeSign rfl rfl rfl (by decide +kernel) ⟨Nat.le_of_ble_eq_true rfl, Nat.le_of_ble_eq_true rfl⟩) hK hP hD hS hA 0 0 rfl rfl rfl hl.1 (Nat.le_of_ble_eq_true rfl) ⟨Nat.zero_le _, Nat.zero_le _⟩ dX0_parse_60 (fun H locs hP hD hS => ?_)
            obtain ⟨g20, h⟩ := gd_t h
            refine iv_ne (tgt := 71) hx hb g20 dX0_parse_63 (by decide) (fun c21 => ?_) (fun c21 => ?_)
            · have h := it_f c21 h
              refine lv_iinc (v := zi (v5 + 1)) (lv' := [(1, .int (zi (v5 + 1))), (0, .ref (a 0))]) hx hb dX0_parse_71 hl (k := 1) rfl (by rw [zi_add]; rfl) (by decide) rfl (fun ls hl => ?_)
              refine lv_goto (tgt := 12) hx hb dX0_parse_74 (by decide) ?_
              exact ih (v5 + 1) u18.2 _ _ _ h hP hD hS (lv_sub hl [1, 0] rfl)
            · have h := it_t c21 h
              refine lv_aload_n hx hb dX0_parse_66 rfl (lv_at hl 0 rfl) ?_
              refine va_get (D := E.1) (ci := 0) (v := .int (zi u18.2.1.2.2.2.2.2.2)) (C := RX0) (T := TX0) (N := 8) hx hb hts in_X0_parse_X0 hown hK.1 hP 0 rfl rfl 7 (by decide) (hts _ wd_X0_parse_f31) (fun _ h9 => h9) rfl dX0_parse_67 ?_
              cases h
              exact iv_iret hx hb hr hlocks hK hP hD hS dX0_parse_70
          · have h := it_f c17 h
            refine iv_iconst hx hb dX0_parse_55 ?_
            cases h
            exact iv_iret hx hb hr hlocks hK hP hD hS dX0_parse_56
        · have h := it_t c12 h
          refine lv_aload_n hx hb dX0_parse_26 rfl (lv_at hl 0 rfl) ?_
          refine va_get (D := E.1) (ci := 0) (v := .int (zi u9.2.1.2.2.2.2.2.2)) (C := RX0) (T := TX0) (N := 8) hx hb hts in_X0_parse_X0 hown hK.1 hP 0 rfl rfl 7 (by decide) (hts _ wd_X0_parse_f31) (fun _ h9 => h9) rfl dX0_parse_27 ?_
          cases h
          exact iv_iret hx hb hr hlocks hK hP hD hS dX0_parse_30
  have h := hf
  rw [f_X0_parse] at h
  refine lv_aload_n hx hb dX0_parse_0 rfl (lv_at hl 0 rfl) ?_
  refine iv_iconst hx hb dX0_parse_1 ?_
  obtain ⟨s1, e2, h⟩ := nm_t h
  refine iv_put (D := E.1) (ci := 0) (v := .int (zi 0)) (ty := .int) (ws1 := wBT a E s1) (C := RX0) (T := TX0) (N := 8) hx hb hts in_X0_parse_X0 tyX0 tyX0_ok nmX0 hown hK.1 hP hD hS 0 rfl rfl 7 (by decide) (hts _ wd_X0_parse_f31) (fun _ h9 => h9) rfl (by decide +kernel) rfl rfl (Nat.le_of_ble_eq_true rfl) (by rw [e2]; rfl) dX0_parse_2 (fun H locs hP hD hS => ?_)
  refine lv_aload_n hx hb dX0_parse_5 rfl (lv_at hl 0 rfl) ?_
  refine iv_iconst hx hb dX0_parse_6 ?_
  obtain ⟨s3, e4, h⟩ := nm_t h
  refine iv_put (D := E.1) (ci := 0) (v := .int (zi 0)) (ty := .int) (ws1 := wBT a E s3) (C := RX0) (T := TX0) (N := 8) hx hb hts in_X0_parse_X0 tyX0 tyX0_ok nmX0 hown hK.1 hP hD hS 0 rfl rfl 5 (by decide) (hts _ wd_X0_parse_f27) (fun _ h9 => h9) rfl (by decide +kernel) rfl rfl (Nat.le_of_ble_eq_true rfl) (by rw [e4]; rfl) dX0_parse_7 (fun H locs hP hD hS => ?_)
  refine iv_iconst hx hb dX0_parse_10 ?_
  refine lv_istore_n (lv' := [(1, .int (zi 0)), (0, .ref (a 0))]) hx hb dX0_parse_11 rfl hl (by decide) rfl (fun ls hl => ?_)
  exact loop12 N 0 s3 _ _ _ h hP hD hS (lv_sub hl [1, 0] rfl)
