set_option maxRecDepth 20000 in
theorem wd_X1_has_f30 : Cond.fieldLink RX1 30 "ShirtButtons$Buttons" "count" "I" ∈ wsX1_has := by decide +kernel
set_option maxRecDepth 20000 in
theorem in_X1_has_X1 : ∀ w ∈ u_ws RX1 TX1 7, w ∈ wsX1_has := by decide +kernel
set_option maxHeartbeats 4000000 in
set_option maxRecDepth 100000 in
theorem k_X1_has (l : Launch) (E : wE) (a : Nat → Nat) (sz : Nat) (x1 : Int) (z : bU) (u : (Int × bU)) (hf : f_X1_has x1 z = some u) : cI l yX1_has wsX1_has { frames := 0, cells := 0, slots := 0, locals := 0 } E sz [.ref (a 0), .int (zi x1)] (wU a E z) (wU a E u.2) u.1 := by
  refine met_go (cc := cX1_has) (maxL := 2) (ret := (some .boolean)) (Q0 := mQi E (wU a E u.2) u.1) (by decide +kernel) rfl (Nat.le_of_ble_eq_true rfl) ?_
  intro A p e s m below meth c hx hb hr hml hts hown hlocks hP hK hD hA hS ls hl
  have hl : lv_has ls 2 [(0, .ref (a 0)), (1, .int (zi x1))] := hl
  generalize hH : s.heap = H at hP
  have hS : va_S A s.heap H [] := by rw [← hH]; exact hS
  have hown : s.vm.findClass RX1 = some m.cls := hown
  have h := hf
  rw [f_X1_has] at h
  refine lv_iload_n hx hb dX1_has_0 rfl (lv_at hl 1 rfl) ?_
  obtain ⟨g1, h⟩ := gd_t h
  refine iv_lt (tgt := 16) hx hb g1 dX1_has_1 (by decide) (fun c2 => ?_) (fun c2 => ?_)
  · have h := it_t c2 h
    refine iv_iconst hx hb dX1_has_16 ?_
    cases h
    exact iv_zret (r := 0) hx hb hr hlocks (by decide +kernel) hK hP hD hS dX1_has_17
  · have h := it_f c2 h
    refine lv_iload_n hx hb dX1_has_4 rfl (lv_at hl 1 rfl) ?_
    refine lv_aload_n hx hb dX1_has_5 rfl (lv_at hl 0 rfl) ?_
    refine va_get (D := E.1) (ci := 1) (v := .int (zi z.2.2.2.2.2.2)) (C := RX1) (T := TX1) (N := 7) hx hb hts in_X1_has_X1 hown hK.1 hP 0 rfl rfl 6 (by decide) (hts _ wd_X1_has_f30) (fun _ h9 => h9) rfl dX1_has_6 ?_
    obtain ⟨g3, h⟩ := gd_t h
    refine iv_ige (tgt := 16) hx hb g1 g3 dX1_has_9 (by decide) (fun c4 => ?_) (fun c4 => ?_)
    · have h := it_t c4 h
      refine iv_iconst hx hb dX1_has_16 ?_
      cases h
      exact iv_zret (r := 0) hx hb hr hlocks (by decide +kernel) hK hP hD hS dX1_has_17
    · have h := it_f c4 h
      refine iv_iconst hx hb dX1_has_12 ?_
      refine lv_goto (tgt := 17) hx hb dX1_has_13 (by decide) ?_
      cases h
      exact iv_zret (r := 1) hx hb hr hlocks (by decide +kernel) hK hP hD hS dX1_has_17
set_option maxRecDepth 20000 in
theorem wd_X1_brighten_f24 : Cond.fieldLink RX1 24 "ShirtButtons$Buttons" "shine" "[I" ∈ wsX1_brighten := by decide +kernel
set_option maxRecDepth 20000 in
theorem in_X1_brighten_X1 : ∀ w ∈ u_ws RX1 TX1 7, w ∈ wsX1_brighten := by decide +kernel
set_option maxRecDepth 20000 in
theorem wd_X1_brighten_f21 : Cond.fieldLink RX1 21 "ShirtButtons$Buttons" "chips" "[I" ∈ wsX1_brighten := by decide +kernel
set_option maxHeartbeats 4000000 in
set_option maxRecDepth 100000 in
theorem k_X1_brighten (l : Launch) (E : wE) (a : Nat → Nat) (sz : Nat) (x1 : Int) (z : bU) (u : bU) (hf : f_X1_brighten x1 z = some u) : cV l yX1_brighten wsX1_brighten { frames := 0, cells := 0, slots := 0, locals := 0 } E sz [.ref (a 0), .int (zi x1)] (wU a E z) (wU a E u) := by
  refine met_go (cc := cX1_brighten) (maxL := 2) (ret := none) (Q0 := mQv E (wU a E u)) (by decide +kernel) rfl (Nat.le_of_ble_eq_true rfl) ?_
  intro A p e s m below meth c hx hb hr hml hts hown hlocks hP hK hD hA hS ls hl
  have hl : lv_has ls 2 [(0, .ref (a 0)), (1, .int (zi x1))] := hl
  generalize hH : s.heap = H at hP
  have hS : va_S A s.heap H [] := by rw [← hH]; exact hS
  have hown : s.vm.findClass RX1 = some m.cls := hown
  have h := hf
  rw [f_X1_brighten] at h
  refine lv_aload_n hx hb dX1_brighten_0 rfl (lv_at hl 0 rfl) ?_
  refine va_get (D := E.1) (ci := 1) (v := .ref (a 5)) (C := RX1) (T := TX1) (N := 7) hx hb hts in_X1_brighten_X1 hown hK.1 hP 0 rfl rfl 4 (by decide) (hts _ wd_X1_brighten_f24) (fun _ h9 => h9) rfl dX1_brighten_1 ?_
  refine lv_iload_n hx hb dX1_brighten_4 rfl (lv_at hl 1 rfl) ?_
  refine lv_dup2_11 hx hb dX1_brighten_5 rfl rfl ?_
  obtain ⟨g1, h⟩ := gd_t h
  refine iv_iald (f := z.2.2.2.2.1) (j := x1.toNat) hx hb hK.1 hP 5 0 rfl rfl (by decide) g1 rfl dX1_brighten_6 ?_
  refine iv_iconst hx hb dX1_brighten_7 ?_
  refine iv_iadd hx hb dX1_brighten_8 ?_
  obtain ⟨s2, e3, h⟩ := nm_t h
  refine iv_iast (f := z.2.2.2.2.1) (j := x1.toNat) (ws1 := wU a E s2) hx hb hK.1 hP hD hS 5 0 rfl rfl (by decide) g1 rfl (by rw [e3]; rfl) dX1_brighten_9 (fun H locs hP hD hS => ?_)
  refine lv_aload_n hx hb dX1_brighten_10 rfl (lv_at hl 0 rfl) ?_
  refine va_get (D := E.1) (ci := 1) (v := .ref (a 4)) (C := RX1) (T := TX1) (N := 7) hx hb hts in_X1_brighten_X1 hown hK.1 hP 0 rfl rfl 3 (by decide) (hts _ wd_X1_brighten_f21) (fun _ h9 => h9) rfl dX1_brighten_11 ?_
  refine lv_iload_n hx hb dX1_brighten_14 rfl (lv_at hl 1 rfl) ?_
  refine iv_iald (f := s2.2.2.2.1) (j := x1.toNat) hx hb hK.1 hP 4 0 rfl rfl (by decide) g1 rfl dX1_brighten_15 ?_
  obtain ⟨g4, h⟩ := gd_t h
  refine iv_le (tgt := 29) hx hb g4 dX1_brighten_16 (by decide) (fun c5 => ?_) (fun c5 => ?_)
  · have h := it_t c5 h
    cases h
    exact iv_vret hx hb hr hlocks hK hP hD hS dX1_brighten_29
  · have h := it_f c5 h
    refine lv_aload_n hx hb dX1_brighten_19 rfl (lv_at hl 0 rfl) ?_
    refine va_get (D := E.1) (ci := 1) (v := .ref (a 4)) (C := RX1) (T := TX1) (N := 7) hx hb hts in_X1_brighten_X1 hown hK.1 hP 0 rfl rfl 3 (by decide) (hts _ wd_X1_brighten_f21) (fun _ h9 => h9) rfl dX1_brighten_20 ?_
    refine lv_iload_n hx hb dX1_brighten_23 rfl (lv_at hl 1 rfl) ?_
    refine lv_dup2_11 hx hb dX1_brighten_24 rfl rfl ?_
    refine iv_iald (f := s2.2.2.2.1) (j := x1.toNat) hx hb hK.1 hP 4 0 rfl rfl (by decide) g1 rfl dX1_brighten_25 ?_
    refine iv_iconst hx hb dX1_brighten_26 ?_
    refine iv_isub hx hb dX1_brighten_27 ?_
    obtain ⟨s6, e7, h⟩ := nm_t h
    refine iv_iast (f := s2.2.2.2.1) (j := x1.toNat) (ws1 := wU a E s6) hx hb hK.1 hP hD hS 4 0 rfl rfl (by decide) g1 rfl (by rw [e7]; rfl) dX1_brighten_28 (fun H locs hP hD hS => ?_)
    cases h
    exact iv_vret hx hb hr hlocks hK hP hD hS dX1_brighten_29
set_option maxRecDepth 20000 in
theorem wd_X1_chip_f21 : Cond.fieldLink RX1 21 "ShirtButtons$Buttons" "chips" "[I" ∈ wsX1_chip := by decide +kernel
set_option maxRecDepth 20000 in
theorem in_X1_chip_X1 : ∀ w ∈ u_ws RX1 TX1 7, w ∈ wsX1_chip := by decide +kernel
set_option maxHeartbeats 4000000 in
set_option maxRecDepth 100000 in
theorem k_X1_chip (l : Launch) (E : wE) (a : Nat → Nat) (sz : Nat) (x1 : Int) (z : bU) (u : bU) (hf : f_X1_chip x1 z = some u) : cV l yX1_chip wsX1_chip { frames := 0, cells := 0, slots := 0, locals := 0 } E sz [.ref (a 0), .int (zi x1)] (wU a E z) (wU a E u) := by
  refine met_go (cc := cX1_chip) (maxL := 2) (ret := none) (Q0 := mQv E (wU a E u)) (by decide +kernel) rfl (Nat.le_of_ble_eq_true rfl) ?_
  intro A p e s m below meth c hx hb hr hml hts hown hlocks hP hK hD hA hS ls hl
  have hl : lv_has ls 2 [(0, .ref (a 0)), (1, .int (zi x1))] := hl
  generalize hH : s.heap = H at hP
  have hS : va_S A s.heap H [] := by rw [← hH]; exact hS
  have hown : s.vm.findClass RX1 = some m.cls := hown
  have h := hf
  rw [f_X1_chip] at h
  refine lv_aload_n hx hb dX1_chip_0 rfl (lv_at hl 0 rfl) ?_
  refine va_get (D := E.1) (ci := 1) (v := .ref (a 4)) (C := RX1) (T := TX1) (N := 7) hx hb hts in_X1_chip_X1 hown hK.1 hP 0 rfl rfl 3 (by decide) (hts _ wd_X1_chip_f21) (fun _ h9 => h9) rfl dX1_chip_1 ?_
  refine lv_iload_n hx hb dX1_chip_4 rfl (lv_at hl 1 rfl) ?_
  obtain ⟨g1, h⟩ := gd_t h
  refine iv_iald (f := z.2.2.2.1) (j := x1.toNat) hx hb hK.1 hP 4 0 rfl rfl (by decide) g1 rfl dX1_chip_5 ?_
  refine iv_bipush hx hb dX1_chip_6 (by decide +kernel) ?_
  obtain ⟨g2, h⟩ := gd_t h
  refine iv_ige (tgt := 21) hx hb g2 (by decide +kernel) dX1_chip_8 (by decide) (fun c3 => ?_) (fun c3 => ?_)
  · have h := it_t c3 h
    cases h
    exact iv_vret hx hb hr hlocks hK hP hD hS dX1_chip_21
  · have h := it_f c3 h
    refine lv_aload_n hx hb dX1_chip_11 rfl (lv_at hl 0 rfl) ?_
    refine va_get (D := E.1) (ci := 1) (v := .ref (a 4)) (C := RX1) (T := TX1) (N := 7) hx hb hts in_X1_chip_X1 hown hK.1 hP 0 rfl rfl 3 (by decide) (hts _ wd_X1_chip_f21) (fun _ h9 => h9) rfl dX1_chip_12 ?_
    refine lv_iload_n hx hb dX1_chip_15 rfl (lv_at hl 1 rfl) ?_
    refine lv_dup2_11 hx hb dX1_chip_16 rfl rfl ?_
    refine iv_iald (f := z.2.2.2.1) (j := x1.toNat) hx hb hK.1 hP 4 0 rfl rfl (by decide) g1 rfl dX1_chip_17 ?_
    refine iv_iconst hx hb dX1_chip_18 ?_
    refine iv_iadd hx hb dX1_chip_19 ?_
    obtain ⟨s4, e5, h⟩ := nm_t h
    refine iv_iast (f := z.2.2.2.1) (j := x1.toNat) (ws1 := wU a E s4) hx hb hK.1 hP hD hS 4 0 rfl rfl (by decide) g1 rfl (by rw [e5]; rfl) dX1_chip_20 (fun H locs hP hD hS => ?_)
    cases h
    exact iv_vret hx hb hr hlocks hK hP hD hS dX1_chip_21
set_option maxRecDepth 20000 in
theorem wd_X1_chipSum_f30 : Cond.fieldLink RX1 30 "ShirtButtons$Buttons" "count" "I" ∈ wsX1_chipSum := by decide +kernel
set_option maxRecDepth 20000 in
theorem in_X1_chipSum_X1 : ∀ w ∈ u_ws RX1 TX1 7, w ∈ wsX1_chipSum := by decide +kernel
set_option maxRecDepth 20000 in
theorem wd_X1_chipSum_f21 : Cond.fieldLink RX1 21 "ShirtButtons$Buttons" "chips" "[I" ∈ wsX1_chipSum := by decide +kernel
set_option maxHeartbeats 4000000 in
set_option maxRecDepth 100000 in
theorem k_X1_chipSum (l : Launch) (E : wE) (a : Nat → Nat) (sz : Nat) (N : Nat) (z : bU) (u : (Int × bU)) (hf : f_X1_chipSum N z = some u) : cI l yX1_chipSum wsX1_chipSum { frames := 0, cells := 0, slots := 0, locals := 0 } E sz [.ref (a 0)] (wU a E z) (wU a E u.2) u.1 := by
  refine met_go (cc := cX1_chipSum) (maxL := 3) (ret := (some .int)) (Q0 := mQi E (wU a E u.2) u.1) (by decide +kernel) rfl (Nat.le_of_ble_eq_true rfl) ?_
  intro A p e s m below meth c hx hb hr hml hts hown hlocks hP hK hD hA hS ls hl
  have hl : lv_has ls 3 [(0, .ref (a 0))] := hl
  generalize hH : s.heap = H at hP
  have hS : va_S A s.heap H [] := by rw [← hH]; exact hS
  have hown : s.vm.findClass RX1 = some m.cls := hown
  have loop4 : ∀ (n : Nat) (v1 v2 : Int) (s3 : bU) (H : Heap) (locs : List Loc) (ls : Array Slot), f_X1_chipSum_L4 N n v1 v2 s3 = some u → va_P E.1 vwCl (wU a E s3) H → va_D A (wU a E s3) → va_S A s.heap H locs → lv_has ls 3 [(0, .ref (a 0)), (1, .int (zi v1)), (2, .int (zi v2))] → W p l e ({ frames := 0, cells := 0, slots := 0, locals := 0 }) s m ([.ref (a 0)] : List Value).toArray below meth c H locs 0 0 (MQ below (mQi E (wU a E u.2) u.1 A) ([.ref (a 0)] : List Value).toArray s 0 0 A) (F0 m 4 ls []) := by
    intro n
    induction n with
    | zero =>
      intro v1 v2 s3 H locs ls h
      exact absurd (show (none : Option (Int × bU)) = some u from h) (by simp)
    | succ n ih =>
      intro v1 v2 s3 H locs ls h hP hD hS hl
      rw [f_X1_chipSum_L4] at h
      refine lv_iload_n hx hb dX1_chipSum_4 rfl (lv_at hl 2 rfl) ?_
      refine lv_aload_n hx hb dX1_chipSum_5 rfl (lv_at hl 0 rfl) ?_
      refine va_get (D := E.1) (ci := 1) (v := .int (zi s3.2.2.2.2.2.2)) (C := RX1) (T := TX1) (N := 7) hx hb hts in_X1_chipSum_X1 hown hK.1 hP 0 rfl rfl 6 (by decide) (hts _ wd_X1_chipSum_f30) (fun _ h9 => h9) rfl dX1_chipSum_6 ?_
      obtain ⟨g4, h⟩ := gd_t h
      obtain ⟨g5, h⟩ := gd_t h
      refine iv_ige (tgt := 27) hx hb g4 g5 dX1_chipSum_9 (by decide) (fun c6 => ?_) (fun c6 => ?_)
      · have h := it_t c6 h
        refine lv_iload_n hx hb dX1_chipSum_27 rfl (lv_at hl 1 rfl) ?_
        cases h
        exact iv_iret hx hb hr hlocks hK hP hD hS dX1_chipSum_28
      · have h := it_f c6 h
        refine lv_iload_n hx hb dX1_chipSum_12 rfl (lv_at hl 1 rfl) ?_
        refine lv_aload_n hx hb dX1_chipSum_13 rfl (lv_at hl 0 rfl) ?_
        refine va_get (D := E.1) (ci := 1) (v := .ref (a 4)) (C := RX1) (T := TX1) (N := 7) hx hb hts in_X1_chipSum_X1 hown hK.1 hP 0 rfl rfl 3 (by decide) (hts _ wd_X1_chipSum_f21) (fun _ h9 => h9) rfl dX1_chipSum_14 ?_
        refine lv_iload_n hx hb dX1_chipSum_17 rfl (lv_at hl 2 rfl) ?_
        obtain ⟨g7, h⟩ := gd_t h
        refine iv_iald (f := s3.2.2.2.1) (j := v2.toNat) hx hb hK.1 hP 4 0 rfl rfl (by decide) g7 rfl dX1_chipSum_18 ?_
        refine iv_iadd hx hb dX1_chipSum_19 ?_
        obtain ⟨v8, e9, h⟩ := nm_t h
        refine iv_nm e9 ?_
        refine lv_istore_n (lv' := [(1, .int (zi v8)), (0, .ref (a 0)), (2, .int (zi v2))]) hx hb dX1_chipSum_20 rfl hl (by decide) rfl (fun ls hl => ?_)
        refine lv_iinc (v := zi (v2 + 1)) (lv' := [(2, .int (zi (v2 + 1))), (1, .int (zi v8)), (0, .ref (a 0))]) hx hb dX1_chipSum_21 hl (k := 2) rfl (by rw [zi_add]; rfl) (by decide) rfl (fun ls hl => ?_)
        refine lv_goto (tgt := 4) hx hb dX1_chipSum_24 (by decide) ?_
        exact ih v8 (v2 + 1) s3 _ _ _ h hP hD hS (lv_sub hl [2, 1, 0] rfl)
  have h := hf
  rw [f_X1_chipSum] at h
  refine iv_iconst hx hb dX1_chipSum_0 ?_
  refine lv_istore_n (lv' := [(1, .int (zi 0)), (0, .ref (a 0))]) hx hb dX1_chipSum_1 rfl hl (by decide) rfl (fun ls hl => ?_)
  refine iv_iconst hx hb dX1_chipSum_2 ?_
  refine lv_istore_n (lv' := [(2, .int (zi 0)), (1, .int (zi 0)), (0, .ref (a 0))]) hx hb dX1_chipSum_3 rfl hl (by decide) rfl (fun ls hl => ?_)
  exact loop4 N 0 0 z _ _ _ h hP hD hS (lv_sub hl [2, 1, 0] rfl)
set_option maxRecDepth 20000 in
theorem wd_X1_copyFrom_f30 : Cond.fieldLink RX1 30 "ShirtButtons$Buttons" "count" "I" ∈ wsX1_copyFrom := by decide +kernel
set_option maxRecDepth 20000 in
theorem in_X1_copyFrom_X1 : ∀ w ∈ u_ws RX1 TX1 7, w ∈ wsX1_copyFrom := by decide +kernel
set_option maxRecDepth 20000 in
theorem wd_X1_copyFrom_f9 : Cond.fieldLink RX1 9 "ShirtButtons$Buttons" "holes" "[I" ∈ wsX1_copyFrom := by decide +kernel
set_option maxRecDepth 20000 in
theorem wd_X1_copyFrom_m34 : Cond.methodLink RX1 34 arraycopyName ∈ wsX1_copyFrom := by decide +kernel
set_option maxRecDepth 20000 in
theorem wd_X1_copyFrom_acn : Cond.native arraycopyName ∈ wsX1_copyFrom := by decide +kernel
set_option maxRecDepth 20000 in
theorem wd_X1_copyFrom_acs : Cond.static arraycopyName ∈ wsX1_copyFrom := by decide +kernel
set_option maxRecDepth 20000 in
theorem wd_X1_copyFrom_aci : Cond.initialized "java/lang/System" ∈ wsX1_copyFrom := by decide +kernel
set_option maxRecDepth 20000 in
theorem wd_X1_copyFrom_f15 : Cond.fieldLink RX1 15 "ShirtButtons$Buttons" "size" "[I" ∈ wsX1_copyFrom := by decide +kernel
set_option maxRecDepth 20000 in
theorem wd_X1_copyFrom_f18 : Cond.fieldLink RX1 18 "ShirtButtons$Buttons" "iron" "[I" ∈ wsX1_copyFrom := by decide +kernel
set_option maxRecDepth 20000 in
theorem wd_X1_copyFrom_f21 : Cond.fieldLink RX1 21 "ShirtButtons$Buttons" "chips" "[I" ∈ wsX1_copyFrom := by decide +kernel
set_option maxRecDepth 20000 in
theorem wd_X1_copyFrom_f24 : Cond.fieldLink RX1 24 "ShirtButtons$Buttons" "shine" "[I" ∈ wsX1_copyFrom := by decide +kernel
set_option maxRecDepth 20000 in
theorem wd_X1_copyFrom_f27 : Cond.fieldLink RX1 27 "ShirtButtons$Buttons" "sortings" "[I" ∈ wsX1_copyFrom := by decide +kernel
set_option maxHeartbeats 4000000 in
set_option maxRecDepth 100000 in
theorem k_X1_copyFrom (l : Launch) (E : wE) (a b : Nat → Nat) (sz : Nat) (z : bUU) (u : bUU) (hf : f_X1_copyFrom z = some u) : cV l yX1_copyFrom wsX1_copyFrom { frames := 1, cells := 0, slots := 0, locals := 26 } E sz [.ref (a 0), .ref (b 0)] (wUU a b E z) (wUU a b E u) := by
  refine met_go (cc := cX1_copyFrom) (maxL := 2) (ret := none) (Q0 := mQv E (wUU a b E u)) (by decide +kernel) rfl (Nat.le_of_ble_eq_true rfl) ?_
  intro A p e s m below meth c hx hb hr hml hts hown hlocks hP hK hD hA hS ls hl
  have hl : lv_has ls 2 [(0, .ref (a 0)), (1, .ref (b 0))] := hl
  generalize hH : s.heap = H at hP
  have hS : va_S A s.heap H [] := by rw [← hH]; exact hS
  have hown : s.vm.findClass RX1 = some m.cls := hown
  have h := hf
  rw [f_X1_copyFrom] at h
  refine lv_aload_n hx hb dX1_copyFrom_0 rfl (lv_at hl 0 rfl) ?_
  refine lv_aload_n hx hb dX1_copyFrom_1 rfl (lv_at hl 1 rfl) ?_
  refine va_get (D := E.1) (ci := 1) (v := .int (zi z.2.2.2.2.2.2.2)) (C := RX1) (T := TX1) (N := 7) hx hb hts in_X1_copyFrom_X1 hown hK.1 hP 7 rfl rfl 6 (by decide) (hts _ wd_X1_copyFrom_f30) (fun _ h9 => h9) rfl dX1_copyFrom_2 ?_
  obtain ⟨s1, e2, h⟩ := nm_t h
  refine iv_put (D := E.1) (ci := 1) (v := .int (zi z.2.2.2.2.2.2.2)) (ty := .int) (ws1 := wUU a b E s1) (C := RX1) (T := TX1) (N := 7) hx hb hts in_X1_copyFrom_X1 tyX1 tyX1_ok nmX1 hown hK.1 hP hD hS 0 rfl rfl 6 (by decide) (hts _ wd_X1_copyFrom_f30) (fun _ h9 => h9) rfl (by decide +kernel) rfl rfl (Nat.le_of_ble_eq_true rfl) (by rw [e2]; rfl) dX1_copyFrom_5 (fun H locs hP hD hS => ?_)
  refine lv_aload_n hx hb dX1_copyFrom_8 rfl (lv_at hl 1 rfl) ?_
  refine va_get (D := E.1) (ci := 1) (v := .ref (b 1)) (C := RX1) (T := TX1) (N := 7) hx hb hts in_X1_copyFrom_X1 hown hK.1 hP 7 rfl rfl 0 (by decide) (hts _ wd_X1_copyFrom_f9) (fun _ h9 => h9) rfl dX1_copyFrom_9 ?_
  refine iv_iconst hx hb dX1_copyFrom_12 ?_
  refine lv_aload_n hx hb dX1_copyFrom_13 rfl (lv_at hl 0 rfl) ?_
  refine va_get (D := E.1) (ci := 1) (v := .ref (a 1)) (C := RX1) (T := TX1) (N := 7) hx hb hts in_X1_copyFrom_X1 hown hK.1 hP 0 rfl rfl 0 (by decide) (hts _ wd_X1_copyFrom_f9) (fun _ h9 => h9) rfl dX1_copyFrom_14 ?_
  refine iv_iconst hx hb dX1_copyFrom_17 ?_
  refine iv_bipush hx hb dX1_copyFrom_18 (by decide +kernel) ?_
  obtain ⟨s3, e4, h⟩ := nm_t h
  refine iv_copy (f := s1.2.1) (g := s1.1.1) (sp' := 0) (dp' := 0) (K := 41) (ws1 := wUU a b E s3) hx hb (hml.trans hl.1.symm) hown (hts _ wd_X1_copyFrom_m34) (hts _ wd_X1_copyFrom_acn) (hts _ wd_X1_copyFrom_acs) (hts _ wd_X1_copyFrom_aci) hK.1 hP hD hS 8 1 0 0 rfl rfl rfl rfl (by decide +kernel) (by decide +kernel) rfl rfl (by decide +kernel) (by decide) (by decide) (by decide) (by decide) (Nat.le_of_ble_eq_true (by decide +kernel)) (by rw [e4]; rfl) dX1_copyFrom_20 (fun H locs hP hD hS => ?_)
  refine lv_aload_n hx hb dX1_copyFrom_23 rfl (lv_at hl 1 rfl) ?_
  refine va_get (D := E.1) (ci := 1) (v := .ref (b 2)) (C := RX1) (T := TX1) (N := 7) hx hb hts in_X1_copyFrom_X1 hown hK.1 hP 7 rfl rfl 1 (by decide) (hts _ wd_X1_copyFrom_f15) (fun _ h9 => h9) rfl dX1_copyFrom_24 ?_
  refine iv_iconst hx hb dX1_copyFrom_27 ?_
  refine lv_aload_n hx hb dX1_copyFrom_28 rfl (lv_at hl 0 rfl) ?_
  refine va_get (D := E.1) (ci := 1) (v := .ref (a 2)) (C := RX1) (T := TX1) (N := 7) hx hb hts in_X1_copyFrom_X1 hown hK.1 hP 0 rfl rfl 1 (by decide) (hts _ wd_X1_copyFrom_f15) (fun _ h9 => h9) rfl dX1_copyFrom_29 ?_
  refine iv_iconst hx hb dX1_copyFrom_32 ?_
  refine iv_bipush hx hb dX1_copyFrom_33 (by decide +kernel) ?_
  obtain ⟨s5, e6, h⟩ := nm_t h
  refine iv_copy (f := s3.2.2.1) (g := s3.1.2.1) (sp' := 0) (dp' := 0) (K := 41) (ws1 := wUU a b E s5) hx hb (hml.trans hl.1.symm) hown (hts _ wd_X1_copyFrom_m34) (hts _ wd_X1_copyFrom_acn) (hts _ wd_X1_copyFrom_acs) (hts _ wd_X1_copyFrom_aci) hK.1 hP hD hS 9 2 0 0 rfl rfl rfl rfl (by decide +kernel) (by decide +kernel) rfl rfl (by decide +kernel) (by decide) (by decide) (by decide) (by decide) (Nat.le_of_ble_eq_true (by decide +kernel)) (by rw [e6]; rfl) dX1_copyFrom_35 (fun H locs hP hD hS => ?_)
  refine lv_aload_n hx hb dX1_copyFrom_38 rfl (lv_at hl 1 rfl) ?_
  refine va_get (D := E.1) (ci := 1) (v := .ref (b 3)) (C := RX1) (T := TX1) (N := 7) hx hb hts in_X1_copyFrom_X1 hown hK.1 hP 7 rfl rfl 2 (by decide) (hts _ wd_X1_copyFrom_f18) (fun _ h9 => h9) rfl dX1_copyFrom_39 ?_
  refine iv_iconst hx hb dX1_copyFrom_42 ?_
  refine lv_aload_n hx hb dX1_copyFrom_43 rfl (lv_at hl 0 rfl) ?_
  refine va_get (D := E.1) (ci := 1) (v := .ref (a 3)) (C := RX1) (T := TX1) (N := 7) hx hb hts in_X1_copyFrom_X1 hown hK.1 hP 0 rfl rfl 2 (by decide) (hts _ wd_X1_copyFrom_f18) (fun _ h9 => h9) rfl dX1_copyFrom_44 ?_
  refine iv_iconst hx hb dX1_copyFrom_47 ?_
  refine iv_bipush hx hb dX1_copyFrom_48 (by decide +kernel) ?_
  obtain ⟨s7, e8, h⟩ := nm_t h
  refine iv_copy (f := s5.2.2.2.1) (g := s5.1.2.2.1) (sp' := 0) (dp' := 0) (K := 41) (ws1 := wUU a b E s7) hx hb (hml.trans hl.1.symm) hown (hts _ wd_X1_copyFrom_m34) (hts _ wd_X1_copyFrom_acn) (hts _ wd_X1_copyFrom_acs) (hts _ wd_X1_copyFrom_aci) hK.1 hP hD hS 10 3 0 0 rfl rfl rfl rfl (by decide +kernel) (by decide +kernel) rfl rfl (by decide +kernel) (by decide) (by decide) (by decide) (by decide) (Nat.le_of_ble_eq_true (by decide +kernel)) (by rw [e8]; rfl) dX1_copyFrom_50 (fun H locs hP hD hS => ?_)
  refine lv_aload_n hx hb dX1_copyFrom_53 rfl (lv_at hl 1 rfl) ?_
  refine va_get (D := E.1) (ci := 1) (v := .ref (b 4)) (C := RX1) (T := TX1) (N := 7) hx hb hts in_X1_copyFrom_X1 hown hK.1 hP 7 rfl rfl 3 (by decide) (hts _ wd_X1_copyFrom_f21) (fun _ h9 => h9) rfl dX1_copyFrom_54 ?_
  refine iv_iconst hx hb dX1_copyFrom_57 ?_
  refine lv_aload_n hx hb dX1_copyFrom_58 rfl (lv_at hl 0 rfl) ?_
  refine va_get (D := E.1) (ci := 1) (v := .ref (a 4)) (C := RX1) (T := TX1) (N := 7) hx hb hts in_X1_copyFrom_X1 hown hK.1 hP 0 rfl rfl 3 (by decide) (hts _ wd_X1_copyFrom_f21) (fun _ h9 => h9) rfl dX1_copyFrom_59 ?_
  refine iv_iconst hx hb dX1_copyFrom_62 ?_
  refine iv_bipush hx hb dX1_copyFrom_63 (by decide +kernel) ?_
  obtain ⟨s9, e10, h⟩ := nm_t h
  refine iv_copy (f := s7.2.2.2.2.1) (g := s7.1.2.2.2.1) (sp' := 0) (dp' := 0) (K := 41) (ws1 := wUU a b E s9) hx hb (hml.trans hl.1.symm) hown (hts _ wd_X1_copyFrom_m34) (hts _ wd_X1_copyFrom_acn) (hts _ wd_X1_copyFrom_acs) (hts _ wd_X1_copyFrom_aci) hK.1 hP hD hS 11 4 0 0 rfl rfl rfl rfl (by decide +kernel) (by decide +kernel) rfl rfl (by decide +kernel) (by decide) (by decide) (by decide) (by decide) (Nat.le_of_ble_eq_true (by decide +kernel)) (by rw [e10]; rfl) dX1_copyFrom_65 (fun H locs hP hD hS => ?_)
  refine lv_aload_n hx hb dX1_copyFrom_68 rfl (lv_at hl 1 rfl) ?_
  refine va_get (D := E.1) (ci := 1) (v := .ref (b 5)) (C := RX1) (T := TX1) (N := 7) hx hb hts in_X1_copyFrom_X1 hown hK.1 hP 7 rfl rfl 4 (by decide) (hts _ wd_X1_copyFrom_f24) (fun _ h9 => h9) rfl dX1_copyFrom_69 ?_
  refine iv_iconst hx hb dX1_copyFrom_72 ?_
  refine lv_aload_n hx hb dX1_copyFrom_73 rfl (lv_at hl 0 rfl) ?_
  refine va_get (D := E.1) (ci := 1) (v := .ref (a 5)) (C := RX1) (T := TX1) (N := 7) hx hb hts in_X1_copyFrom_X1 hown hK.1 hP 0 rfl rfl 4 (by decide) (hts _ wd_X1_copyFrom_f24) (fun _ h9 => h9) rfl dX1_copyFrom_74 ?_
  refine iv_iconst hx hb dX1_copyFrom_77 ?_
  refine iv_bipush hx hb dX1_copyFrom_78 (by decide +kernel) ?_
  obtain ⟨s11, e12, h⟩ := nm_t h
  refine iv_copy (f := s9.2.2.2.2.2.1) (g := s9.1.2.2.2.2.1) (sp' := 0) (dp' := 0) (K := 41) (ws1 := wUU a b E s11) hx hb (hml.trans hl.1.symm) hown (hts _ wd_X1_copyFrom_m34) (hts _ wd_X1_copyFrom_acn) (hts _ wd_X1_copyFrom_acs) (hts _ wd_X1_copyFrom_aci) hK.1 hP hD hS 12 5 0 0 rfl rfl rfl rfl (by decide +kernel) (by decide +kernel) rfl rfl (by decide +kernel) (by decide) (by decide) (by decide) (by decide) (Nat.le_of_ble_eq_true (by decide +kernel)) (by rw [e12]; rfl) dX1_copyFrom_80 (fun H locs hP hD hS => ?_)
  refine lv_aload_n hx hb dX1_copyFrom_83 rfl (lv_at hl 1 rfl) ?_
  refine va_get (D := E.1) (ci := 1) (v := .ref (b 6)) (C := RX1) (T := TX1) (N := 7) hx hb hts in_X1_copyFrom_X1 hown hK.1 hP 7 rfl rfl 5 (by decide) (hts _ wd_X1_copyFrom_f27) (fun _ h9 => h9) rfl dX1_copyFrom_84 ?_
  refine iv_iconst hx hb dX1_copyFrom_87 ?_
  refine lv_aload_n hx hb dX1_copyFrom_88 rfl (lv_at hl 0 rfl) ?_
  refine va_get (D := E.1) (ci := 1) (v := .ref (a 6)) (C := RX1) (T := TX1) (N := 7) hx hb hts in_X1_copyFrom_X1 hown hK.1 hP 0 rfl rfl 5 (by decide) (hts _ wd_X1_copyFrom_f27) (fun _ h9 => h9) rfl dX1_copyFrom_89 ?_
  refine iv_iconst hx hb dX1_copyFrom_92 ?_
  refine iv_bipush hx hb dX1_copyFrom_93 (by decide +kernel) ?_
  obtain ⟨s13, e14, h⟩ := nm_t h
  refine iv_copy (f := s11.2.2.2.2.2.2.1) (g := s11.1.2.2.2.2.2.1) (sp' := 0) (dp' := 0) (K := 41) (ws1 := wUU a b E s13) hx hb (hml.trans hl.1.symm) hown (hts _ wd_X1_copyFrom_m34) (hts _ wd_X1_copyFrom_acn) (hts _ wd_X1_copyFrom_acs) (hts _ wd_X1_copyFrom_aci) hK.1 hP hD hS 13 6 0 0 rfl rfl rfl rfl (by decide +kernel) (by decide +kernel) rfl rfl (by decide +kernel) (by decide) (by decide) (by decide) (by decide) (Nat.le_of_ble_eq_true (by decide +kernel)) (by rw [e14]; rfl) dX1_copyFrom_95 (fun H locs hP hD hS => ?_)
  cases h
  exact iv_vret hx hb hr hlocks hK hP hD hS dX1_copyFrom_98
set_option maxHeartbeats 4000000 in
set_option maxRecDepth 100000 in
theorem k_X7_isBin (l : Launch) (E : wE) (sz : Nat) (x0 : Int) (u : Int) (hf : f_X7_isBin x0  = some u) : cI l yX7_isBin wsX7_isBin { frames := 0, cells := 0, slots := 0, locals := 0 } E sz [.int (zi x0)] ([]) ([]) u := by
  refine met_go (cc := cX7_isBin) (maxL := 1) (ret := (some .boolean)) (Q0 := mQi E ([]) u) (by decide +kernel) rfl (Nat.le_of_ble_eq_true rfl) ?_
  intro A p e s m below meth c hx hb hr hml hts hown hlocks hP hK hD hA hS ls hl
  have hl : lv_has ls 1 [(0, .int (zi x0))] := hl
  generalize hH : s.heap = H at hP
  have hS : va_S A s.heap H [] := by rw [← hH]; exact hS
  have hown : s.vm.findClass RX7 = some m.cls := hown
  have h := hf
  rw [f_X7_isBin] at h
  refine lv_iload_n hx hb dX7_isBin_0 rfl (lv_at hl 0 rfl) ?_
  obtain ⟨g1, h⟩ := gd_t h
  refine iv_lt (tgt := 14) hx hb g1 dX7_isBin_1 (by decide) (fun c2 => ?_) (fun c2 => ?_)
  · have h := it_t c2 h
    refine iv_iconst hx hb dX7_isBin_14 ?_
    cases h
    exact iv_zret (r := 0) hx hb hr hlocks (by decide +kernel) hK hP hD hS dX7_isBin_15
  · have h := it_f c2 h
    refine lv_iload_n hx hb dX7_isBin_4 rfl (lv_at hl 0 rfl) ?_
    refine iv_bipush hx hb dX7_isBin_5 (by decide +kernel) ?_
    refine iv_ige (tgt := 14) hx hb g1 (by decide +kernel) dX7_isBin_7 (by decide) (fun c3 => ?_) (fun c3 => ?_)
    · have h := it_t c3 h
      refine iv_iconst hx hb dX7_isBin_14 ?_
      cases h
      exact iv_zret (r := 0) hx hb hr hlocks (by decide +kernel) hK hP hD hS dX7_isBin_15
    · have h := it_f c3 h
      refine iv_iconst hx hb dX7_isBin_10 ?_
      refine lv_goto (tgt := 15) hx hb dX7_isBin_11 (by decide) ?_
      cases h
      exact iv_zret (r := 1) hx hb hr hlocks (by decide +kernel) hK hP hD hS dX7_isBin_15
set_option maxHeartbeats 4000000 in
set_option maxRecDepth 100000 in
theorem k_X7_isPlace (l : Launch) (E : wE) (sz : Nat) (x0 : Int) (u : Int) (hf : f_X7_isPlace x0  = some u) : cI l yX7_isPlace wsX7_isPlace { frames := 0, cells := 0, slots := 0, locals := 0 } E sz [.int (zi x0)] ([]) ([]) u := by
  refine met_go (cc := cX7_isPlace) (maxL := 1) (ret := (some .boolean)) (Q0 := mQi E ([]) u) (by decide +kernel) rfl (Nat.le_of_ble_eq_true rfl) ?_
  intro A p e s m below meth c hx hb hr hml hts hown hlocks hP hK hD hA hS ls hl
  have hl : lv_has ls 1 [(0, .int (zi x0))] := hl
  generalize hH : s.heap = H at hP
  have hS : va_S A s.heap H [] := by rw [← hH]; exact hS
  have hown : s.vm.findClass RX7 = some m.cls := hown
  have h := hf
  rw [f_X7_isPlace] at h
  refine lv_iload_n hx hb dX7_isPlace_0 rfl (lv_at hl 0 rfl) ?_
  obtain ⟨g1, h⟩ := gd_t h
  refine iv_lt (tgt := 14) hx hb g1 dX7_isPlace_1 (by decide) (fun c2 => ?_) (fun c2 => ?_)
  · have h := it_t c2 h
    refine iv_iconst hx hb dX7_isPlace_14 ?_
    cases h
    exact iv_zret (r := 0) hx hb hr hlocks (by decide +kernel) hK hP hD hS dX7_isPlace_15
  · have h := it_f c2 h
    refine lv_iload_n hx hb dX7_isPlace_4 rfl (lv_at hl 0 rfl) ?_
    refine iv_bipush hx hb dX7_isPlace_5 (by decide +kernel) ?_
    refine iv_ige (tgt := 14) hx hb g1 (by decide +kernel) dX7_isPlace_7 (by decide) (fun c3 => ?_) (fun c3 => ?_)
    · have h := it_t c3 h
      refine iv_iconst hx hb dX7_isPlace_14 ?_
      cases h
      exact iv_zret (r := 0) hx hb hr hlocks (by decide +kernel) hK hP hD hS dX7_isPlace_15
    · have h := it_f c3 h
      refine iv_iconst hx hb dX7_isPlace_10 ?_
      refine lv_goto (tgt := 15) hx hb dX7_isPlace_11 (by decide) ?_
      cases h
      exact iv_zret (r := 1) hx hb hr hlocks (by decide +kernel) hK hP hD hS dX7_isPlace_15
